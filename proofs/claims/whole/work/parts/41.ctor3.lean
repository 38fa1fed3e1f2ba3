theorem d_Chain_init_0 : decode b_Chain_init 0 = .ok (.aload_n 0, 1) := by decide +kernel
theorem d_Chain_init_1 : decode b_Chain_init 1 = .ok (.invokespecial 3, 3) := by decide +kernel
theorem d_Chain_init_4 : decode b_Chain_init 4 = .ok (.aload_n 0, 1) := by decide +kernel
theorem d_Chain_init_5 : decode b_Chain_init 5 = .ok (.bipush 12, 2) := by decide +kernel
theorem d_Chain_init_7 : decode b_Chain_init 7 = .ok (.anewarray 9, 3) := by decide +kernel
theorem d_Chain_init_10 : decode b_Chain_init 10 = .ok (.putfield 11, 3) := by decide +kernel
theorem d_Chain_init_13 : decode b_Chain_init 13 = .ok (.aload_n 0, 1) := by decide +kernel
theorem d_Chain_init_14 : decode b_Chain_init 14 = .ok (.iload_n 1, 1) := by decide +kernel
theorem d_Chain_init_15 : decode b_Chain_init 15 = .ok (.putfield 17, 3) := by decide +kernel
theorem d_Chain_init_18 : decode b_Chain_init 18 = .ok (.iconst 0, 1) := by decide +kernel
theorem d_Chain_init_19 : decode b_Chain_init 19 = .ok (.istore_n 2, 1) := by decide +kernel
theorem d_Chain_init_20 : decode b_Chain_init 20 = .ok (.iload_n 2, 1) := by decide +kernel
theorem d_Chain_init_21 : decode b_Chain_init 21 = .ok (.bipush 12, 2) := by decide +kernel
theorem d_Chain_init_23 : decode b_Chain_init 23 = .ok (.if_icmp .ge 22, 3) := by decide +kernel
theorem d_Chain_init_26 : decode b_Chain_init 26 = .ok (.aload_n 0, 1) := by decide +kernel
theorem d_Chain_init_27 : decode b_Chain_init 27 = .ok (.getfield 11, 3) := by decide +kernel
theorem d_Chain_init_30 : decode b_Chain_init 30 = .ok (.iload_n 2, 1) := by decide +kernel
theorem d_Chain_init_31 : decode b_Chain_init 31 = .ok (.new 9, 3) := by decide +kernel
theorem d_Chain_init_34 : decode b_Chain_init 34 = .ok (.dup, 1) := by decide +kernel
theorem d_Chain_init_35 : decode b_Chain_init 35 = .ok (.invokespecial 21, 3) := by decide +kernel
theorem d_Chain_init_38 : decode b_Chain_init 38 = .ok (.aastore, 1) := by decide +kernel
theorem d_Chain_init_39 : decode b_Chain_init 39 = .ok (.iinc 2 1, 3) := by decide +kernel
theorem d_Chain_init_42 : decode b_Chain_init 42 = .ok (.goto (-22), 3) := by decide +kernel
theorem d_Chain_init_45 : decode b_Chain_init 45 = .ok (.aload_n 0, 1) := by decide +kernel
theorem d_Chain_init_46 : decode b_Chain_init 46 = .ok (.iconst 0, 1) := by decide +kernel
theorem d_Chain_init_47 : decode b_Chain_init 47 = .ok (.putfield 22, 3) := by decide +kernel
theorem d_Chain_init_50 : decode b_Chain_init 50 = .ok (.aload_n 0, 1) := by decide +kernel
theorem d_Chain_init_51 : decode b_Chain_init 51 = .ok (.iconst 0, 1) := by decide +kernel
theorem d_Chain_init_52 : decode b_Chain_init 52 = .ok (.putfield 25, 3) := by decide +kernel
theorem d_Chain_init_55 : decode b_Chain_init 55 = .ok (.return_, 1) := by decide +kernel
theorem d_Draft_init_0 : decode b_Draft_init 0 = .ok (.aload_n 0, 1) := by decide +kernel
theorem d_Draft_init_1 : decode b_Draft_init 1 = .ok (.invokespecial 3, 3) := by decide +kernel
theorem d_Draft_init_4 : decode b_Draft_init 4 = .ok (.aload_n 0, 1) := by decide +kernel
theorem d_Draft_init_5 : decode b_Draft_init 5 = .ok (.iconst 2, 1) := by decide +kernel
theorem d_Draft_init_6 : decode b_Draft_init 6 = .ok (.anewarray 9, 3) := by decide +kernel
theorem d_Draft_init_9 : decode b_Draft_init 9 = .ok (.putfield 11, 3) := by decide +kernel
theorem d_Draft_init_12 : decode b_Draft_init 12 = .ok (.aload_n 0, 1) := by decide +kernel
theorem d_Draft_init_13 : decode b_Draft_init 13 = .ok (.iconst 2, 1) := by decide +kernel
theorem d_Draft_init_14 : decode b_Draft_init 14 = .ok (.anewarray 17, 3) := by decide +kernel
theorem d_Draft_init_17 : decode b_Draft_init 17 = .ok (.putfield 19, 3) := by decide +kernel
theorem d_Draft_init_20 : decode b_Draft_init 20 = .ok (.iconst 0, 1) := by decide +kernel
theorem d_Draft_init_21 : decode b_Draft_init 21 = .ok (.istore_n 1, 1) := by decide +kernel
theorem d_Draft_init_22 : decode b_Draft_init 22 = .ok (.iload_n 1, 1) := by decide +kernel
theorem d_Draft_init_23 : decode b_Draft_init 23 = .ok (.iconst 2, 1) := by decide +kernel
theorem d_Draft_init_24 : decode b_Draft_init 24 = .ok (.if_icmp .ge 22, 3) := by decide +kernel
theorem d_Draft_init_27 : decode b_Draft_init 27 = .ok (.aload_n 0, 1) := by decide +kernel
theorem d_Draft_init_28 : decode b_Draft_init 28 = .ok (.getfield 11, 3) := by decide +kernel
theorem d_Draft_init_31 : decode b_Draft_init 31 = .ok (.iload_n 1, 1) := by decide +kernel
theorem d_Draft_init_32 : decode b_Draft_init 32 = .ok (.new 9, 3) := by decide +kernel
theorem d_Draft_init_35 : decode b_Draft_init 35 = .ok (.dup, 1) := by decide +kernel
theorem d_Draft_init_36 : decode b_Draft_init 36 = .ok (.invokespecial 23, 3) := by decide +kernel
theorem d_Draft_init_39 : decode b_Draft_init 39 = .ok (.aastore, 1) := by decide +kernel
theorem d_Draft_init_40 : decode b_Draft_init 40 = .ok (.iinc 1 1, 3) := by decide +kernel
theorem d_Draft_init_43 : decode b_Draft_init 43 = .ok (.goto (-21), 3) := by decide +kernel
theorem d_Draft_init_46 : decode b_Draft_init 46 = .ok (.iconst 0, 1) := by decide +kernel
theorem d_Draft_init_47 : decode b_Draft_init 47 = .ok (.istore_n 1, 1) := by decide +kernel
theorem d_Draft_init_48 : decode b_Draft_init 48 = .ok (.iload_n 1, 1) := by decide +kernel
theorem d_Draft_init_49 : decode b_Draft_init 49 = .ok (.iconst 2, 1) := by decide +kernel
theorem d_Draft_init_50 : decode b_Draft_init 50 = .ok (.if_icmp .ge 22, 3) := by decide +kernel
theorem d_Draft_init_53 : decode b_Draft_init 53 = .ok (.aload_n 0, 1) := by decide +kernel
theorem d_Draft_init_54 : decode b_Draft_init 54 = .ok (.getfield 19, 3) := by decide +kernel
theorem d_Draft_init_57 : decode b_Draft_init 57 = .ok (.iload_n 1, 1) := by decide +kernel
theorem d_Draft_init_58 : decode b_Draft_init 58 = .ok (.new 17, 3) := by decide +kernel
theorem d_Draft_init_61 : decode b_Draft_init 61 = .ok (.dup, 1) := by decide +kernel
theorem d_Draft_init_62 : decode b_Draft_init 62 = .ok (.invokespecial 24, 3) := by decide +kernel
theorem d_Draft_init_65 : decode b_Draft_init 65 = .ok (.aastore, 1) := by decide +kernel
theorem d_Draft_init_66 : decode b_Draft_init 66 = .ok (.iinc 1 1, 3) := by decide +kernel
theorem d_Draft_init_69 : decode b_Draft_init 69 = .ok (.goto (-21), 3) := by decide +kernel
theorem d_Draft_init_72 : decode b_Draft_init 72 = .ok (.return_, 1) := by decide +kernel
theorem d_P_init_0 : decode b_P_init 0 = .ok (.aload_n 0, 1) := by decide +kernel
theorem d_P_init_1 : decode b_P_init 1 = .ok (.invokespecial 1, 3) := by decide +kernel
theorem d_P_init_4 : decode b_P_init 4 = .ok (.aload_n 0, 1) := by decide +kernel
theorem d_P_init_5 : decode b_P_init 5 = .ok (.new 7, 3) := by decide +kernel
theorem d_P_init_8 : decode b_P_init 8 = .ok (.dup, 1) := by decide +kernel
theorem d_P_init_9 : decode b_P_init 9 = .ok (.invokespecial 9, 3) := by decide +kernel
theorem d_P_init_12 : decode b_P_init 12 = .ok (.putfield 10, 3) := by decide +kernel
theorem d_P_init_15 : decode b_P_init 15 = .ok (.aload_n 0, 1) := by decide +kernel
theorem d_P_init_16 : decode b_P_init 16 = .ok (.new 16, 3) := by decide +kernel
theorem d_P_init_19 : decode b_P_init 19 = .ok (.dup, 1) := by decide +kernel
theorem d_P_init_20 : decode b_P_init 20 = .ok (.aload_n 0, 1) := by decide +kernel
theorem d_P_init_21 : decode b_P_init 21 = .ok (.getfield 10, 3) := by decide +kernel
theorem d_P_init_24 : decode b_P_init 24 = .ok (.invokespecial 18, 3) := by decide +kernel
theorem d_P_init_27 : decode b_P_init 27 = .ok (.putfield 21, 3) := by decide +kernel
theorem d_P_init_30 : decode b_P_init 30 = .ok (.aload_n 0, 1) := by decide +kernel
theorem d_P_init_31 : decode b_P_init 31 = .ok (.new 25, 3) := by decide +kernel
theorem d_P_init_34 : decode b_P_init 34 = .ok (.dup, 1) := by decide +kernel
theorem d_P_init_35 : decode b_P_init 35 = .ok (.aload_n 0, 1) := by decide +kernel
theorem d_P_init_36 : decode b_P_init 36 = .ok (.getfield 21, 3) := by decide +kernel
theorem d_P_init_39 : decode b_P_init 39 = .ok (.invokevirtual 27, 3) := by decide +kernel
theorem d_P_init_42 : decode b_P_init 42 = .ok (.invokespecial 31, 3) := by decide +kernel
theorem d_P_init_45 : decode b_P_init 45 = .ok (.putfield 34, 3) := by decide +kernel
theorem d_P_init_48 : decode b_P_init 48 = .ok (.aload_n 0, 1) := by decide +kernel
theorem d_P_init_49 : decode b_P_init 49 = .ok (.new 38, 3) := by decide +kernel
theorem d_P_init_52 : decode b_P_init 52 = .ok (.dup, 1) := by decide +kernel
theorem d_P_init_53 : decode b_P_init 53 = .ok (.invokespecial 40, 3) := by decide +kernel
theorem d_P_init_56 : decode b_P_init 56 = .ok (.putfield 41, 3) := by decide +kernel
theorem d_P_init_59 : decode b_P_init 59 = .ok (.aload_n 0, 1) := by decide +kernel
theorem d_P_init_60 : decode b_P_init 60 = .ok (.iconst 4, 1) := by decide +kernel
theorem d_P_init_61 : decode b_P_init 61 = .ok (.anewarray 45, 3) := by decide +kernel
theorem d_P_init_64 : decode b_P_init 64 = .ok (.putfield 47, 3) := by decide +kernel
theorem d_P_init_67 : decode b_P_init 67 = .ok (.iconst 0, 1) := by decide +kernel
theorem d_P_init_68 : decode b_P_init 68 = .ok (.istore_n 1, 1) := by decide +kernel
theorem d_P_init_69 : decode b_P_init 69 = .ok (.iload_n 1, 1) := by decide +kernel
theorem d_P_init_70 : decode b_P_init 70 = .ok (.iconst 4, 1) := by decide +kernel
theorem d_P_init_71 : decode b_P_init 71 = .ok (.if_icmp .ge 22, 3) := by decide +kernel
theorem d_P_init_74 : decode b_P_init 74 = .ok (.aload_n 0, 1) := by decide +kernel
theorem d_P_init_75 : decode b_P_init 75 = .ok (.getfield 47, 3) := by decide +kernel
theorem d_P_init_78 : decode b_P_init 78 = .ok (.iload_n 1, 1) := by decide +kernel
theorem d_P_init_79 : decode b_P_init 79 = .ok (.new 45, 3) := by decide +kernel
theorem d_P_init_82 : decode b_P_init 82 = .ok (.dup, 1) := by decide +kernel
theorem d_P_init_83 : decode b_P_init 83 = .ok (.invokespecial 51, 3) := by decide +kernel
theorem d_P_init_86 : decode b_P_init 86 = .ok (.aastore, 1) := by decide +kernel
theorem d_P_init_87 : decode b_P_init 87 = .ok (.iinc 1 1, 3) := by decide +kernel
theorem d_P_init_90 : decode b_P_init 90 = .ok (.goto (-21), 3) := by decide +kernel
theorem d_P_init_93 : decode b_P_init 93 = .ok (.aload_n 0, 1) := by decide +kernel
theorem d_P_init_94 : decode b_P_init 94 = .ok (.iconst 0, 1) := by decide +kernel
theorem d_P_init_95 : decode b_P_init 95 = .ok (.putfield 52, 3) := by decide +kernel
theorem d_P_init_98 : decode b_P_init 98 = .ok (.return_, 1) := by decide +kernel

set_option maxHeartbeats 4000000 in
set_option maxRecDepth 100000 in
theorem c_Chain_init (l : Launch) (G : yG) (z : Nat) (r : Int) : Met l y_Chain_init (Cond.code y_Chain_init b_Chain_init 3 (Option.none : Option Jvm.ClassFile.FieldType) :: yT) ({ frames := 2, cells := 25, slots := 96, locals := 40 } : Room) (yPn G z 17 4 [.null, .int (J 0), .int (J 0), .int (J 0)] (fun _ => True) [.ref (z + 17), .int (J (r))]) (yQn G yLP 17 26 z (fun τ => τ = (y2 (fun _ _ => 0) 17 1 r))) 25 96 (fun b9 => z + 17 ≤ b9) := by
  refine y_met (by decide +kernel) (Nat.le_of_ble_eq_true rfl) ?_
  intro p e s m below meth c ls hx hb hr hml hlocks hown hname hts hv hl
  have hA : ∀ w ∈ yT, w.before _ s = true := fun w h => hts w (List.mem_cons_of_mem _ h)
  obtain ⟨hat, hsz, hB, hK2⟩ := hv
  have hK := hK2.1
  have hl : lv_has ls 3 [(0, .ref (z + 17)), (1, .int (J (r)))] := hl
  have hX : xX ycl G (fun _ => .inr (4, [.null, .int (J 0), .int (J 0), .int (J 0)])) 17 1 z s.heap := xX_of (fun c hc => by have e : c = 17 := (by omega); subst e; exact hat)
  have hS : va_S (fun b9 => z + 17 ≤ b9) s.heap s.heap [] := va_S.rf
  have hAr : ∀ b9, 17 ≤ b9 → (fun b9 => z + 17 ≤ b9) (z + b9) := fun b9 h => Nat.add_le_add_left h z
  refine lv_aload_n hx hb d_Chain_init_0 rfl (lv_at hl 0 rfl) ?_
  refine W.objInit hx hb hown (hA _ k_ml_Chain_3) (hA _ k_im_Object_init) (hA _ k_co_Object_init) rfl (by rw [hml]; exact hl.1) rfl d_Chain_init_1 (Nat.le_of_ble_eq_true rfl) (Nat.le_of_ble_eq_true rfl) ?_
  refine W.eq (g2 := F0 m 4 ls []) rfl ?_
  refine lv_aload_n hx hb d_Chain_init_4 rfl (lv_at hl 0 rfl) ?_
  refine lv_bipush (v := J (12)) hx hb d_Chain_init_5 (by decide) ?_
  refine x_sz hX (by omega) (by omega) (fun hZ => ?_)
  refine x_newq hx hb hown (hA _ k_cl_Chain_9) hK2.2.1 (y_ra (hK.1.2 5 _ rfl).2) hX hS hZ (by decide +kernel) (N' := 12) (by decide +kernel) (by decide) (by show _ ≤ 25; omega) (by show _ ≤ 96; omega) d_Chain_init_7 (fun H hX hS => ?_)
  have hX : xX ycl G (eu _ 18 _) 17 2 z H := hX
  refine W.eq (g2 := F0 m 10 ls [.ref (z + 18), .ref (z + 17)]) rfl ?_
  refine x_putF (ty := (.array (.object "NotePool$Block"))) hx hb hA in_Chain t_Chain tk_Chain nm_Chain hown hK.1 hX hAr hS 17 (by omega) ((eu_ne (by omega)).trans rfl) rfl 0 (by decide) (hA _ k_fl_Chain_11) rfl hname rfl (by decide +kernel) rfl rfl (Nat.le_of_ble_eq_true rfl) d_Chain_init_10 (fun H locs hX hS => ?_)
  refine lv_aload_n hx hb d_Chain_init_13 rfl (lv_at hl 0 rfl) ?_
  refine lv_iload_n hx hb d_Chain_init_14 rfl (lv_at hl 1 rfl) ?_
  refine x_putF (ty := .int) hx hb hA in_Chain t_Chain tk_Chain nm_Chain hown hK.1 hX hAr hS 17 (by omega) eu_at rfl 1 (by decide) (hA _ k_fl_Chain_17) rfl hname rfl (by decide +kernel) rfl rfl (Nat.le_of_ble_eq_true rfl) d_Chain_init_15 (fun H locs hX hS => ?_)
  refine lv_iconst (v := J (0)) hx hb d_Chain_init_18 rfl ?_
  refine lv_istore_n (lv' := [(2, .int (J (0))), (0, .ref (z + 17)), (1, .int (J (r)))]) hx hb d_Chain_init_19 rfl hl (by decide) rfl (fun ls hl => ?_)
  have loop20 : ∀ (q9 j : Nat), j + q9 = 12 → ∀ (E : Nat → va_E), E 17 = .inr (4, [.ref (z + 18), .int (J r), .int (J 0), .int (J 0)]) → E 18 = .inl (G.2 5, 12, .inr (.inr (.inr (.inr (rfj (fun i => z + (19 + 2 * i)) j))))) → (∀ c, 19 ≤ c ∧ c < 19 + 2 * j → E c = yC yLP G.2 z (fun _ _ => 0) c) → ∀ (ls : Array Slot) (H : Heap) (locs : List Loc), xX ycl G E 17 (2 + 2 * j) z H → va_S (fun b9 => z + 17 ≤ b9) s.heap H locs → lv_has ls 3 [(2, .int (J (((j : Nat) : Int)))), (0, .ref (z + 17)), (1, .int (J (r)))] → W p l e ({ frames := 2, cells := 25, slots := 96, locals := 40 } : Room) s m ([.ref (z + 17), .int (J (r))] : List Value).toArray below meth c H locs (1 + 2 * j) (12 + 7 * j) (MQ below (yQn G yLP 17 26 z (fun τ => τ = (y2 (fun _ _ => 0) 17 1 r))) ([.ref (z + 17), .int (J (r))] : List Value).toArray s 25 96 (fun b9 => z + 17 ≤ b9)) (F0 m 20 ls []) := by
    intro q9
    induction q9 with
    | zero =>
      intro j hjk E hE17 hE18 hEc ls H locs hX hS hl
      have hjN : j = 12 := by omega
      subst hjN
      have hX := xX_re (g := fun i => some (((fun i => z + (19 + 2 * i))) i)) hX (by omega) hE18 rfj_all
      refine lv_iload_n hx hb d_Chain_init_20 rfl (lv_at hl 0 rfl) ?_
      refine lv_bipush (v := J (12)) hx hb d_Chain_init_21 (by decide) ?_
      refine y_icmp_ge (tgt := 45) hx hb d_Chain_init_23 (by decide) ⟨by omega, by omega⟩ ⟨by omega, by omega⟩ (fun hc1 => ?_) (fun hc1 => absurd hc1 (by omega))
      refine lv_aload_n hx hb d_Chain_init_45 rfl (lv_at hl 1 rfl) ?_
      refine lv_iconst (v := J (0)) hx hb d_Chain_init_46 rfl ?_
      refine x_put (ty := .int) hx hb hA in_Chain t_Chain tk_Chain nm_Chain hown hK.1 hX hAr hS 17 (by omega) ((eu_ne (by omega)).trans hE17) rfl 2 (by decide) (hA _ k_fl_Chain_22) rfl (by decide +kernel) rfl rfl (Nat.le_of_ble_eq_true rfl) d_Chain_init_47 (fun H locs hX hS => ?_)
      refine lv_aload_n hx hb d_Chain_init_50 rfl (lv_at hl 1 rfl) ?_
      refine lv_iconst (v := J (0)) hx hb d_Chain_init_51 rfl ?_
      refine x_put (ty := .int) hx hb hA in_Chain t_Chain tk_Chain nm_Chain hown hK.1 hX hAr hS 17 (by omega) eu_at rfl 3 (by decide) (hA _ k_fl_Chain_25) rfl (by decide +kernel) rfl rfl (Nat.le_of_ble_eq_true rfl) d_Chain_init_52 (fun H locs hX hS => ?_)
      exact x_ret hx hb hr hlocks hS (xX_y (σ := (y2 (fun _ _ => 0) 17 1 r)) hX (by omega) (by omega) (fun c hc => by
        by_cases h7 : c = 17
        · subst h7; exact eu_at.trans (by unfold yC; rw [lay_17]; try rfl)
        · by_cases h8 : c = 18
          · subst h8; exact ((eu_ne (by omega)).trans ((eu_ne (by omega)).trans eu_at)).trans (by unfold yC; rw [lay_18]; try rfl)
          · exact ((eu_ne h7).trans (((eu_ne h7).trans (((eu_ne h8).trans (hEc c (by omega))))))).trans (yC_congr (y2_ne (σ := fun _ _ => 0) h7).symm))) rfl d_Chain_init_55
    | succ q9 ih =>
      intro j hjk E hE17 hE18 hEc ls H locs hX hS hl
      refine lv_iload_n hx hb d_Chain_init_20 rfl (lv_at hl 0 rfl) ?_
      refine lv_bipush (v := J (12)) hx hb d_Chain_init_21 (by decide) ?_
      refine y_icmp_ge (tgt := 45) hx hb d_Chain_init_23 (by decide) ⟨by omega, by omega⟩ ⟨by omega, by omega⟩ (fun hc2 => absurd hc2 (by omega)) (fun hc2 => ?_)
      refine lv_aload_n hx hb d_Chain_init_26 rfl (lv_at hl 1 rfl) ?_
      refine x_get (v := .ref (z + 18)) hx hb hA in_Chain hown hK.1 hX 17 (by omega) hE17 rfl 0 (by decide) (hA _ k_fl_Chain_11) rfl d_Chain_init_27 ?_
      refine lv_iload_n hx hb d_Chain_init_30 rfl (lv_at hl 0 rfl) ?_
      refine x_sz hX (by omega) (by omega) (fun hZ => ?_)
      refine x_new (ci := 3) (fs := [.null, .int (J 0), .int (J 0), .int (J 0), .int (J 0)]) hx hb hA in_Block t_Block tk_Block hown (hA _ k_cl_Chain_9) (hA _ k_it_Block) (hA _ k_in_Block) hK.1 hX hS hZ rfl (fun j hj => by rcases (by omega : j = 0 ∨ j = 1 ∨ j = 2 ∨ j = 3 ∨ j = 4) with rfl | rfl | rfl | rfl | rfl <;> first | rfl | exact congrArg Value.int J0.symm) (by show _ ≤ 25; omega) (by show _ ≤ 96; omega) d_Chain_init_31 (fun H hX hS => ?_)
      rw [show 17 + (2 + 2 * j) = (19 + 2 * j) by omega] at hX
      rw [show 17 + (2 + 2 * j) = (19 + 2 * j) by omega]
      have hX : xX ycl G (eu _ (19 + 2 * j) _) 17 (2 + 2 * j + 1) z H := hX
      refine W.eq (g2 := F0 m 34 ls [.ref (z + (19 + 2 * j)), .int (J (((j : Nat) : Int))), .ref (z + 18)]) rfl ?_
      refine lv_dup hx hb d_Chain_init_34 rfl ?_
      refine x_sz hX (by omega) (by omega) (fun hZ => ?_)
      refine x_ch (y_runIN (As := []) (rest := [.ref (z + (19 + 2 * j)), .int (J (((j : Nat) : Int))), .ref (z + 18)]) ⟨hx, hb, hml, hown, hts⟩ (c_Block_init l G z j (by omega)) 0 k_co_Block_init (k_ml_Chain_21 hK.2) k_im_Block_init k_in_Block rfl rfl rfl (by decide +kernel) ⟨Nat.le_of_ble_eq_true rfl, Nat.le_of_ble_eq_true rfl⟩ (yPn_s (fun _ _ _ _ h => h) (fun _ _ _ => trivial) (by have h9 := xX_at hX (c := (19 + 2 * j)) (by omega); rw [eu_at] at h9; exact h9) (by omega) hK2) rfl hl.1 rfl (Nat.le_of_ble_eq_true rfl) d_Chain_init_35 ⟨(by show _ ≤ 25; omega), (by show _ ≤ 96; omega)⟩) hS (fun b9 h => hAr b9 (by omega)) (fun τ35 H locs hp35 hk35 hW35 hS => ?_)
      have hX := xX_join (n' := (2 + 2 * (j + 1))) hX hk35 hW35 (by omega) (by omega) (by omega)
      subst hp35
      refine x_ast hx hb hK.1 hX hAr hS 18 (19 + 2 * j) 5 3 (by omega) (by omega) ((ej_lt (by omega)).trans ((eu_ne (by omega)).trans hE18)) rfl ((ej_ge (by omega)).trans (yC_inl (lay_Block (n := j) (by omega)))) rfl (j := j) rfl (by omega) (by decide) d_Chain_init_38 (fun H locs hX hS => ?_)
      refine lv_iinc (k := 0) (v := J (((j + 1 : Nat) : Int))) (lv' := [(2, .int (J (((j + 1 : Nat) : Int)))), (0, .ref (z + 17)), (1, .int (J (r)))]) hx hb d_Chain_init_39 hl rfl (by rw [Int.natCast_add j 1]; exact J_add _ _) (by decide) rfl (fun ls hl => ?_)
      refine lv_goto (tgt := 20) hx hb d_Chain_init_42 (by decide) ?_
      refine W.widen (k := 1 + 2 * (j + 1)) (n := 12 + 7 * (j + 1)) (by omega) (by omega) ?_
      refine ih (j + 1) (by omega) _ ((eu_ne (by omega)).trans ((ej_lt (by omega)).trans ((eu_ne (by omega)).trans hE17))) (eu_at.trans (congrArg (fun q => (.inl (G.2 5, 12, .inr (.inr (.inr (.inr q)))) : va_E)) rfj_s)) (fun c hc => ?_) ls H locs hX hS ?_
      · by_cases h9 : c < 19 + 2 * j
        · exact ((eu_ne (by omega)).trans ((ej_lt h9).trans (eu_ne (by omega)))).trans (hEc c (by omega))
        · exact ((eu_ne (by omega)).trans (ej_ge (by omega))).trans (rfl)
      · exact lv_sub hl [0, 1, 2] rfl
  exact loop20 12 0 rfl _ eu_at (((eu_ne (by omega)).trans ((eu_ne (by omega)).trans eu_at)).trans (congrArg (fun q => (.inl (G.2 5, 12, .inr (.inr (.inr (.inr q)))) : va_E)) rfj_0)) (fun c hc => absurd hc (by omega)) ls _ _ hX hS (lv_sub hl [0, 1, 2] rfl)

set_option maxHeartbeats 4000000 in
set_option maxRecDepth 100000 in
theorem c_Draft_init (l : Launch) (G : yG) (z : Nat) : Met l y_Draft_init (Cond.code y_Draft_init b_Draft_init 2 (Option.none : Option Jvm.ClassFile.FieldType) :: yT) ({ frames := 2, cells := 8, slots := 50, locals := 40 } : Room) (yPn G z 43 5 [.null, .null, .int (J 0), .int (J 0), .int (J 0), .int (J 0)] (fun _ => True) [.ref (z + 43)]) (yQn G yLP 43 9 z (fun τ => τ = (fun _ _ => 0))) 8 50 (fun b9 => z + 43 ≤ b9) := by
  refine y_met (by decide +kernel) (Nat.le_of_ble_eq_true rfl) ?_
  intro p e s m below meth c ls hx hb hr hml hlocks hown hname hts hv hl
  have hA : ∀ w ∈ yT, w.before _ s = true := fun w h => hts w (List.mem_cons_of_mem _ h)
  obtain ⟨hat, hsz, hB, hK2⟩ := hv
  have hK := hK2.1
  have hl : lv_has ls 2 [(0, .ref (z + 43))] := hl
  have hX : xX ycl G (fun _ => .inr (5, [.null, .null, .int (J 0), .int (J 0), .int (J 0), .int (J 0)])) 43 1 z s.heap := xX_of (fun c hc => by have e : c = 43 := (by omega); subst e; exact hat)
  have hS : va_S (fun b9 => z + 43 ≤ b9) s.heap s.heap [] := va_S.rf
  have hAr : ∀ b9, 43 ≤ b9 → (fun b9 => z + 43 ≤ b9) (z + b9) := fun b9 h => Nat.add_le_add_left h z
  refine lv_aload_n hx hb d_Draft_init_0 rfl (lv_at hl 0 rfl) ?_
  refine W.objInit hx hb hown (hA _ k_ml_Draft_3) (hA _ k_im_Object_init) (hA _ k_co_Object_init) rfl (by rw [hml]; exact hl.1) rfl d_Draft_init_1 (Nat.le_of_ble_eq_true rfl) (Nat.le_of_ble_eq_true rfl) ?_
  refine W.eq (g2 := F0 m 4 ls []) rfl ?_
  refine lv_aload_n hx hb d_Draft_init_4 rfl (lv_at hl 0 rfl) ?_
  refine lv_iconst (v := J (2)) hx hb d_Draft_init_5 rfl ?_
  refine x_sz hX (by omega) (by omega) (fun hZ => ?_)
  refine x_newq hx hb hown (hA _ k_cl_Draft_9) hK2.2.2.1 (y_ra (hK.1.2 3 _ rfl).2) hX hS hZ (by decide +kernel) (N' := 2) (by decide +kernel) (by decide) (by show _ ≤ 8; omega) (by show _ ≤ 50; omega) d_Draft_init_6 (fun H hX hS => ?_)
  have hX : xX ycl G (eu _ 44 _) 43 2 z H := hX
  refine W.eq (g2 := F0 m 9 ls [.ref (z + 44), .ref (z + 43)]) rfl ?_
  refine x_putF (ty := (.array (.object "NotePool$Spend"))) hx hb hA in_Draft t_Draft tk_Draft nm_Draft hown hK.1 hX hAr hS 43 (by omega) ((eu_ne (by omega)).trans rfl) rfl 0 (by decide) (hA _ k_fl_Draft_11) rfl hname rfl (by decide +kernel) rfl rfl (Nat.le_of_ble_eq_true rfl) d_Draft_init_9 (fun H locs hX hS => ?_)
  refine lv_aload_n hx hb d_Draft_init_12 rfl (lv_at hl 0 rfl) ?_
  refine lv_iconst (v := J (2)) hx hb d_Draft_init_13 rfl ?_
  refine x_sz hX (by omega) (by omega) (fun hZ => ?_)
  refine x_newq hx hb hown (hA _ k_cl_Draft_17) hK2.2.2.2.1 (y_ra (hK.1.2 4 _ rfl).2) hX hS hZ (by decide +kernel) (N' := 2) (by decide +kernel) (by decide) (by show _ ≤ 8; omega) (by show _ ≤ 50; omega) d_Draft_init_14 (fun H hX hS => ?_)
  have hX : xX ycl G (eu _ 45 _) 43 3 z H := hX
  refine W.eq (g2 := F0 m 17 ls [.ref (z + 45), .ref (z + 43)]) rfl ?_
  refine x_putF (ty := (.array (.object "NotePool$Output"))) hx hb hA in_Draft t_Draft tk_Draft nm_Draft hown hK.1 hX hAr hS 43 (by omega) ((eu_ne (by omega)).trans eu_at) rfl 1 (by decide) (hA _ k_fl_Draft_19) rfl hname rfl (by decide +kernel) rfl rfl (Nat.le_of_ble_eq_true rfl) d_Draft_init_17 (fun H locs hX hS => ?_)
  refine lv_iconst (v := J (0)) hx hb d_Draft_init_20 rfl ?_
  refine lv_istore_n (lv' := [(1, .int (J (0))), (0, .ref (z + 43))]) hx hb d_Draft_init_21 rfl hl (by decide) rfl (fun ls hl => ?_)
  have loop22 : ∀ (q9 j : Nat), j + q9 = 2 → ∀ (E : Nat → va_E), E 43 = .inr (5, [.ref (z + 44), .ref (z + 45), .int (J 0), .int (J 0), .int (J 0), .int (J 0)]) → E 45 = .inl (G.2 4, 2, .inr (.inr (.inr (.inr (fun _ => none))))) → E 44 = .inl (G.2 3, 2, .inr (.inr (.inr (.inr (rfj (fun i => z + (46 + 2 * i)) j))))) → (∀ c, 46 ≤ c ∧ c < 46 + 2 * j → E c = yC yLP G.2 z (fun _ _ => 0) c) → ∀ (ls : Array Slot) (H : Heap) (locs : List Loc), xX ycl G E 43 (3 + 2 * j) z H → va_S (fun b9 => z + 43 ≤ b9) s.heap H locs → lv_has ls 2 [(1, .int (J (((j : Nat) : Int)))), (0, .ref (z + 43))] → W p l e ({ frames := 2, cells := 8, slots := 50, locals := 40 } : Room) s m ([.ref (z + 43)] : List Value).toArray below meth c H locs (2 + 2 * j) (4 + 14 * j) (MQ below (yQn G yLP 43 9 z (fun τ => τ = (fun _ _ => 0))) ([.ref (z + 43)] : List Value).toArray s 8 50 (fun b9 => z + 43 ≤ b9)) (F0 m 22 ls []) := by
    intro q9
    induction q9 with
    | zero =>
      intro j hjk E hE43 hE45 hE44 hEc ls H locs hX hS hl
      have hjN : j = 2 := by omega
      subst hjN
      have hX := xX_re (g := fun i => some (((fun i => z + (46 + 2 * i))) i)) hX (by omega) hE44 rfj_all
      refine lv_iload_n hx hb d_Draft_init_22 rfl (lv_at hl 0 rfl) ?_
      refine lv_iconst (v := J (2)) hx hb d_Draft_init_23 rfl ?_
      refine y_icmp_ge (tgt := 46) hx hb d_Draft_init_24 (by decide) ⟨by omega, by omega⟩ ⟨by omega, by omega⟩ (fun hc1 => ?_) (fun hc1 => absurd hc1 (by omega))
      refine lv_iconst (v := J (0)) hx hb d_Draft_init_46 rfl ?_
      refine lv_istore_n (lv' := [(1, .int (J (0))), (0, .ref (z + 43))]) hx hb d_Draft_init_47 rfl hl (by decide) rfl (fun ls hl => ?_)
      have loop48 : ∀ (q9 j : Nat), j + q9 = 2 → ∀ (E : Nat → va_E), E 43 = .inr (5, [.ref (z + 44), .ref (z + 45), .int (J 0), .int (J 0), .int (J 0), .int (J 0)]) → E 44 = .inl (G.2 3, 2, .inr (.inr (.inr (.inr (fun i => some ((fun i => z + (46 + 2 * i)) i)))))) → E 45 = .inl (G.2 4, 2, .inr (.inr (.inr (.inr (rfj (fun i => z + (50 + i)) j))))) → (∀ c, 46 ≤ c ∧ c < 50 + j → E c = yC yLP G.2 z (fun _ _ => 0) c) → ∀ (ls : Array Slot) (H : Heap) (locs : List Loc), xX ycl G E 43 (7 + j) z H → va_S (fun b9 => z + 43 ≤ b9) s.heap H locs → lv_has ls 2 [(1, .int (J (((j : Nat) : Int)))), (0, .ref (z + 43))] → W p l e ({ frames := 2, cells := 8, slots := 50, locals := 40 } : Room) s m ([.ref (z + 43)] : List Value).toArray below meth c H locs (6 + j) (32 + 9 * j) (MQ below (yQn G yLP 43 9 z (fun τ => τ = (fun _ _ => 0))) ([.ref (z + 43)] : List Value).toArray s 8 50 (fun b9 => z + 43 ≤ b9)) (F0 m 48 ls []) := by
        intro q9
        induction q9 with
        | zero =>
          intro j hjk E hE43 hE44 hE45 hEc ls H locs hX hS hl
          have hjN : j = 2 := by omega
          subst hjN
          have hX := xX_re (g := fun i => some (((fun i => z + (50 + i))) i)) hX (by omega) hE45 rfj_all
          refine lv_iload_n hx hb d_Draft_init_48 rfl (lv_at hl 0 rfl) ?_
          refine lv_iconst (v := J (2)) hx hb d_Draft_init_49 rfl ?_
          refine y_icmp_ge (tgt := 72) hx hb d_Draft_init_50 (by decide) ⟨by omega, by omega⟩ ⟨by omega, by omega⟩ (fun hc2 => ?_) (fun hc2 => absurd hc2 (by omega))
          exact x_ret hx hb hr hlocks hS (xX_y (σ := (fun _ _ => 0)) hX (by omega) (by omega) (fun c hc => by
            by_cases h3 : c = 43
            · subst h3; exact ((eu_ne (by omega)).trans hE43).trans (by unfold yC; rw [lay_43]; try rfl)
            · by_cases h4 : c = 44
              · subst h4; exact ((eu_ne (by omega)).trans hE44).trans (by unfold yC; rw [lay_44]; try rfl)
              · by_cases h5 : c = 45
                · subst h5; exact eu_at.trans (by unfold yC; rw [lay_45]; try rfl)
                · exact ((eu_ne (by omega)).trans (hEc c (by omega))))) rfl d_Draft_init_72
        | succ q9 ih =>
          intro j hjk E hE43 hE44 hE45 hEc ls H locs hX hS hl
          refine lv_iload_n hx hb d_Draft_init_48 rfl (lv_at hl 0 rfl) ?_
          refine lv_iconst (v := J (2)) hx hb d_Draft_init_49 rfl ?_
          refine y_icmp_ge (tgt := 72) hx hb d_Draft_init_50 (by decide) ⟨by omega, by omega⟩ ⟨by omega, by omega⟩ (fun hc3 => absurd hc3 (by omega)) (fun hc3 => ?_)
          refine lv_aload_n hx hb d_Draft_init_53 rfl (lv_at hl 1 rfl) ?_
          refine x_get (v := .ref (z + 45)) hx hb hA in_Draft hown hK.1 hX 43 (by omega) hE43 rfl 1 (by decide) (hA _ k_fl_Draft_19) rfl d_Draft_init_54 ?_
          refine lv_iload_n hx hb d_Draft_init_57 rfl (lv_at hl 0 rfl) ?_
          refine x_sz hX (by omega) (by omega) (fun hZ => ?_)
          refine x_new (ci := 7) (fs := [.int (J 0), .int (J 0), .int (J 0), .int (J 0), .int (J 0), .int (J 0), .int (J 0), .int (J 0), .int (J 0)]) hx hb hA in_Output t_Output tk_Output hown (hA _ k_cl_Draft_17) (hA _ k_it_Output) (hA _ k_in_Output) hK.1 hX hS hZ rfl (fun j hj => by rcases (by omega : j = 0 ∨ j = 1 ∨ j = 2 ∨ j = 3 ∨ j = 4 ∨ j = 5 ∨ j = 6 ∨ j = 7 ∨ j = 8) with rfl | rfl | rfl | rfl | rfl | rfl | rfl | rfl | rfl <;> first | rfl | exact congrArg Value.int J0.symm) (by show _ ≤ 8; omega) (by show _ ≤ 50; omega) d_Draft_init_58 (fun H hX hS => ?_)
          rw [show 43 + (7 + j) = (50 + j) by omega] at hX
          rw [show 43 + (7 + j) = (50 + j) by omega]
          have hX : xX ycl G (eu _ (50 + j) _) 43 (7 + j + 1) z H := hX
          refine W.eq (g2 := F0 m 61 ls [.ref (z + (50 + j)), .int (J (((j : Nat) : Int))), .ref (z + 45)]) rfl ?_
          refine lv_dup hx hb d_Draft_init_61 rfl ?_
          refine x_sz hX (by omega) (by omega) (fun hZ => ?_)
          refine x_ch (y_runIN (As := []) (rest := [.ref (z + (50 + j)), .int (J (((j : Nat) : Int))), .ref (z + 45)]) ⟨hx, hb, hml, hown, hts⟩ (c_Output_init l G z j (by omega)) 0 k_co_Output_init (k_ml_Draft_24 hK.2) k_im_Output_init k_in_Output rfl rfl rfl (by decide +kernel) ⟨Nat.le_of_ble_eq_true rfl, Nat.le_of_ble_eq_true rfl⟩ (yPn_s (fun _ _ _ _ h => h) (fun _ _ _ => trivial) (by have h9 := xX_at hX (c := (50 + j)) (by omega); rw [eu_at] at h9; exact h9) (by omega) hK2) rfl hl.1 rfl (Nat.le_of_ble_eq_true rfl) d_Draft_init_62 ⟨(by show _ ≤ 8; omega), (by show _ ≤ 50; omega)⟩) hS (fun b9 h => hAr b9 (by omega)) (fun τ62 H locs hp62 hk62 hW62 hS => ?_)
          have hX := xX_join (n' := (7 + (j + 1))) hX hk62 hW62 (by omega) (by omega) (by omega)
          subst hp62
          refine x_ast hx hb hK.1 hX hAr hS 45 (50 + j) 4 7 (by omega) (by omega) ((ej_lt (by omega)).trans ((eu_ne (by omega)).trans hE45)) rfl ((ej_ge (by omega)).trans (yC_inl (lay_Output (n := j) (by omega)))) rfl (j := j) rfl (by omega) (by decide) d_Draft_init_65 (fun H locs hX hS => ?_)
          refine lv_iinc (k := 0) (v := J (((j + 1 : Nat) : Int))) (lv' := [(1, .int (J (((j + 1 : Nat) : Int)))), (0, .ref (z + 43))]) hx hb d_Draft_init_66 hl rfl (by rw [Int.natCast_add j 1]; exact J_add _ _) (by decide) rfl (fun ls hl => ?_)
          refine lv_goto (tgt := 48) hx hb d_Draft_init_69 (by decide) ?_
          refine W.widen (k := 6 + (j + 1)) (n := 32 + 9 * (j + 1)) (by omega) (by omega) ?_
          refine ih (j + 1) (by omega) _ ((eu_ne (by omega)).trans ((ej_lt (by omega)).trans ((eu_ne (by omega)).trans hE43))) ((eu_ne (by omega)).trans ((ej_lt (by omega)).trans ((eu_ne (by omega)).trans hE44))) (eu_at.trans (congrArg (fun q => (.inl (G.2 4, 2, .inr (.inr (.inr (.inr q)))) : va_E)) rfj_s)) (fun c hc => ?_) ls H locs hX hS ?_
          · by_cases h9 : c < 50 + j
            · exact ((eu_ne (by omega)).trans ((ej_lt h9).trans (eu_ne (by omega)))).trans (hEc c (by omega))
            · exact ((eu_ne (by omega)).trans (ej_ge (by omega))).trans (rfl)
          · exact lv_sub hl [0, 1] rfl
      exact loop48 2 0 rfl _ ((eu_ne (by omega)).trans hE43) eu_at (((eu_ne (by omega)).trans hE45).trans (congrArg (fun q => (.inl (G.2 4, 2, .inr (.inr (.inr (.inr q)))) : va_E)) rfj_0)) (fun c hc => ((eu_ne (by omega)).trans (hEc c (by omega)))) ls _ _ hX hS (lv_sub hl [0, 1] rfl)
    | succ q9 ih =>
      intro j hjk E hE43 hE45 hE44 hEc ls H locs hX hS hl
      refine lv_iload_n hx hb d_Draft_init_22 rfl (lv_at hl 0 rfl) ?_
      refine lv_iconst (v := J (2)) hx hb d_Draft_init_23 rfl ?_
      refine y_icmp_ge (tgt := 46) hx hb d_Draft_init_24 (by decide) ⟨by omega, by omega⟩ ⟨by omega, by omega⟩ (fun hc4 => absurd hc4 (by omega)) (fun hc4 => ?_)
      refine lv_aload_n hx hb d_Draft_init_27 rfl (lv_at hl 1 rfl) ?_
      refine x_get (v := .ref (z + 44)) hx hb hA in_Draft hown hK.1 hX 43 (by omega) hE43 rfl 0 (by decide) (hA _ k_fl_Draft_11) rfl d_Draft_init_28 ?_
      refine lv_iload_n hx hb d_Draft_init_31 rfl (lv_at hl 0 rfl) ?_
      refine x_sz hX (by omega) (by omega) (fun hZ => ?_)
      refine x_new (ci := 8) (fs := [.int (J 0), .int (J 0), .int (J 0), .int (J 0), .int (J 0), .int (J 0), .null, .int (J 0), .int (J 0), .int (J 0)]) hx hb hA in_Spend t_Spend tk_Spend hown (hA _ k_cl_Draft_9) (hA _ k_it_Spend) (hA _ k_in_Spend) hK.1 hX hS hZ rfl (fun j hj => by rcases (by omega : j = 0 ∨ j = 1 ∨ j = 2 ∨ j = 3 ∨ j = 4 ∨ j = 5 ∨ j = 6 ∨ j = 7 ∨ j = 8 ∨ j = 9) with rfl | rfl | rfl | rfl | rfl | rfl | rfl | rfl | rfl | rfl <;> first | rfl | exact congrArg Value.int J0.symm) (by show _ ≤ 8; omega) (by show _ ≤ 50; omega) d_Draft_init_32 (fun H hX hS => ?_)
      rw [show 43 + (3 + 2 * j) = (46 + 2 * j) by omega] at hX
      rw [show 43 + (3 + 2 * j) = (46 + 2 * j) by omega]
      have hX : xX ycl G (eu _ (46 + 2 * j) _) 43 (3 + 2 * j + 1) z H := hX
      refine W.eq (g2 := F0 m 35 ls [.ref (z + (46 + 2 * j)), .int (J (((j : Nat) : Int))), .ref (z + 44)]) rfl ?_
      refine lv_dup hx hb d_Draft_init_35 rfl ?_
      refine x_sz hX (by omega) (by omega) (fun hZ => ?_)
      refine x_ch (y_runIN (As := []) (rest := [.ref (z + (46 + 2 * j)), .int (J (((j : Nat) : Int))), .ref (z + 44)]) ⟨hx, hb, hml, hown, hts⟩ (c_Spend_init l G z j (by omega)) 0 k_co_Spend_init (k_ml_Draft_23 hK.2) k_im_Spend_init k_in_Spend rfl rfl rfl (by decide +kernel) ⟨Nat.le_of_ble_eq_true rfl, Nat.le_of_ble_eq_true rfl⟩ (yPn_s (fun _ _ _ _ h => h) (fun _ _ _ => trivial) (by have h9 := xX_at hX (c := (46 + 2 * j)) (by omega); rw [eu_at] at h9; exact h9) (by omega) hK2) rfl hl.1 rfl (Nat.le_of_ble_eq_true rfl) d_Draft_init_36 ⟨(by show _ ≤ 8; omega), (by show _ ≤ 50; omega)⟩) hS (fun b9 h => hAr b9 (by omega)) (fun τ36 H locs hp36 hk36 hW36 hS => ?_)
      have hX := xX_join (n' := (3 + 2 * (j + 1))) hX hk36 hW36 (by omega) (by omega) (by omega)
      subst hp36
      refine x_ast hx hb hK.1 hX hAr hS 44 (46 + 2 * j) 3 8 (by omega) (by omega) ((ej_lt (by omega)).trans ((eu_ne (by omega)).trans hE44)) rfl ((ej_ge (by omega)).trans (yC_inl (lay_Spend (n := j) (by omega)))) rfl (j := j) rfl (by omega) (by decide) d_Draft_init_39 (fun H locs hX hS => ?_)
      refine lv_iinc (k := 0) (v := J (((j + 1 : Nat) : Int))) (lv' := [(1, .int (J (((j + 1 : Nat) : Int)))), (0, .ref (z + 43))]) hx hb d_Draft_init_40 hl rfl (by rw [Int.natCast_add j 1]; exact J_add _ _) (by decide) rfl (fun ls hl => ?_)
      refine lv_goto (tgt := 22) hx hb d_Draft_init_43 (by decide) ?_
      refine W.widen (k := 2 + 2 * (j + 1)) (n := 4 + 14 * (j + 1)) (by omega) (by omega) ?_
      refine ih (j + 1) (by omega) _ ((eu_ne (by omega)).trans ((ej_lt (by omega)).trans ((eu_ne (by omega)).trans hE43))) ((eu_ne (by omega)).trans ((ej_lt (by omega)).trans ((eu_ne (by omega)).trans hE45))) (eu_at.trans (congrArg (fun q => (.inl (G.2 3, 2, .inr (.inr (.inr (.inr q)))) : va_E)) rfj_s)) (fun c hc => ?_) ls H locs hX hS ?_
      · by_cases h9 : c < 46 + 2 * j
        · exact ((eu_ne (by omega)).trans ((ej_lt h9).trans (eu_ne (by omega)))).trans (hEc c (by omega))
        · exact ((eu_ne (by omega)).trans (ej_ge (by omega))).trans (rfl)
      · exact lv_sub hl [0, 1] rfl
  exact loop22 2 0 rfl _ eu_at ((eu_ne (by omega)).trans eu_at) (((eu_ne (by omega)).trans ((eu_ne (by omega)).trans ((eu_ne (by omega)).trans eu_at))).trans (congrArg (fun q => (.inl (G.2 3, 2, .inr (.inr (.inr (.inr q)))) : va_E)) rfj_0)) (fun c hc => absurd hc (by omega)) ls _ _ hX hS (lv_sub hl [0, 1] rfl)
