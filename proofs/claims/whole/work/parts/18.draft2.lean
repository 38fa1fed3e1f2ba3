theorem d_Draft_figure_0 : decode b_Draft_figure 0 = .ok (.iload_n 1, 1) := by decide +kernel
theorem d_Draft_figure_1 : decode b_Draft_figure 1 = .ok (.tableswitch 42 0 2 #[27, 32, 37], 27) := by decide +kernel
theorem d_Draft_figure_28 : decode b_Draft_figure 28 = .ok (.aload_n 0, 1) := by decide +kernel
theorem d_Draft_figure_29 : decode b_Draft_figure 29 = .ok (.getfield 25, 3) := by decide +kernel
theorem d_Draft_figure_32 : decode b_Draft_figure 32 = .ok (.ireturn, 1) := by decide +kernel
theorem d_Draft_figure_33 : decode b_Draft_figure 33 = .ok (.aload_n 0, 1) := by decide +kernel
theorem d_Draft_figure_34 : decode b_Draft_figure 34 = .ok (.getfield 29, 3) := by decide +kernel
theorem d_Draft_figure_37 : decode b_Draft_figure 37 = .ok (.ireturn, 1) := by decide +kernel
theorem d_Draft_figure_38 : decode b_Draft_figure 38 = .ok (.aload_n 0, 1) := by decide +kernel
theorem d_Draft_figure_39 : decode b_Draft_figure 39 = .ok (.getfield 32, 3) := by decide +kernel
theorem d_Draft_figure_42 : decode b_Draft_figure 42 = .ok (.ireturn, 1) := by decide +kernel
theorem d_Draft_figure_43 : decode b_Draft_figure 43 = .ok (.aload_n 0, 1) := by decide +kernel
theorem d_Draft_figure_44 : decode b_Draft_figure 44 = .ok (.invokevirtual 75, 3) := by decide +kernel
theorem d_Draft_figure_47 : decode b_Draft_figure 47 = .ok (.ireturn, 1) := by decide +kernel
theorem d_Draft_coverOfSpend_0 : decode b_Draft_coverOfSpend 0 = .ok (.iload_n 1, 1) := by decide +kernel
theorem d_Draft_coverOfSpend_1 : decode b_Draft_coverOfSpend 1 = .ok (.aload_n 0, 1) := by decide +kernel
theorem d_Draft_coverOfSpend_2 : decode b_Draft_coverOfSpend 2 = .ok (.getfield 25, 3) := by decide +kernel
theorem d_Draft_coverOfSpend_5 : decode b_Draft_coverOfSpend 5 = .ok (.if_icmp .ge 19, 3) := by decide +kernel
theorem d_Draft_coverOfSpend_8 : decode b_Draft_coverOfSpend 8 = .ok (.aload_n 0, 1) := by decide +kernel
theorem d_Draft_coverOfSpend_9 : decode b_Draft_coverOfSpend 9 = .ok (.getfield 11, 3) := by decide +kernel
theorem d_Draft_coverOfSpend_12 : decode b_Draft_coverOfSpend 12 = .ok (.iload_n 1, 1) := by decide +kernel
theorem d_Draft_coverOfSpend_13 : decode b_Draft_coverOfSpend 13 = .ok (.aaload, 1) := by decide +kernel
theorem d_Draft_coverOfSpend_14 : decode b_Draft_coverOfSpend 14 = .ok (.getfield 65, 3) := by decide +kernel
theorem d_Draft_coverOfSpend_17 : decode b_Draft_coverOfSpend 17 = .ok (.iload_n 2, 1) := by decide +kernel
theorem d_Draft_coverOfSpend_18 : decode b_Draft_coverOfSpend 18 = .ok (.invokestatic 79, 3) := by decide +kernel
theorem d_Draft_coverOfSpend_21 : decode b_Draft_coverOfSpend 21 = .ok (.goto 6, 3) := by decide +kernel
theorem d_Draft_coverOfSpend_24 : decode b_Draft_coverOfSpend 24 = .ok (.sipush (-10000), 3) := by decide +kernel
theorem d_Draft_coverOfSpend_27 : decode b_Draft_coverOfSpend 27 = .ok (.ireturn, 1) := by decide +kernel
theorem d_Draft_partOfOutput_0 : decode b_Draft_partOfOutput 0 = .ok (.iload_n 1, 1) := by decide +kernel
theorem d_Draft_partOfOutput_1 : decode b_Draft_partOfOutput 1 = .ok (.aload_n 0, 1) := by decide +kernel
theorem d_Draft_partOfOutput_2 : decode b_Draft_partOfOutput 2 = .ok (.getfield 29, 3) := by decide +kernel
theorem d_Draft_partOfOutput_5 : decode b_Draft_partOfOutput 5 = .ok (.if_icmp .ge 16, 3) := by decide +kernel
theorem d_Draft_partOfOutput_8 : decode b_Draft_partOfOutput 8 = .ok (.aload_n 0, 1) := by decide +kernel
theorem d_Draft_partOfOutput_9 : decode b_Draft_partOfOutput 9 = .ok (.getfield 19, 3) := by decide +kernel
theorem d_Draft_partOfOutput_12 : decode b_Draft_partOfOutput 12 = .ok (.iload_n 1, 1) := by decide +kernel
theorem d_Draft_partOfOutput_13 : decode b_Draft_partOfOutput 13 = .ok (.aaload, 1) := by decide +kernel
theorem d_Draft_partOfOutput_14 : decode b_Draft_partOfOutput 14 = .ok (.iload_n 2, 1) := by decide +kernel
theorem d_Draft_partOfOutput_15 : decode b_Draft_partOfOutput 15 = .ok (.invokevirtual 82, 3) := by decide +kernel
theorem d_Draft_partOfOutput_18 : decode b_Draft_partOfOutput 18 = .ok (.goto 6, 3) := by decide +kernel
theorem d_Draft_partOfOutput_21 : decode b_Draft_partOfOutput 21 = .ok (.sipush (-10000), 3) := by decide +kernel
theorem d_Draft_partOfOutput_24 : decode b_Draft_partOfOutput 24 = .ok (.ireturn, 1) := by decide +kernel
theorem d_Draft_markOfSpend_0 : decode b_Draft_markOfSpend 0 = .ok (.iload_n 1, 1) := by decide +kernel
theorem d_Draft_markOfSpend_1 : decode b_Draft_markOfSpend 1 = .ok (.aload_n 0, 1) := by decide +kernel
theorem d_Draft_markOfSpend_2 : decode b_Draft_markOfSpend 2 = .ok (.getfield 25, 3) := by decide +kernel
theorem d_Draft_markOfSpend_5 : decode b_Draft_markOfSpend 5 = .ok (.if_icmp .lt 7, 3) := by decide +kernel
theorem d_Draft_markOfSpend_8 : decode b_Draft_markOfSpend 8 = .ok (.sipush (-10000), 3) := by decide +kernel
theorem d_Draft_markOfSpend_11 : decode b_Draft_markOfSpend 11 = .ok (.ireturn, 1) := by decide +kernel
theorem d_Draft_markOfSpend_12 : decode b_Draft_markOfSpend 12 = .ok (.iload_n 2, 1) := by decide +kernel
theorem d_Draft_markOfSpend_13 : decode b_Draft_markOfSpend 13 = .ok (.ifCond .ne 15, 3) := by decide +kernel
theorem d_Draft_markOfSpend_16 : decode b_Draft_markOfSpend 16 = .ok (.aload_n 0, 1) := by decide +kernel
theorem d_Draft_markOfSpend_17 : decode b_Draft_markOfSpend 17 = .ok (.getfield 11, 3) := by decide +kernel
theorem d_Draft_markOfSpend_20 : decode b_Draft_markOfSpend 20 = .ok (.iload_n 1, 1) := by decide +kernel
theorem d_Draft_markOfSpend_21 : decode b_Draft_markOfSpend 21 = .ok (.aaload, 1) := by decide +kernel
theorem d_Draft_markOfSpend_22 : decode b_Draft_markOfSpend 22 = .ok (.getfield 85, 3) := by decide +kernel
theorem d_Draft_markOfSpend_25 : decode b_Draft_markOfSpend 25 = .ok (.goto 12, 3) := by decide +kernel
theorem d_Draft_markOfSpend_28 : decode b_Draft_markOfSpend 28 = .ok (.aload_n 0, 1) := by decide +kernel
theorem d_Draft_markOfSpend_29 : decode b_Draft_markOfSpend 29 = .ok (.getfield 11, 3) := by decide +kernel
theorem d_Draft_markOfSpend_32 : decode b_Draft_markOfSpend 32 = .ok (.iload_n 1, 1) := by decide +kernel
theorem d_Draft_markOfSpend_33 : decode b_Draft_markOfSpend 33 = .ok (.aaload, 1) := by decide +kernel
theorem d_Draft_markOfSpend_34 : decode b_Draft_markOfSpend 34 = .ok (.getfield 72, 3) := by decide +kernel
theorem d_Draft_markOfSpend_37 : decode b_Draft_markOfSpend 37 = .ok (.ireturn, 1) := by decide +kernel

set_option maxHeartbeats 4000000 in
set_option maxRecDepth 100000 in
theorem c_Draft_figure (l : Launch) (G : yG) (z : Nat) (σ : yM) (ns no : Nat) (hns : ns ≤ 2) (hno : no ≤ 2) (hs : σ 43 2 = (ns : Int)) (ho : σ 43 3 = (no : Int)) (ht : 0 ≤ σ 43 5 ∧ σ 43 5 < 2473) (hsw : ∀ j, j < ns → 0 ≤ σ (46 + 2 * j) 5 ∧ σ (46 + 2 * j) 5 ≤ 2472) (how : ∀ j, j < no → 0 ≤ σ (50 + j) 7 ∧ σ (50 + j) 7 ≤ 2472) (what : Int) (hwh : 0 ≤ what ∧ what < 4) : Met l y_Draft_figure (Cond.code y_Draft_figure b_Draft_figure 2 (some .int) :: yT) ({ frames := 2, cells := 0, slots := 0, locals := 44 } : Room) (yP ycl G yLP 0 73 z σ (yK G) [.ref (z + 43), .int (J (what))]) (yQi (if what = 0 then σ 43 2 else if what = 1 then σ 43 3 else if what = 2 then σ 43 4 else (σ 43 5 + sm (fun j => σ (46 + 2 * j) 5) ns - sm (fun j => σ (50 + j) 7) no) % 2473)) 0 0 yN := by
  refine y_met (by decide +kernel) (Nat.le_of_ble_eq_true rfl) ?_
  intro p e s m below meth c ls hx hb hr hml hlocks hown hname hts hv hl
  have hA : ∀ w ∈ yT, w.before _ s = true := fun w h => hts w (List.mem_cons_of_mem _ h)
  have hl : lv_has ls 2 [(0, .ref (z + 43)), (1, .int (J (what)))] := hl
  obtain ⟨hW, hK⟩ := hv
  have hS : va_S yN s.heap s.heap [] := va_S.rf
  refine lv_iload_n hx hb d_Draft_figure_0 rfl (lv_at hl 1 rfl) ?_
  by_cases hs1_0 : what = 0
  · skip
    refine lv_tableIn (tgt := 28) (off := 27) hx hb d_Draft_figure_1 (by rw [J_toInt ⟨by omega, by omega⟩, hs1_0]; decide) (by rw [J_toInt ⟨by omega, by omega⟩, hs1_0]; decide) (by rw [J_toInt ⟨by omega, by omega⟩, hs1_0]; rfl) (by decide) ?_
    refine lv_aload_n hx hb d_Draft_figure_28 rfl (lv_at hl 0 rfl) ?_
    refine y_geti hx hb hA in_Draft hown hK.1 hW 43 (by omega) lay_43 rfl 2 (by decide) (hA _ k_fl_Draft_25) rfl d_Draft_figure_29 ?_
    exact y_reti hx hb hr hlocks hS (by subst hs1_0; rfl) d_Draft_figure_32
  by_cases hs1_1 : what = 1
  · skip
    refine lv_tableIn (tgt := 33) (off := 32) hx hb d_Draft_figure_1 (by rw [J_toInt ⟨by omega, by omega⟩, hs1_1]; decide) (by rw [J_toInt ⟨by omega, by omega⟩, hs1_1]; decide) (by rw [J_toInt ⟨by omega, by omega⟩, hs1_1]; rfl) (by decide) ?_
    refine lv_aload_n hx hb d_Draft_figure_33 rfl (lv_at hl 0 rfl) ?_
    refine y_geti hx hb hA in_Draft hown hK.1 hW 43 (by omega) lay_43 rfl 3 (by decide) (hA _ k_fl_Draft_29) rfl d_Draft_figure_34 ?_
    exact y_reti hx hb hr hlocks hS (by subst hs1_1; rfl) d_Draft_figure_37
  by_cases hs1_2 : what = 2
  · skip
    refine lv_tableIn (tgt := 38) (off := 37) hx hb d_Draft_figure_1 (by rw [J_toInt ⟨by omega, by omega⟩, hs1_2]; decide) (by rw [J_toInt ⟨by omega, by omega⟩, hs1_2]; decide) (by rw [J_toInt ⟨by omega, by omega⟩, hs1_2]; rfl) (by decide) ?_
    refine lv_aload_n hx hb d_Draft_figure_38 rfl (lv_at hl 0 rfl) ?_
    refine y_geti hx hb hA in_Draft hown hK.1 hW 43 (by omega) lay_43 rfl 4 (by decide) (hA _ k_fl_Draft_32) rfl d_Draft_figure_39 ?_
    exact y_reti hx hb hr hlocks hS (by subst hs1_2; rfl) d_Draft_figure_42
  refine lv_tableOut (tgt := 43) hx hb d_Draft_figure_1 (by rw [J_toInt ⟨by omega, by omega⟩]; omega) (by decide) ?_
  refine lv_aload_n hx hb d_Draft_figure_43 rfl (lv_at hl 0 rfl) ?_
  refine y_ci (y_runV (As := []) (rest := []) ⟨hx, hb, hml, hown, hts⟩ (c_Draft_sealScalar l G z σ ns no hns hno hs ho ht hsw how) 0 k_co_Draft_sealScalar k_ml_Draft_75 k_im_Draft_sealScalar k_se_Draft_sealScalar k_in_Draft rfl rfl (by decide +kernel) ⟨Nat.le_of_ble_eq_true rfl, Nat.le_of_ble_eq_true rfl⟩ (yPv (yK_bl G) (yK_mv G) hK hK.1 hW (by omega) lay_43 rfl (by omega) (by omega)) rfl hl.1 rfl (Nat.le_of_ble_eq_true rfl) d_Draft_figure_44 ⟨Nat.zero_le _, Nat.zero_le _⟩) hS hW (fun H locs hW hS => ?_)
  exact y_reti hx hb hr hlocks hS (by simp only [hs1_0, hs1_1, hs1_2, if_false, reduceIte]) d_Draft_figure_47

set_option maxHeartbeats 4000000 in
set_option maxRecDepth 100000 in
theorem c_Draft_coverOfSpend (l : Launch) (G : yG) (z : Nat) (σ : yM) (ns : Nat) (hns : ns ≤ 2) (hs : σ 43 2 = (ns : Int)) (j : Nat) (hj : j < 2) (what : Int) (hwh : 0 ≤ what ∧ what < 2) (cs : Nat → Int) (hcs : ∀ j, j < ns → σ (46 + 2 * j) 9 = eE (cs j)) : Met l y_Draft_coverOfSpend (Cond.code y_Draft_coverOfSpend b_Draft_coverOfSpend 3 (some .int) :: yT) ({ frames := 1, cells := 0, slots := 0, locals := 21 } : Room) (yP ycl G yLP 0 73 z σ (yK G) [.ref (z + 43), .int (J ((j : Int))), .int (J (what))]) (yQi (if j < ns then (if what = 0 then eX (cs j) else eY (cs j)) else -10000)) 0 0 yN := by
  refine y_met (by decide +kernel) (Nat.le_of_ble_eq_true rfl) ?_
  intro p e s m below meth c ls hx hb hr hml hlocks hown hname hts hv hl
  have hA : ∀ w ∈ yT, w.before _ s = true := fun w h => hts w (List.mem_cons_of_mem _ h)
  have hl : lv_has ls 3 [(0, .ref (z + 43)), (1, .int (J ((j : Int)))), (2, .int (J (what)))] := hl
  obtain ⟨hW, hK⟩ := hv
  have hS : va_S yN s.heap s.heap [] := va_S.rf
  refine lv_iload_n hx hb d_Draft_coverOfSpend_0 rfl (lv_at hl 1 rfl) ?_
  refine lv_aload_n hx hb d_Draft_coverOfSpend_1 rfl (lv_at hl 0 rfl) ?_
  refine y_geti hx hb hA in_Draft hown hK.1 hW 43 (by omega) lay_43 rfl 2 (by decide) (hA _ k_fl_Draft_25) rfl d_Draft_coverOfSpend_2 ?_
  rw [hs]
  refine y_icmp_ge (tgt := 24) hx hb d_Draft_coverOfSpend_5 (by decide) ⟨by omega, by omega⟩ ⟨by omega, by omega⟩ (fun hc1 => ?_) (fun hc1 => ?_)
  · skip
    refine lv_sipush (v := J (-10000)) hx hb d_Draft_coverOfSpend_24 (by decide) ?_
    exact y_reti hx hb hr hlocks hS (if_neg (by omega)).symm d_Draft_coverOfSpend_27
  · skip
    refine lv_aload_n hx hb d_Draft_coverOfSpend_8 rfl (lv_at hl 0 rfl) ?_
    refine y_getr hx hb hA in_Draft hown hK.1 hW 43 (by omega) lay_43 rfl 0 (by decide) (hA _ k_fl_Draft_11) rfl d_Draft_coverOfSpend_9 ?_
    refine lv_iload_n hx hb d_Draft_coverOfSpend_12 rfl (lv_at hl 1 rfl) ?_
    refine y_aald hx hb hK.1 hW 44 (by omega) lay_44 rfl (by decide) j rfl (by omega) d_Draft_coverOfSpend_13 ?_
    refine y_geti hx hb hA in_Spend hown hK.1 hW (46 + 2 * j) (by omega) (lay_Spend (n := j) (by omega)) rfl 9 (by decide) (hA _ k_fl_Draft_65) rfl d_Draft_coverOfSpend_14 ?_
    rw [hcs j (by omega)]
    refine lv_iload_n hx hb d_Draft_coverOfSpend_17 rfl (lv_at hl 2 rfl) ?_
    refine y_ci (y_runS (As := [.int (J (eE (cs j))), .int (J (what))]) (rest := []) ⟨hx, hb, hml, hown, hts⟩ (c_Curve_coordinate l G (cs j) (what) ⟨by omega, by omega⟩) 2 k_co_Curve_coordinate k_ml_Draft_79 k_st_Curve_coordinate k_in_Curve rfl rfl (by decide +kernel) ⟨Nat.le_of_ble_eq_true rfl, Nat.le_of_ble_eq_true rfl⟩ (yPs0 (yK_bl G) (yK_mv G) hK) rfl hl.1 rfl (Nat.le_of_ble_eq_true rfl) d_Draft_coverOfSpend_18 ⟨Nat.zero_le _, Nat.zero_le _⟩) hS hW (fun H locs hW hS => ?_)
    refine lv_goto (tgt := 27) hx hb d_Draft_coverOfSpend_21 (by decide) ?_
    exact y_reti hx hb hr hlocks hS (if_pos (by omega)).symm d_Draft_coverOfSpend_27

set_option maxHeartbeats 4000000 in
set_option maxRecDepth 100000 in
theorem c_Draft_partOfOutput (l : Launch) (G : yG) (z : Nat) (σ : yM) (no : Nat) (hno : no ≤ 2) (ho : σ 43 3 = (no : Int)) (j : Nat) (hj : j < 2) (what : Int) (hwh : 0 ≤ what ∧ what < 7) (es co : Nat → Int) (hes : ∀ j, j < no → σ (50 + j) 4 = eE (es j)) (hco : ∀ j, j < no → σ (50 + j) 8 = eE (co j)) : Met l y_Draft_partOfOutput (Cond.code y_Draft_partOfOutput b_Draft_partOfOutput 3 (some .int) :: yT) ({ frames := 2, cells := 0, slots := 0, locals := 42 } : Room) (yP ycl G yLP 0 73 z σ (yK G) [.ref (z + 43), .int (J ((j : Int))), .int (J (what))]) (yQi (if j < no then (if what = 0 then σ (50 + j) 3 else if what = 1 then eX (es j) else if what = 2 then eY (es j) else if what = 3 then σ (50 + j) 5 else if what = 4 then σ (50 + j) 6 else if what = 5 then eX (co j) else eY (co j)) else -10000)) 0 0 yN := by
  refine y_met (by decide +kernel) (Nat.le_of_ble_eq_true rfl) ?_
  intro p e s m below meth c ls hx hb hr hml hlocks hown hname hts hv hl
  have hA : ∀ w ∈ yT, w.before _ s = true := fun w h => hts w (List.mem_cons_of_mem _ h)
  have hl : lv_has ls 3 [(0, .ref (z + 43)), (1, .int (J ((j : Int)))), (2, .int (J (what)))] := hl
  obtain ⟨hW, hK⟩ := hv
  have hS : va_S yN s.heap s.heap [] := va_S.rf
  refine lv_iload_n hx hb d_Draft_partOfOutput_0 rfl (lv_at hl 1 rfl) ?_
  refine lv_aload_n hx hb d_Draft_partOfOutput_1 rfl (lv_at hl 0 rfl) ?_
  refine y_geti hx hb hA in_Draft hown hK.1 hW 43 (by omega) lay_43 rfl 3 (by decide) (hA _ k_fl_Draft_29) rfl d_Draft_partOfOutput_2 ?_
  rw [ho]
  refine y_icmp_ge (tgt := 21) hx hb d_Draft_partOfOutput_5 (by decide) ⟨by omega, by omega⟩ ⟨by omega, by omega⟩ (fun hc1 => ?_) (fun hc1 => ?_)
  · skip
    refine lv_sipush (v := J (-10000)) hx hb d_Draft_partOfOutput_21 (by decide) ?_
    exact y_reti hx hb hr hlocks hS (if_neg (by omega)).symm d_Draft_partOfOutput_24
  · skip
    refine lv_aload_n hx hb d_Draft_partOfOutput_8 rfl (lv_at hl 0 rfl) ?_
    refine y_getr hx hb hA in_Draft hown hK.1 hW 43 (by omega) lay_43 rfl 1 (by decide) (hA _ k_fl_Draft_19) rfl d_Draft_partOfOutput_9 ?_
    refine lv_iload_n hx hb d_Draft_partOfOutput_12 rfl (lv_at hl 1 rfl) ?_
    refine y_aald hx hb hK.1 hW 45 (by omega) lay_45 rfl (by decide) j rfl (by omega) d_Draft_partOfOutput_13 ?_
    refine lv_iload_n hx hb d_Draft_partOfOutput_14 rfl (lv_at hl 2 rfl) ?_
    refine y_ci (y_runV (As := [.int (J (what))]) (rest := []) ⟨hx, hb, hml, hown, hts⟩ (c_Output_part l G z σ j hj what hwh (es j) (co j) (hes j (by omega)) (hco j (by omega))) 1 k_co_Output_part k_ml_Draft_82 k_im_Output_part k_se_Output_part k_in_Output rfl rfl (by decide +kernel) ⟨Nat.le_of_ble_eq_true rfl, Nat.le_of_ble_eq_true rfl⟩ (yPv (yK_bl G) (yK_mv G) hK hK.1 hW (by omega) (lay_Output (n := j) (by omega)) rfl (by omega) (by omega)) rfl hl.1 rfl (Nat.le_of_ble_eq_true rfl) d_Draft_partOfOutput_15 ⟨Nat.zero_le _, Nat.zero_le _⟩) hS hW (fun H locs hW hS => ?_)
    refine lv_goto (tgt := 24) hx hb d_Draft_partOfOutput_18 (by decide) ?_
    exact y_reti hx hb hr hlocks hS (if_pos (by omega)).symm d_Draft_partOfOutput_24

set_option maxHeartbeats 4000000 in
set_option maxRecDepth 100000 in
theorem c_Draft_markOfSpend (l : Launch) (G : yG) (z : Nat) (σ : yM) (ns : Nat) (hns : ns ≤ 2) (hs : σ 43 2 = (ns : Int)) (j : Nat) (hj : j < 2) (what : Int) (hwh : 0 ≤ what ∧ what < 2) : Met l y_Draft_markOfSpend (Cond.code y_Draft_markOfSpend b_Draft_markOfSpend 3 (some .int) :: yT) ({ frames := 0, cells := 0, slots := 0, locals := 0 } : Room) (yP ycl G yLP 0 73 z σ (yK G) [.ref (z + 43), .int (J ((j : Int))), .int (J (what))]) (yQi (if j < ns then (if what = 0 then σ (46 + 2 * j) 7 else σ (46 + 2 * j) 8) else -10000)) 0 0 yN := by
  refine y_met (by decide +kernel) (Nat.le_of_ble_eq_true rfl) ?_
  intro p e s m below meth c ls hx hb hr hml hlocks hown hname hts hv hl
  have hA : ∀ w ∈ yT, w.before _ s = true := fun w h => hts w (List.mem_cons_of_mem _ h)
  have hl : lv_has ls 3 [(0, .ref (z + 43)), (1, .int (J ((j : Int)))), (2, .int (J (what)))] := hl
  obtain ⟨hW, hK⟩ := hv
  have hS : va_S yN s.heap s.heap [] := va_S.rf
  refine lv_iload_n hx hb d_Draft_markOfSpend_0 rfl (lv_at hl 1 rfl) ?_
  refine lv_aload_n hx hb d_Draft_markOfSpend_1 rfl (lv_at hl 0 rfl) ?_
  refine y_geti hx hb hA in_Draft hown hK.1 hW 43 (by omega) lay_43 rfl 2 (by decide) (hA _ k_fl_Draft_25) rfl d_Draft_markOfSpend_2 ?_
  rw [hs]
  refine y_icmp_lt (tgt := 12) hx hb d_Draft_markOfSpend_5 (by decide) ⟨by omega, by omega⟩ ⟨by omega, by omega⟩ (fun hc1 => ?_) (fun hc1 => ?_)
  · skip
    refine lv_iload_n hx hb d_Draft_markOfSpend_12 rfl (lv_at hl 2 rfl) ?_
    refine y_if_ne (tgt := 28) hx hb d_Draft_markOfSpend_13 (by decide) ⟨by omega, by omega⟩ (fun hc2 => ?_) (fun hc2 => ?_)
    · skip
      refine lv_aload_n hx hb d_Draft_markOfSpend_28 rfl (lv_at hl 0 rfl) ?_
      refine y_getr hx hb hA in_Draft hown hK.1 hW 43 (by omega) lay_43 rfl 0 (by decide) (hA _ k_fl_Draft_11) rfl d_Draft_markOfSpend_29 ?_
      refine lv_iload_n hx hb d_Draft_markOfSpend_32 rfl (lv_at hl 1 rfl) ?_
      refine y_aald hx hb hK.1 hW 44 (by omega) lay_44 rfl (by decide) j rfl (by omega) d_Draft_markOfSpend_33 ?_
      refine y_geti hx hb hA in_Spend hown hK.1 hW (46 + 2 * j) (by omega) (lay_Spend (n := j) (by omega)) rfl 8 (by decide) (hA _ k_fl_Draft_72) rfl d_Draft_markOfSpend_34 ?_
      exact y_reti hx hb hr hlocks hS (by rw [if_pos (by omega), if_neg (by omega)]) d_Draft_markOfSpend_37
    · skip
      refine lv_aload_n hx hb d_Draft_markOfSpend_16 rfl (lv_at hl 0 rfl) ?_
      refine y_getr hx hb hA in_Draft hown hK.1 hW 43 (by omega) lay_43 rfl 0 (by decide) (hA _ k_fl_Draft_11) rfl d_Draft_markOfSpend_17 ?_
      refine lv_iload_n hx hb d_Draft_markOfSpend_20 rfl (lv_at hl 1 rfl) ?_
      refine y_aald hx hb hK.1 hW 44 (by omega) lay_44 rfl (by decide) j rfl (by omega) d_Draft_markOfSpend_21 ?_
      refine y_geti hx hb hA in_Spend hown hK.1 hW (46 + 2 * j) (by omega) (lay_Spend (n := j) (by omega)) rfl 7 (by decide) (hA _ k_fl_Draft_85) rfl d_Draft_markOfSpend_22 ?_
      refine lv_goto (tgt := 37) hx hb d_Draft_markOfSpend_25 (by decide) ?_
      exact y_reti hx hb hr hlocks hS (by rw [if_pos (by omega), if_pos (by omega)]) d_Draft_markOfSpend_37
  · skip
    refine lv_sipush (v := J (-10000)) hx hb d_Draft_markOfSpend_8 (by decide) ?_
    exact y_reti hx hb hr hlocks hS (if_neg (by omega)).symm d_Draft_markOfSpend_11
