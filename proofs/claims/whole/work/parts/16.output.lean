/-! Sums. -/
def sm (f : Nat → Int) : Nat → Int
  | 0 => 0
  | n + 1 => sm f n + f n
theorem sm_rng {f : Nat → Int} {B : Int} {N : Nat} (h : ∀ j, j < N → 0 ≤ f j ∧ f j ≤ B) : ∀ n, n ≤ N → 0 ≤ sm f n ∧ sm f n ≤ (n : Int) * B
  | 0, _ => by
    have : ((0 : Nat) : Int) * B = 0 := Int.zero_mul B
    unfold sm
    omega
  | n + 1, hn => by
    have h1 := sm_rng h n (by omega)
    have h2 := h n (by omega)
    have h3 : ((n + 1 : Nat) : Int) * B = (n : Int) * B + B := by rw [Int.natCast_add, Int.add_mul]; congr 1; exact Int.one_mul B
    unfold sm
    omega

set_option maxHeartbeats 4000000 in
set_option maxRecDepth 100000 in
theorem c_Output_fill (l : Launch) (G : yG) (z : Nat) (σ : yM) (hBs : yBs σ) (o : Nat) (ho : o < 2) (a v t : Int) (hv : jr v) (ht : jr t) : Met l y_Output_fill (Cond.code y_Output_fill b_Output_fill 5 (Option.none : Option Jvm.ClassFile.FieldType) :: yT) ({ frames := 4, cells := 0, slots := 0, locals := 102 } : Room) (yP ycl G yLP 0 73 z σ (yK G) [.ref (z + (50 + o)), .ref (z + 1), .int (J (eE a)), .int (J (v)), .int (J (t))]) (yQh ycl G yLP 0 73 z (fun τ => (∀ d, d ≠ (50 + o) → τ d = σ d) ∧ τ (50 + o) 0 = eE a ∧ τ (50 + o) 1 = v ∧ τ (50 + o) 2 = t ∧ τ (50 + o) 3 = cOf a v t ∧ ∀ j, 4 ≤ j → τ (50 + o) j = σ (50 + o) j)) 0 0 (yA z 0 73) := by
  refine y_met (by decide +kernel) (Nat.le_of_ble_eq_true rfl) ?_
  intro p e s m below meth c ls hx hb hr hml hlocks hown hname hts hv hl
  have hA : ∀ w ∈ yT, w.before _ s = true := fun w h => hts w (List.mem_cons_of_mem _ h)
  have hl : lv_has ls 5 [(0, .ref (z + (50 + o))), (1, .ref (z + 1)), (2, .int (J (eE a))), (3, .int (J (v))), (4, .int (J (t)))] := hl
  obtain ⟨hW, hK⟩ := hv
  have hS : va_S (yA z 0 73) s.heap s.heap [] := va_S.rf
  have hAr : ∀ d, 0 ≤ d ∧ d < 0 + 73 → yA z 0 73 (z + d) := yA_all
  refine lv_aload_n hx hb d_Output_fill_0 rfl (lv_at hl 0 rfl) ?_
  refine lv_iload_n hx hb d_Output_fill_1 rfl (lv_at hl 2 rfl) ?_
  refine y_puti hx hb hA in_Output hown hK.1 hW (50 + o) (by omega) (lay_Output (n := o) (by omega)) rfl 0 (by decide) t_Output tk_Output nm_Output hS hAr (hA _ k_fl_Output_9) rfl (by decide +kernel) rfl d_Output_fill_2 (fun H locs hW hS => ?_)
  refine lv_aload_n hx hb d_Output_fill_5 rfl (lv_at hl 0 rfl) ?_
  refine lv_iload_n hx hb d_Output_fill_6 rfl (lv_at hl 3 rfl) ?_
  refine y_puti hx hb hA in_Output hown hK.1 hW (50 + o) (by omega) (lay_Output (n := o) (by omega)) rfl 1 (by decide) t_Output tk_Output nm_Output hS hAr (hA _ k_fl_Output_15) rfl (by decide +kernel) rfl d_Output_fill_7 (fun H locs hW hS => ?_)
  refine lv_aload_n hx hb d_Output_fill_10 rfl (lv_at hl 0 rfl) ?_
  refine lv_iload hx hb d_Output_fill_11 (lv_at hl 4 rfl) ?_
  refine y_puti hx hb hA in_Output hown hK.1 hW (50 + o) (by omega) (lay_Output (n := o) (by omega)) rfl 2 (by decide) t_Output tk_Output nm_Output hS hAr (hA _ k_fl_Output_18) rfl (by decide +kernel) rfl d_Output_fill_13 (fun H locs hW hS => ?_)
  refine lv_aload_n hx hb d_Output_fill_16 rfl (lv_at hl 0 rfl) ?_
  refine lv_aload_n hx hb d_Output_fill_17 rfl (lv_at hl 1 rfl) ?_
  refine lv_iload_n hx hb d_Output_fill_18 rfl (lv_at hl 2 rfl) ?_
  refine lv_iload_n hx hb d_Output_fill_19 rfl (lv_at hl 3 rfl) ?_
  refine lv_iload hx hb d_Output_fill_20 (lv_at hl 4 rfl) ?_
  refine y_ci (y_runV (As := [.int (J (eE a)), .int (J (v)), .int (J (t))]) (rest := [.ref (z + (50 + o))]) ⟨hx, hb, hml, hown, hts⟩ (c_Bases_commitment l G z (y2 (y2 (y2 σ (50 + o) 0 (eE a)) (50 + o) 1 (v)) (50 + o) 2 (t)) (yBs_y2 (by omega) (yBs_y2 (by omega) (yBs_y2 (by omega) hBs))) a (v) (t) hv ht) 3 k_co_Bases_commitment k_ml_Output_21 k_im_Bases_commitment k_se_Bases_commitment k_in_Bases rfl rfl (by decide +kernel) ⟨Nat.le_of_ble_eq_true rfl, Nat.le_of_ble_eq_true rfl⟩ (yPv (yK_bl G) (yK_mv G) hK hK.1 hW (by omega) lay_1 rfl (by omega) (by omega)) rfl hl.1 rfl (Nat.le_of_ble_eq_true rfl) d_Output_fill_22 ⟨Nat.zero_le _, Nat.zero_le _⟩) hS hW (fun H locs hW hS => ?_)
  refine y_puti hx hb hA in_Output hown hK.1 hW (50 + o) (by omega) (lay_Output (n := o) (by omega)) rfl 3 (by decide) t_Output tk_Output nm_Output hS hAr (hA _ k_fl_Output_27) rfl (by decide +kernel) rfl d_Output_fill_25 (fun H locs hW hS => ?_)
  exact y_reth hx hb hr hlocks hS hW ⟨fun d hd => by rw [y2_ne hd, y2_ne hd, y2_ne hd, y2_ne hd], by rw [y2_ot (by decide), y2_ot (by decide), y2_ot (by decide), y2_at], by rw [y2_ot (by decide), y2_ot (by decide), y2_at], by rw [y2_ot (by decide), y2_at], by rw [y2_at]; rfl, fun j hj => by rw [y2_ot (by omega), y2_ot (by omega), y2_ot (by omega), y2_ot (by omega)]⟩ d_Output_fill_28

set_option maxHeartbeats 4000000 in
set_option maxRecDepth 100000 in
theorem c_Output_seal (l : Launch) (G : yG) (z : Nat) (σ : yM) (hBs : yBs σ) (o : Nat) (ho : o < 2) (a v t : Int) (e0 : Nat) (he : e0 < 2473) (w0 : Int) (hw : jr w0) (ha : σ (50 + o) 0 = eE a) (hv : σ (50 + o) 1 = v) (ht : σ (50 + o) 2 = t) (hvr : 0 ≤ v ∧ v < 1000) (htr : 0 ≤ t ∧ t < 2473) : Met l y_Output_seal (Cond.code y_Output_seal b_Output_seal 5 (Option.none : Option Jvm.ClassFile.FieldType) :: yT) ({ frames := 4, cells := 0, slots := 0, locals := 100 } : Room) (yP ycl G yLP 0 73 z σ (yK G) [.ref (z + (50 + o)), .ref (z + 1), .int (J ((e0 : Int))), .int (J (w0))]) (yQh ycl G yLP 0 73 z (fun τ => (∀ d, d ≠ (50 + o) → τ d = σ d) ∧ (∀ j, j < 4 → τ (50 + o) j = σ (50 + o) j) ∧ τ (50 + o) 4 = eE (e0 : Int) ∧ τ (50 + o) 5 = (v + eX ((e0 : Int) * a)) % 1000 ∧ τ (50 + o) 6 = (t + eY ((e0 : Int) * a)) % 2473 ∧ τ (50 + o) 7 = w0 ∧ τ (50 + o) 8 = eE (1281 * v + 1369 * w0))) 0 0 (yA z 0 73) := by
  refine y_met (by decide +kernel) (Nat.le_of_ble_eq_true rfl) ?_
  intro p e s m below meth c ls hx hb hr hml hlocks hown hname hts hv hl
  have hA : ∀ w ∈ yT, w.before _ s = true := fun w h => hts w (List.mem_cons_of_mem _ h)
  have hl : lv_has ls 5 [(0, .ref (z + (50 + o))), (1, .ref (z + 1)), (2, .int (J ((e0 : Int)))), (3, .int (J (w0)))] := hl
  obtain ⟨hW, hK⟩ := hv
  have hS : va_S (yA z 0 73) s.heap s.heap [] := va_S.rf
  have hAr : ∀ d, 0 ≤ d ∧ d < 0 + 73 → yA z 0 73 (z + d) := yA_all
  refine lv_iload_n hx hb d_Output_seal_0 rfl (lv_at hl 2 rfl) ?_
  refine lv_aload_n hx hb d_Output_seal_1 rfl (lv_at hl 0 rfl) ?_
  refine y_geti hx hb hA in_Output hown hK.1 hW (50 + o) (by omega) (lay_Output (n := o) (by omega)) rfl 0 (by decide) (hA _ k_fl_Output_9) rfl d_Output_seal_2 ?_
  rw [ha]
  refine y_ci (y_runS (As := [.int (J ((e0 : Int))), .int (J (eE a))]) (rest := []) ⟨hx, hb, hml, hown, hts⟩ (c_Curve_multiple l G e0 (by omega) a) 2 k_co_Curve_multiple k_ml_Output_29 k_st_Curve_multiple k_in_Curve rfl rfl (by decide +kernel) ⟨Nat.le_of_ble_eq_true rfl, Nat.le_of_ble_eq_true rfl⟩ (yPs0 (yK_bl G) (yK_mv G) hK) rfl hl.1 rfl (Nat.le_of_ble_eq_true rfl) d_Output_seal_5 ⟨Nat.zero_le _, Nat.zero_le _⟩) hS hW (fun H locs hW hS => ?_)
  refine lv_istore (lv' := [(4, .int (J (eE ((e0 : Int) * a)))), (0, .ref (z + (50 + o))), (1, .ref (z + 1)), (2, .int (J ((e0 : Int)))), (3, .int (J (w0)))]) hx hb d_Output_seal_8 hl (by decide) rfl (fun ls hl => ?_)
  have hX := eX_rng ((e0 : Int) * a)
  have hY := eY_rng ((e0 : Int) * a)
  refine lv_aload_n hx hb d_Output_seal_10 rfl (lv_at hl 1 rfl) ?_
  refine lv_aload_n hx hb d_Output_seal_11 rfl (lv_at hl 2 rfl) ?_
  refine y_getr hx hb hA in_Bases hown hK.1 hW 1 (by omega) lay_1 rfl 0 (by decide) (hA _ k_fl_Output_35) rfl d_Output_seal_12 ?_
  refine lv_iload_n hx hb d_Output_seal_15 rfl (lv_at hl 3 rfl) ?_
  refine y_ci (y_runV (As := [.int (J ((e0 : Int)))]) (rest := [.ref (z + (50 + o))]) ⟨hx, hb, hml, hown, hts⟩ (c_Base_times l G z σ 2 1 lay_2 lay_3 (by decide) (fun b h => (hBs b h).1) ((e0 : Int)) ⟨by omega, by omega⟩) 1 k_co_Base_times k_ml_Output_39 k_im_Base_times k_se_Base_times k_in_Base rfl rfl (by decide +kernel) ⟨Nat.le_of_ble_eq_true rfl, Nat.le_of_ble_eq_true rfl⟩ (yPv (yK_bl G) (yK_mv G) hK hK.1 hW (by omega) lay_2 rfl (by omega) (by omega)) rfl hl.1 rfl (Nat.le_of_ble_eq_true rfl) d_Output_seal_16 ⟨Nat.zero_le _, Nat.zero_le _⟩) hS hW (fun H locs hW hS => ?_)
  refine y_puti hx hb hA in_Output hown hK.1 hW (50 + o) (by omega) (lay_Output (n := o) (by omega)) rfl 4 (by decide) t_Output tk_Output nm_Output hS hAr (hA _ k_fl_Output_45) rfl (by decide +kernel) rfl d_Output_seal_19 (fun H locs hW hS => ?_)
  refine lv_aload_n hx hb d_Output_seal_22 rfl (lv_at hl 1 rfl) ?_
  refine lv_aload_n hx hb d_Output_seal_23 rfl (lv_at hl 1 rfl) ?_
  refine y_geti hx hb hA in_Output hown hK.1 hW (50 + o) (by omega) (lay_Output (n := o) (by omega)) rfl 1 (by decide) (hA _ k_fl_Output_15) rfl d_Output_seal_24 ?_
  rw [y2_ot (by decide)]
  rw [hv]
  refine lv_iload hx hb d_Output_seal_27 (lv_at hl 0 rfl) ?_
  refine lv_iconst (v := J (0)) hx hb d_Output_seal_29 rfl ?_
  refine y_ci (y_runS (As := [.int (J (eE ((e0 : Int) * a))), .int (J (0))]) (rest := [.int (J (v)), .ref (z + (50 + o))]) ⟨hx, hb, hml, hown, hts⟩ (c_Curve_coordinate l G ((e0 : Int) * a) (0) ⟨by omega, by omega⟩) 2 k_co_Curve_coordinate k_ml_Output_48 k_st_Curve_coordinate k_in_Curve rfl rfl (by decide +kernel) ⟨Nat.le_of_ble_eq_true rfl, Nat.le_of_ble_eq_true rfl⟩ (yPs0 (yK_bl G) (yK_mv G) hK) rfl hl.1 rfl (Nat.le_of_ble_eq_true rfl) d_Output_seal_30 ⟨Nat.zero_le _, Nat.zero_le _⟩) hS hW (fun H locs hW hS => ?_)
  rw [if_pos rfl]
  refine y_iadd hx hb d_Output_seal_33 ?_
  refine lv_sipush (v := J (1000)) hx hb d_Output_seal_34 (by decide) ?_
  refine y_irem hx hb d_Output_seal_37 (by omega) (by omega) (by decide) ?_
  refine y_puti hx hb hA in_Output hown hK.1 hW (50 + o) (by omega) (lay_Output (n := o) (by omega)) rfl 5 (by decide) t_Output tk_Output nm_Output hS hAr (hA _ k_fl_Output_51) rfl (by decide +kernel) rfl d_Output_seal_38 (fun H locs hW hS => ?_)
  refine lv_aload_n hx hb d_Output_seal_41 rfl (lv_at hl 1 rfl) ?_
  refine lv_aload_n hx hb d_Output_seal_42 rfl (lv_at hl 1 rfl) ?_
  refine y_geti hx hb hA in_Output hown hK.1 hW (50 + o) (by omega) (lay_Output (n := o) (by omega)) rfl 2 (by decide) (hA _ k_fl_Output_18) rfl d_Output_seal_43 ?_
  rw [y2_ot (by decide), y2_ot (by decide)]
  rw [ht]
  refine lv_iload hx hb d_Output_seal_46 (lv_at hl 0 rfl) ?_
  refine lv_iconst (v := J (1)) hx hb d_Output_seal_48 rfl ?_
  refine y_ci (y_runS (As := [.int (J (eE ((e0 : Int) * a))), .int (J (1))]) (rest := [.int (J (t)), .ref (z + (50 + o))]) ⟨hx, hb, hml, hown, hts⟩ (c_Curve_coordinate l G ((e0 : Int) * a) (1) ⟨by omega, by omega⟩) 2 k_co_Curve_coordinate k_ml_Output_48 k_st_Curve_coordinate k_in_Curve rfl rfl (by decide +kernel) ⟨Nat.le_of_ble_eq_true rfl, Nat.le_of_ble_eq_true rfl⟩ (yPs0 (yK_bl G) (yK_mv G) hK) rfl hl.1 rfl (Nat.le_of_ble_eq_true rfl) d_Output_seal_49 ⟨Nat.zero_le _, Nat.zero_le _⟩) hS hW (fun H locs hW hS => ?_)
  rw [if_neg (show ¬ (1 : Int) = 0 by decide)]
  refine y_iadd hx hb d_Output_seal_52 ?_
  refine lv_sipush (v := J (2473)) hx hb d_Output_seal_53 (by decide) ?_
  refine y_irem hx hb d_Output_seal_56 (by omega) (by omega) (by decide) ?_
  refine y_puti hx hb hA in_Output hown hK.1 hW (50 + o) (by omega) (lay_Output (n := o) (by omega)) rfl 6 (by decide) t_Output tk_Output nm_Output hS hAr (hA _ k_fl_Output_54) rfl (by decide +kernel) rfl d_Output_seal_57 (fun H locs hW hS => ?_)
  refine lv_aload_n hx hb d_Output_seal_60 rfl (lv_at hl 1 rfl) ?_
  refine lv_iload_n hx hb d_Output_seal_61 rfl (lv_at hl 4 rfl) ?_
  refine y_puti hx hb hA in_Output hown hK.1 hW (50 + o) (by omega) (lay_Output (n := o) (by omega)) rfl 7 (by decide) t_Output tk_Output nm_Output hS hAr (hA _ k_fl_Output_57) rfl (by decide +kernel) rfl d_Output_seal_62 (fun H locs hW hS => ?_)
  refine lv_aload_n hx hb d_Output_seal_65 rfl (lv_at hl 1 rfl) ?_
  refine lv_aload_n hx hb d_Output_seal_66 rfl (lv_at hl 2 rfl) ?_
  refine lv_aload_n hx hb d_Output_seal_67 rfl (lv_at hl 1 rfl) ?_
  refine y_geti hx hb hA in_Output hown hK.1 hW (50 + o) (by omega) (lay_Output (n := o) (by omega)) rfl 1 (by decide) (hA _ k_fl_Output_15) rfl d_Output_seal_68 ?_
  rw [y2_ot (by decide), y2_ot (by decide), y2_ot (by decide), y2_ot (by decide)]
  rw [hv]
  refine lv_iload_n hx hb d_Output_seal_71 rfl (lv_at hl 4 rfl) ?_
  refine y_ci (y_runV (As := [.int (J (v)), .int (J (w0))]) (rest := [.ref (z + (50 + o))]) ⟨hx, hb, hml, hown, hts⟩ (c_Bases_cover l G z (y2 (y2 (y2 (y2 σ (50 + o) 4 (eE (1 * (e0 : Int)))) (50 + o) 5 ((v + (eX ((e0 : Int) * a))) % 1000)) (50 + o) 6 ((t + (eY ((e0 : Int) * a))) % 2473)) (50 + o) 7 (w0)) (yBs_y2 (by omega) (yBs_y2 (by omega) (yBs_y2 (by omega) (yBs_y2 (by omega) hBs)))) (v) (w0) ⟨by omega, by omega⟩ hw) 2 k_co_Bases_cover k_ml_Output_60 k_im_Bases_cover k_se_Bases_cover k_in_Bases rfl rfl (by decide +kernel) ⟨Nat.le_of_ble_eq_true rfl, Nat.le_of_ble_eq_true rfl⟩ (yPv (yK_bl G) (yK_mv G) hK hK.1 hW (by omega) lay_1 rfl (by omega) (by omega)) rfl hl.1 rfl (Nat.le_of_ble_eq_true rfl) d_Output_seal_72 ⟨Nat.zero_le _, Nat.zero_le _⟩) hS hW (fun H locs hW hS => ?_)
  refine y_puti hx hb hA in_Output hown hK.1 hW (50 + o) (by omega) (lay_Output (n := o) (by omega)) rfl 8 (by decide) t_Output tk_Output nm_Output hS hAr (hA _ k_fl_Output_63) rfl (by decide +kernel) rfl d_Output_seal_75 (fun H locs hW hS => ?_)
  exact y_reth hx hb hr hlocks hS hW ⟨fun d hd => by rw [y2_ne hd, y2_ne hd, y2_ne hd, y2_ne hd, y2_ne hd], fun j hj => by rw [y2_ot (by omega), y2_ot (by omega), y2_ot (by omega), y2_ot (by omega), y2_ot (by omega)], by rw [y2_ot (by decide), y2_ot (by decide), y2_ot (by decide), y2_ot (by decide), y2_at, Int.one_mul], by rw [y2_ot (by decide), y2_ot (by decide), y2_ot (by decide), y2_at], by rw [y2_ot (by decide), y2_ot (by decide), y2_at], by rw [y2_ot (by decide), y2_at], by rw [y2_at]⟩ d_Output_seal_78

set_option maxHeartbeats 4000000 in
set_option maxRecDepth 100000 in
theorem c_Output_change (l : Launch) (G : yG) (z : Nat) (σ : yM) (o : Nat) (ho : o < 2) (what x : Int) (hx0 : jr x) (hwh : jr what) : Met l y_Output_change (Cond.code y_Output_change b_Output_change 3 (some .boolean) :: yT) ({ frames := 1, cells := 0, slots := 0, locals := 20 } : Room) (yP ycl G yLP 0 73 z σ (yK G) [.ref (z + (50 + o)), .int (J (what)), .int (J (x))]) (yQg ycl G yLP 0 73 z (fun v τ => (((what = 3 ∧ 0 ≤ x ∧ x < 10009) ∨ (what ≠ 3 ∧ 0 ≤ x ∧ x < 1000)) → v = 1 ∧ (what = 3 → τ = y2 σ (50 + o) 3 x) ∧ (what ≠ 3 → τ = y2 σ (50 + o) 5 x)) ∧ (¬ ((what = 3 ∧ 0 ≤ x ∧ x < 10009) ∨ (what ≠ 3 ∧ 0 ≤ x ∧ x < 1000)) → v = 0 ∧ τ = σ))) 0 0 (yA z 0 73) := by
  refine y_met (by decide +kernel) (Nat.le_of_ble_eq_true rfl) ?_
  intro p e s m below meth c ls hx hb hr hml hlocks hown hname hts hv hl
  have hA : ∀ w ∈ yT, w.before _ s = true := fun w h => hts w (List.mem_cons_of_mem _ h)
  have hl : lv_has ls 3 [(0, .ref (z + (50 + o))), (1, .int (J (what))), (2, .int (J (x)))] := hl
  obtain ⟨hW, hK⟩ := hv
  have hS : va_S (yA z 0 73) s.heap s.heap [] := va_S.rf
  have hAr : ∀ d, 0 ≤ d ∧ d < 0 + 73 → yA z 0 73 (z + d) := yA_all
  refine lv_iload_n hx hb d_Output_change_0 rfl (lv_at hl 1 rfl) ?_
  refine lv_iconst (v := J (3)) hx hb d_Output_change_1 rfl ?_
  refine y_icmp_ne (tgt := 15) hx hb d_Output_change_2 (by decide) hwh ⟨by omega, by omega⟩ (fun hc1 => ?_) (fun hc1 => ?_)
  · skip
    refine lv_iload_n hx hb d_Output_change_15 rfl (lv_at hl 2 rfl) ?_
    refine y_ci (y_runSN (As := [.int (J (x))]) (rest := []) ⟨hx, hb, hml, hown, hts⟩ (c_P_isValue l G (x) hx0) 1 k_co_P_isValue (k_ml_Output_69 hK.2) k_st_P_isValue k_in_P rfl rfl (by decide +kernel) ⟨Nat.le_of_ble_eq_true rfl, Nat.le_of_ble_eq_true rfl⟩ (yPs0 (yK_bl G) (yK_mv G) hK) rfl hl.1 rfl (Nat.le_of_ble_eq_true rfl) d_Output_change_16 ⟨Nat.zero_le _, Nat.zero_le _⟩) hS hW (fun H locs hW hS => ?_)
    by_cases hq16 : 0 ≤ x ∧ x < 1000
    · skip
      rw [if_pos hq16]
      refine y_if_ne (tgt := 24) hx hb d_Output_change_19 (by decide) ⟨by omega, by omega⟩ (fun hc2 => ?_) (fun hc2 => absurd hc2 (by decide))
      refine lv_iload_n hx hb d_Output_change_24 rfl (lv_at hl 1 rfl) ?_
      refine lv_iconst (v := J (3)) hx hb d_Output_change_25 rfl ?_
      refine y_icmp_ne (tgt := 37) hx hb d_Output_change_26 (by decide) hwh ⟨by omega, by omega⟩ (fun hc3 => ?_) (fun hc3 => ?_)
      · skip
        refine lv_aload_n hx hb d_Output_change_37 rfl (lv_at hl 0 rfl) ?_
        refine lv_iload_n hx hb d_Output_change_38 rfl (lv_at hl 2 rfl) ?_
        refine y_puti hx hb hA in_Output hown hK.1 hW (50 + o) (by omega) (lay_Output (n := o) (by omega)) rfl 5 (by decide) t_Output tk_Output nm_Output hS hAr (hA _ k_fl_Output_51) rfl (by decide +kernel) rfl d_Output_change_39 (fun H locs hW hS => ?_)
        refine lv_iconst (v := J (1)) hx hb d_Output_change_42 rfl ?_
        exact y_retgz hx hb hr hlocks hS hW (Or.inr rfl) ⟨fun _ => ⟨rfl, fun h => by first | rfl | omega, fun h => by first | rfl | omega⟩, fun h => absurd (by omega) h⟩ d_Output_change_43
      · skip
        refine lv_aload_n hx hb d_Output_change_29 rfl (lv_at hl 0 rfl) ?_
        refine lv_iload_n hx hb d_Output_change_30 rfl (lv_at hl 2 rfl) ?_
        refine y_puti hx hb hA in_Output hown hK.1 hW (50 + o) (by omega) (lay_Output (n := o) (by omega)) rfl 3 (by decide) t_Output tk_Output nm_Output hS hAr (hA _ k_fl_Output_27) rfl (by decide +kernel) rfl d_Output_change_31 (fun H locs hW hS => ?_)
        refine lv_goto (tgt := 42) hx hb d_Output_change_34 (by decide) ?_
        refine lv_iconst (v := J (1)) hx hb d_Output_change_42 rfl ?_
        exact y_retgz hx hb hr hlocks hS hW (Or.inr rfl) ⟨fun _ => ⟨rfl, fun h => by first | rfl | omega, fun h => by first | rfl | omega⟩, fun h => absurd (by omega) h⟩ d_Output_change_43
    · skip
      rw [if_neg hq16]
      refine y_if_ne (tgt := 24) hx hb d_Output_change_19 (by decide) ⟨by omega, by omega⟩ (fun hc4 => absurd hc4 (by decide)) (fun hc4 => ?_)
      refine lv_iconst (v := J (0)) hx hb d_Output_change_22 rfl ?_
      exact y_retgz hx hb hr hlocks hS hW (Or.inl rfl) ⟨fun h => absurd h (by omega), fun _ => ⟨rfl, rfl⟩⟩ d_Output_change_23
  · skip
    refine lv_iload_n hx hb d_Output_change_5 rfl (lv_at hl 2 rfl) ?_
    refine y_ci (y_runSN (As := [.int (J (x))]) (rest := []) ⟨hx, hb, hml, hown, hts⟩ (c_P_isFieldNumber l G (x) hx0) 1 k_co_P_isFieldNumber (k_ml_Output_65 hK.2) k_st_P_isFieldNumber k_in_P rfl rfl (by decide +kernel) ⟨Nat.le_of_ble_eq_true rfl, Nat.le_of_ble_eq_true rfl⟩ (yPs0 (yK_bl G) (yK_mv G) hK) rfl hl.1 rfl (Nat.le_of_ble_eq_true rfl) d_Output_change_6 ⟨Nat.zero_le _, Nat.zero_le _⟩) hS hW (fun H locs hW hS => ?_)
    by_cases hq6 : 0 ≤ x ∧ x < 10009
    · skip
      rw [if_pos hq6]
      refine y_if_ne (tgt := 24) hx hb d_Output_change_9 (by decide) ⟨by omega, by omega⟩ (fun hc5 => ?_) (fun hc5 => absurd hc5 (by decide))
      refine lv_iload_n hx hb d_Output_change_24 rfl (lv_at hl 1 rfl) ?_
      refine lv_iconst (v := J (3)) hx hb d_Output_change_25 rfl ?_
      refine y_icmp_ne (tgt := 37) hx hb d_Output_change_26 (by decide) hwh ⟨by omega, by omega⟩ (fun hc6 => ?_) (fun hc6 => ?_)
      · skip
        refine lv_aload_n hx hb d_Output_change_37 rfl (lv_at hl 0 rfl) ?_
        refine lv_iload_n hx hb d_Output_change_38 rfl (lv_at hl 2 rfl) ?_
        refine y_puti hx hb hA in_Output hown hK.1 hW (50 + o) (by omega) (lay_Output (n := o) (by omega)) rfl 5 (by decide) t_Output tk_Output nm_Output hS hAr (hA _ k_fl_Output_51) rfl (by decide +kernel) rfl d_Output_change_39 (fun H locs hW hS => ?_)
        refine lv_iconst (v := J (1)) hx hb d_Output_change_42 rfl ?_
        exact y_retgz hx hb hr hlocks hS hW (Or.inr rfl) ⟨fun _ => ⟨rfl, fun h => by first | rfl | omega, fun h => by first | rfl | omega⟩, fun h => absurd (by omega) h⟩ d_Output_change_43
      · skip
        refine lv_aload_n hx hb d_Output_change_29 rfl (lv_at hl 0 rfl) ?_
        refine lv_iload_n hx hb d_Output_change_30 rfl (lv_at hl 2 rfl) ?_
        refine y_puti hx hb hA in_Output hown hK.1 hW (50 + o) (by omega) (lay_Output (n := o) (by omega)) rfl 3 (by decide) t_Output tk_Output nm_Output hS hAr (hA _ k_fl_Output_27) rfl (by decide +kernel) rfl d_Output_change_31 (fun H locs hW hS => ?_)
        refine lv_goto (tgt := 42) hx hb d_Output_change_34 (by decide) ?_
        refine lv_iconst (v := J (1)) hx hb d_Output_change_42 rfl ?_
        exact y_retgz hx hb hr hlocks hS hW (Or.inr rfl) ⟨fun _ => ⟨rfl, fun h => by first | rfl | omega, fun h => by first | rfl | omega⟩, fun h => absurd (by omega) h⟩ d_Output_change_43
    · skip
      rw [if_neg hq6]
      refine y_if_ne (tgt := 24) hx hb d_Output_change_9 (by decide) ⟨by omega, by omega⟩ (fun hc7 => absurd hc7 (by decide)) (fun hc7 => ?_)
      refine lv_goto (tgt := 22) hx hb d_Output_change_12 (by decide) ?_
      refine lv_iconst (v := J (0)) hx hb d_Output_change_22 rfl ?_
      exact y_retgz hx hb hr hlocks hS hW (Or.inl rfl) ⟨fun h => absurd h (by omega), fun _ => ⟨rfl, rfl⟩⟩ d_Output_change_23

set_option maxHeartbeats 4000000 in
set_option maxRecDepth 100000 in
theorem c_Output_isProven (l : Launch) (G : yG) (z : Nat) (σ : yM) (hBs : yBs σ) (o : Nat) (ho : o < 2) (a : Int) (ha : σ (50 + o) 0 = eE a) (hv : jr (σ (50 + o) 1)) (ht : jr (σ (50 + o) 2)) (hc : jr (σ (50 + o) 3)) : Met l y_Output_isProven (Cond.code y_Output_isProven b_Output_isProven 2 (some .boolean) :: yT) ({ frames := 4, cells := 0, slots := 0, locals := 102 } : Room) (yP ycl G yLP 0 73 z σ (yK G) [.ref (z + (50 + o)), .ref (z + 1)]) (yQi (if σ (50 + o) 3 = cOf a (σ (50 + o) 1) (σ (50 + o) 2) then 1 else 0)) 0 0 yN := by
  refine y_met (by decide +kernel) (Nat.le_of_ble_eq_true rfl) ?_
  intro p e s m below meth c ls hx hb hr hml hlocks hown hname hts hv hl
  have hA : ∀ w ∈ yT, w.before _ s = true := fun w h => hts w (List.mem_cons_of_mem _ h)
  have hl : lv_has ls 2 [(0, .ref (z + (50 + o))), (1, .ref (z + 1))] := hl
  obtain ⟨hW, hK⟩ := hv
  have hS : va_S yN s.heap s.heap [] := va_S.rf
  refine lv_aload_n hx hb d_Output_isProven_0 rfl (lv_at hl 0 rfl) ?_
  refine y_geti hx hb hA in_Output hown hK.1 hW (50 + o) (by omega) (lay_Output (n := o) (by omega)) rfl 3 (by decide) (hA _ k_fl_Output_27) rfl d_Output_isProven_1 ?_
  refine lv_aload_n hx hb d_Output_isProven_4 rfl (lv_at hl 1 rfl) ?_
  refine lv_aload_n hx hb d_Output_isProven_5 rfl (lv_at hl 0 rfl) ?_
  refine y_geti hx hb hA in_Output hown hK.1 hW (50 + o) (by omega) (lay_Output (n := o) (by omega)) rfl 0 (by decide) (hA _ k_fl_Output_9) rfl d_Output_isProven_6 ?_
  rw [ha]
  refine lv_aload_n hx hb d_Output_isProven_9 rfl (lv_at hl 0 rfl) ?_
  refine y_geti hx hb hA in_Output hown hK.1 hW (50 + o) (by omega) (lay_Output (n := o) (by omega)) rfl 1 (by decide) (hA _ k_fl_Output_15) rfl d_Output_isProven_10 ?_
  refine lv_aload_n hx hb d_Output_isProven_13 rfl (lv_at hl 0 rfl) ?_
  refine y_geti hx hb hA in_Output hown hK.1 hW (50 + o) (by omega) (lay_Output (n := o) (by omega)) rfl 2 (by decide) (hA _ k_fl_Output_18) rfl d_Output_isProven_14 ?_
  refine y_ci (y_runV (As := [.int (J (eE a)), .int (J (σ (50 + o) 1)), .int (J (σ (50 + o) 2))]) (rest := [.int (J (σ (50 + o) 3))]) ⟨hx, hb, hml, hown, hts⟩ (c_Bases_commitment l G z σ hBs a (σ (50 + o) 1) (σ (50 + o) 2) hv ht) 3 k_co_Bases_commitment k_ml_Output_21 k_im_Bases_commitment k_se_Bases_commitment k_in_Bases rfl rfl (by decide +kernel) ⟨Nat.le_of_ble_eq_true rfl, Nat.le_of_ble_eq_true rfl⟩ (yPv (yK_bl G) (yK_mv G) hK hK.1 hW (by omega) lay_1 rfl (by omega) (by omega)) rfl hl.1 rfl (Nat.le_of_ble_eq_true rfl) d_Output_isProven_17 ⟨Nat.zero_le _, Nat.zero_le _⟩) hS hW (fun H locs hW hS => ?_)
  have hcr := cOf_rng a (σ (50 + o) 1) (σ (50 + o) 2)
  unfold cOf at hcr
  refine y_icmp_ne (tgt := 27) hx hb d_Output_isProven_20 (by decide) ⟨by omega, by omega⟩ ⟨by omega, by omega⟩ (fun hc1 => ?_) (fun hc1 => ?_)
  · skip
    refine lv_iconst (v := J (0)) hx hb d_Output_isProven_27 rfl ?_
    exact y_retz hx hb hr hlocks hS (Or.inl rfl) (by first | exact (if_pos (by unfold cOf; omega)).symm | exact (if_neg (by unfold cOf; omega)).symm) d_Output_isProven_28
  · skip
    refine lv_iconst (v := J (1)) hx hb d_Output_isProven_23 rfl ?_
    refine lv_goto (tgt := 28) hx hb d_Output_isProven_24 (by decide) ?_
    exact y_retz hx hb hr hlocks hS (Or.inr rfl) (by first | exact (if_pos (by unfold cOf; omega)).symm | exact (if_neg (by unfold cOf; omega)).symm) d_Output_isProven_28

set_option maxHeartbeats 4000000 in
set_option maxRecDepth 100000 in
theorem c_Output_part (l : Launch) (G : yG) (z : Nat) (σ : yM) (o : Nat) (ho : o < 2) (what : Int) (hwh : 0 ≤ what ∧ what < 7) (e0 c0 : Int) (he : σ (50 + o) 4 = eE e0) (hc : σ (50 + o) 8 = eE c0) : Met l y_Output_part (Cond.code y_Output_part b_Output_part 2 (some .int) :: yT) ({ frames := 1, cells := 0, slots := 0, locals := 21 } : Room) (yP ycl G yLP 0 73 z σ (yK G) [.ref (z + (50 + o)), .int (J (what))]) (yQi (if what = 0 then σ (50 + o) 3 else if what = 1 then eX e0 else if what = 2 then eY e0 else if what = 3 then σ (50 + o) 5 else if what = 4 then σ (50 + o) 6 else if what = 5 then eX c0 else eY c0)) 0 0 yN := by
  refine y_met (by decide +kernel) (Nat.le_of_ble_eq_true rfl) ?_
  intro p e s m below meth c ls hx hb hr hml hlocks hown hname hts hv hl
  have hA : ∀ w ∈ yT, w.before _ s = true := fun w h => hts w (List.mem_cons_of_mem _ h)
  have hl : lv_has ls 2 [(0, .ref (z + (50 + o))), (1, .int (J (what)))] := hl
  obtain ⟨hW, hK⟩ := hv
  have hS : va_S yN s.heap s.heap [] := va_S.rf
  refine lv_iload_n hx hb d_Output_part_0 rfl (lv_at hl 1 rfl) ?_
  by_cases hs1_0 : what = 0
  · skip
    refine lv_tableIn (tgt := 40) (off := 39) hx hb d_Output_part_1 (by rw [J_toInt ⟨by omega, by omega⟩, hs1_0]; decide) (by rw [J_toInt ⟨by omega, by omega⟩, hs1_0]; decide) (by rw [J_toInt ⟨by omega, by omega⟩, hs1_0]; rfl) (by decide) ?_
    refine lv_aload_n hx hb d_Output_part_40 rfl (lv_at hl 0 rfl) ?_
    refine y_geti hx hb hA in_Output hown hK.1 hW (50 + o) (by omega) (lay_Output (n := o) (by omega)) rfl 3 (by decide) (hA _ k_fl_Output_27) rfl d_Output_part_41 ?_
    exact y_reti hx hb hr hlocks hS (by subst hs1_0; rfl) d_Output_part_44
  by_cases hs1_1 : what = 1
  · skip
    refine lv_tableIn (tgt := 45) (off := 44) hx hb d_Output_part_1 (by rw [J_toInt ⟨by omega, by omega⟩, hs1_1]; decide) (by rw [J_toInt ⟨by omega, by omega⟩, hs1_1]; decide) (by rw [J_toInt ⟨by omega, by omega⟩, hs1_1]; rfl) (by decide) ?_
    refine lv_aload_n hx hb d_Output_part_45 rfl (lv_at hl 0 rfl) ?_
    refine y_geti hx hb hA in_Output hown hK.1 hW (50 + o) (by omega) (lay_Output (n := o) (by omega)) rfl 4 (by decide) (hA _ k_fl_Output_45) rfl d_Output_part_46 ?_
    rw [he]
    refine lv_iconst (v := J (0)) hx hb d_Output_part_49 rfl ?_
    refine y_ci (y_runS (As := [.int (J (eE e0)), .int (J (0))]) (rest := []) ⟨hx, hb, hml, hown, hts⟩ (c_Curve_coordinate l G e0 (0) ⟨by omega, by omega⟩) 2 k_co_Curve_coordinate k_ml_Output_48 k_st_Curve_coordinate k_in_Curve rfl rfl (by decide +kernel) ⟨Nat.le_of_ble_eq_true rfl, Nat.le_of_ble_eq_true rfl⟩ (yPs0 (yK_bl G) (yK_mv G) hK) rfl hl.1 rfl (Nat.le_of_ble_eq_true rfl) d_Output_part_50 ⟨Nat.zero_le _, Nat.zero_le _⟩) hS hW (fun H locs hW hS => ?_)
    rw [if_pos rfl]
    exact y_reti hx hb hr hlocks hS (by subst hs1_1; rfl) d_Output_part_53
  by_cases hs1_2 : what = 2
  · skip
    refine lv_tableIn (tgt := 54) (off := 53) hx hb d_Output_part_1 (by rw [J_toInt ⟨by omega, by omega⟩, hs1_2]; decide) (by rw [J_toInt ⟨by omega, by omega⟩, hs1_2]; decide) (by rw [J_toInt ⟨by omega, by omega⟩, hs1_2]; rfl) (by decide) ?_
    refine lv_aload_n hx hb d_Output_part_54 rfl (lv_at hl 0 rfl) ?_
    refine y_geti hx hb hA in_Output hown hK.1 hW (50 + o) (by omega) (lay_Output (n := o) (by omega)) rfl 4 (by decide) (hA _ k_fl_Output_45) rfl d_Output_part_55 ?_
    rw [he]
    refine lv_iconst (v := J (1)) hx hb d_Output_part_58 rfl ?_
    refine y_ci (y_runS (As := [.int (J (eE e0)), .int (J (1))]) (rest := []) ⟨hx, hb, hml, hown, hts⟩ (c_Curve_coordinate l G e0 (1) ⟨by omega, by omega⟩) 2 k_co_Curve_coordinate k_ml_Output_48 k_st_Curve_coordinate k_in_Curve rfl rfl (by decide +kernel) ⟨Nat.le_of_ble_eq_true rfl, Nat.le_of_ble_eq_true rfl⟩ (yPs0 (yK_bl G) (yK_mv G) hK) rfl hl.1 rfl (Nat.le_of_ble_eq_true rfl) d_Output_part_59 ⟨Nat.zero_le _, Nat.zero_le _⟩) hS hW (fun H locs hW hS => ?_)
    rw [if_neg (show ¬ (1 : Int) = 0 by decide)]
    exact y_reti hx hb hr hlocks hS (by subst hs1_2; rfl) d_Output_part_62
  by_cases hs1_3 : what = 3
  · skip
    refine lv_tableIn (tgt := 63) (off := 62) hx hb d_Output_part_1 (by rw [J_toInt ⟨by omega, by omega⟩, hs1_3]; decide) (by rw [J_toInt ⟨by omega, by omega⟩, hs1_3]; decide) (by rw [J_toInt ⟨by omega, by omega⟩, hs1_3]; rfl) (by decide) ?_
    refine lv_aload_n hx hb d_Output_part_63 rfl (lv_at hl 0 rfl) ?_
    refine y_geti hx hb hA in_Output hown hK.1 hW (50 + o) (by omega) (lay_Output (n := o) (by omega)) rfl 5 (by decide) (hA _ k_fl_Output_51) rfl d_Output_part_64 ?_
    exact y_reti hx hb hr hlocks hS (by subst hs1_3; rfl) d_Output_part_67
  by_cases hs1_4 : what = 4
  · skip
    refine lv_tableIn (tgt := 68) (off := 67) hx hb d_Output_part_1 (by rw [J_toInt ⟨by omega, by omega⟩, hs1_4]; decide) (by rw [J_toInt ⟨by omega, by omega⟩, hs1_4]; decide) (by rw [J_toInt ⟨by omega, by omega⟩, hs1_4]; rfl) (by decide) ?_
    refine lv_aload_n hx hb d_Output_part_68 rfl (lv_at hl 0 rfl) ?_
    refine y_geti hx hb hA in_Output hown hK.1 hW (50 + o) (by omega) (lay_Output (n := o) (by omega)) rfl 6 (by decide) (hA _ k_fl_Output_54) rfl d_Output_part_69 ?_
    exact y_reti hx hb hr hlocks hS (by subst hs1_4; rfl) d_Output_part_72
  by_cases hs1_5 : what = 5
  · skip
    refine lv_tableIn (tgt := 73) (off := 72) hx hb d_Output_part_1 (by rw [J_toInt ⟨by omega, by omega⟩, hs1_5]; decide) (by rw [J_toInt ⟨by omega, by omega⟩, hs1_5]; decide) (by rw [J_toInt ⟨by omega, by omega⟩, hs1_5]; rfl) (by decide) ?_
    refine lv_aload_n hx hb d_Output_part_73 rfl (lv_at hl 0 rfl) ?_
    refine y_geti hx hb hA in_Output hown hK.1 hW (50 + o) (by omega) (lay_Output (n := o) (by omega)) rfl 8 (by decide) (hA _ k_fl_Output_63) rfl d_Output_part_74 ?_
    rw [hc]
    refine lv_iconst (v := J (0)) hx hb d_Output_part_77 rfl ?_
    refine y_ci (y_runS (As := [.int (J (eE c0)), .int (J (0))]) (rest := []) ⟨hx, hb, hml, hown, hts⟩ (c_Curve_coordinate l G c0 (0) ⟨by omega, by omega⟩) 2 k_co_Curve_coordinate k_ml_Output_48 k_st_Curve_coordinate k_in_Curve rfl rfl (by decide +kernel) ⟨Nat.le_of_ble_eq_true rfl, Nat.le_of_ble_eq_true rfl⟩ (yPs0 (yK_bl G) (yK_mv G) hK) rfl hl.1 rfl (Nat.le_of_ble_eq_true rfl) d_Output_part_78 ⟨Nat.zero_le _, Nat.zero_le _⟩) hS hW (fun H locs hW hS => ?_)
    rw [if_pos rfl]
    exact y_reti hx hb hr hlocks hS (by subst hs1_5; rfl) d_Output_part_81
  refine lv_tableOut (tgt := 82) hx hb d_Output_part_1 (by rw [J_toInt ⟨by omega, by omega⟩]; omega) (by decide) ?_
  refine lv_aload_n hx hb d_Output_part_82 rfl (lv_at hl 0 rfl) ?_
  refine y_geti hx hb hA in_Output hown hK.1 hW (50 + o) (by omega) (lay_Output (n := o) (by omega)) rfl 8 (by decide) (hA _ k_fl_Output_63) rfl d_Output_part_83 ?_
  rw [hc]
  refine lv_iconst (v := J (1)) hx hb d_Output_part_86 rfl ?_
  refine y_ci (y_runS (As := [.int (J (eE c0)), .int (J (1))]) (rest := []) ⟨hx, hb, hml, hown, hts⟩ (c_Curve_coordinate l G c0 (1) ⟨by omega, by omega⟩) 2 k_co_Curve_coordinate k_ml_Output_48 k_st_Curve_coordinate k_in_Curve rfl rfl (by decide +kernel) ⟨Nat.le_of_ble_eq_true rfl, Nat.le_of_ble_eq_true rfl⟩ (yPs0 (yK_bl G) (yK_mv G) hK) rfl hl.1 rfl (Nat.le_of_ble_eq_true rfl) d_Output_part_87 ⟨Nat.zero_le _, Nat.zero_le _⟩) hS hW (fun H locs hW hS => ?_)
  rw [if_neg (show ¬ (1 : Int) = 0 by decide)]
  exact y_reti hx hb hr hlocks hS (by simp only [hs1_0, hs1_1, hs1_2, hs1_3, hs1_4, hs1_5, if_true, if_false, reduceIte]) d_Output_part_90
