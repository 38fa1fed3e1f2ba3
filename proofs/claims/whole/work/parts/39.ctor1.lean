theorem k_ml_P_1 : Cond.methodLink R_P 1 Lib.objectInit ∈ yT := yT_in (List.mem_append_right _ (List.mem_append_left _ (List.mem_of_getElem? (i := 19) (by decide +kernel)))) (by decide +kernel)
theorem k_im_Object_init : Cond.instanceMethod Lib.objectInit ∈ yT := yT_in (List.mem_append_right _ (List.mem_append_left _ (List.mem_of_getElem? (i := 20) (by decide +kernel)))) (by decide +kernel)
theorem k_co_Object_init : Cond.code Lib.objectInit ⟨#[0xb1]⟩ 1 none ∈ yT := yT_in (List.mem_append_right _ (List.mem_append_left _ (List.mem_of_getElem? (i := 21) (by decide +kernel)))) (by decide +kernel)
theorem k_ml_Bases_1 : Cond.methodLink R_Bases 1 Lib.objectInit ∈ yT := yT_in (List.mem_append_right _ (List.mem_append_left _ (List.mem_of_getElem? (i := 27) (by decide +kernel)))) (by decide +kernel)
theorem k_ml_Base_3 : Cond.methodLink R_Base 3 Lib.objectInit ∈ yT := yT_in (List.mem_append_right _ (List.mem_append_left _ (List.mem_of_getElem? (i := 33) (by decide +kernel)))) (by decide +kernel)
theorem k_ac_int : Cond.arrayClass (newarray.typeOf .int) ∈ yT := yT_in (List.mem_append_right _ (List.mem_append_left _ (List.mem_of_getElem? (i := 48) (by decide +kernel)))) (by decide +kernel)
theorem k_ml_Tree_3 : Cond.methodLink R_Tree 3 Lib.objectInit ∈ yT := yT_in (List.mem_append_right _ (List.mem_append_left _ (List.mem_of_getElem? (i := 74) (by decide +kernel)))) (by decide +kernel)
theorem k_ml_Chain_3 : Cond.methodLink R_Chain 3 Lib.objectInit ∈ yT := yT_in (List.mem_append_right _ (List.mem_append_left _ (List.mem_of_getElem? (i := 127) (by decide +kernel)))) (by decide +kernel)
theorem k_ml_Block_3 : Cond.methodLink R_Block 3 Lib.objectInit ∈ yT := yT_in (List.mem_append_right _ (List.mem_append_left _ (List.mem_of_getElem? (i := 134) (by decide +kernel)))) (by decide +kernel)
theorem k_ml_Draft_3 : Cond.methodLink R_Draft 3 Lib.objectInit ∈ yT := yT_in (List.mem_append_right _ (List.mem_append_left _ (List.mem_of_getElem? (i := 172) (by decide +kernel)))) (by decide +kernel)
theorem k_ml_Spend_3 : Cond.methodLink R_Spend 3 Lib.objectInit ∈ yT := yT_in (List.mem_append_right _ (List.mem_append_left _ (List.mem_of_getElem? (i := 181) (by decide +kernel)))) (by decide +kernel)
theorem k_ml_Output_3 : Cond.methodLink R_Output 3 Lib.objectInit ∈ yT := yT_in (List.mem_append_right _ (List.mem_append_left _ (List.mem_of_getElem? (i := 224) (by decide +kernel)))) (by decide +kernel)
theorem k_ml_Key_3 : Cond.methodLink R_Key 3 Lib.objectInit ∈ yT := yT_in (List.mem_append_right _ (List.mem_append_right _ (List.mem_append_left _ (List.mem_of_getElem? (i := 54) (by decide +kernel))))) (by decide +kernel)
theorem k_ac_boolean : Cond.arrayClass (newarray.typeOf .boolean) ∈ yT := yT_in (List.mem_append_right _ (List.mem_append_right _ (List.mem_append_left _ (List.mem_of_getElem? (i := 84) (by decide +kernel))))) (by decide +kernel)
theorem k_ml_M_1 : Cond.methodLink R_M 1 Lib.objectInit ∈ yT := yT_in (List.mem_append_right _ (List.mem_append_right _ (List.mem_append_right _ (List.mem_append_left _ (List.mem_of_getElem? (i := 116) (by decide +kernel)))))) (by decide +kernel)
theorem y_ra {U : State} {cA : ClassId} {C : String} (h : va_RA U cA (.object C)) : U.vm.findClass ("[" ++ (FieldType.object C).toString) = some cA := by obtain ⟨_, _, _, _, _, h⟩ := h; exact h

theorem d_Output_init_0 : decode b_Output_init 0 = .ok (.aload_n 0, 1) := by decide +kernel
theorem d_Output_init_1 : decode b_Output_init 1 = .ok (.invokespecial 3, 3) := by decide +kernel
theorem d_Output_init_4 : decode b_Output_init 4 = .ok (.return_, 1) := by decide +kernel
theorem d_Spend_init_0 : decode b_Spend_init 0 = .ok (.aload_n 0, 1) := by decide +kernel
theorem d_Spend_init_1 : decode b_Spend_init 1 = .ok (.invokespecial 3, 3) := by decide +kernel
theorem d_Spend_init_4 : decode b_Spend_init 4 = .ok (.aload_n 0, 1) := by decide +kernel
theorem d_Spend_init_5 : decode b_Spend_init 5 = .ok (.iconst 4, 1) := by decide +kernel
theorem d_Spend_init_6 : decode b_Spend_init 6 = .ok (.newarray .int, 2) := by decide +kernel
theorem d_Spend_init_8 : decode b_Spend_init 8 = .ok (.putfield 9, 3) := by decide +kernel
theorem d_Spend_init_11 : decode b_Spend_init 11 = .ok (.return_, 1) := by decide +kernel
theorem d_Block_init_0 : decode b_Block_init 0 = .ok (.aload_n 0, 1) := by decide +kernel
theorem d_Block_init_1 : decode b_Block_init 1 = .ok (.invokespecial 3, 3) := by decide +kernel
theorem d_Block_init_4 : decode b_Block_init 4 = .ok (.aload_n 0, 1) := by decide +kernel
theorem d_Block_init_5 : decode b_Block_init 5 = .ok (.iconst 2, 1) := by decide +kernel
theorem d_Block_init_6 : decode b_Block_init 6 = .ok (.newarray .int, 2) := by decide +kernel
theorem d_Block_init_8 : decode b_Block_init 8 = .ok (.putfield 9, 3) := by decide +kernel
theorem d_Block_init_11 : decode b_Block_init 11 = .ok (.return_, 1) := by decide +kernel
theorem d_Key_init_0 : decode b_Key_init 0 = .ok (.aload_n 0, 1) := by decide +kernel
theorem d_Key_init_1 : decode b_Key_init 1 = .ok (.invokespecial 3, 3) := by decide +kernel
theorem d_Key_init_4 : decode b_Key_init 4 = .ok (.aload_n 0, 1) := by decide +kernel
theorem d_Key_init_5 : decode b_Key_init 5 = .ok (.bipush 16, 2) := by decide +kernel
theorem d_Key_init_7 : decode b_Key_init 7 = .ok (.newarray .boolean, 2) := by decide +kernel
theorem d_Key_init_9 : decode b_Key_init 9 = .ok (.putfield 9, 3) := by decide +kernel
theorem d_Key_init_12 : decode b_Key_init 12 = .ok (.aload_n 0, 1) := by decide +kernel
theorem d_Key_init_13 : decode b_Key_init 13 = .ok (.bipush 16, 2) := by decide +kernel
theorem d_Key_init_15 : decode b_Key_init 15 = .ok (.newarray .int, 2) := by decide +kernel
theorem d_Key_init_17 : decode b_Key_init 17 = .ok (.putfield 15, 3) := by decide +kernel
theorem d_Key_init_20 : decode b_Key_init 20 = .ok (.aload_n 0, 1) := by decide +kernel
theorem d_Key_init_21 : decode b_Key_init 21 = .ok (.bipush 16, 2) := by decide +kernel
theorem d_Key_init_23 : decode b_Key_init 23 = .ok (.newarray .int, 2) := by decide +kernel
theorem d_Key_init_25 : decode b_Key_init 25 = .ok (.putfield 19, 3) := by decide +kernel
theorem d_Key_init_28 : decode b_Key_init 28 = .ok (.aload_n 0, 1) := by decide +kernel
theorem d_Key_init_29 : decode b_Key_init 29 = .ok (.bipush 16, 2) := by decide +kernel
theorem d_Key_init_31 : decode b_Key_init 31 = .ok (.newarray .int, 2) := by decide +kernel
theorem d_Key_init_33 : decode b_Key_init 33 = .ok (.putfield 22, 3) := by decide +kernel
theorem d_Key_init_36 : decode b_Key_init 36 = .ok (.return_, 1) := by decide +kernel

set_option maxHeartbeats 4000000 in
set_option maxRecDepth 100000 in
theorem c_Output_init (l : Launch) (G : yG) (z o : Nat) (ho : o < 2) : Met l y_Output_init (Cond.code y_Output_init b_Output_init 1 (Option.none : Option Jvm.ClassFile.FieldType) :: yT) ({ frames := 1, cells := 0, slots := 0, locals := 20 } : Room) (yPn G z (50 + o) 7 [.int (J 0), .int (J 0), .int (J 0), .int (J 0), .int (J 0), .int (J 0), .int (J 0), .int (J 0), .int (J 0)] (fun _ => True) [.ref (z + (50 + o))]) (yQn G yLP (50 + o) 1 z (fun τ => τ = fun _ _ => 0)) 0 0 (fun b9 => z + (50 + o) ≤ b9) := by
  refine y_met (by decide +kernel) (Nat.le_of_ble_eq_true rfl) ?_
  intro p e s m below meth c ls hx hb hr hml hlocks hown hname hts hv hl
  have hA : ∀ w ∈ yT, w.before _ s = true := fun w h => hts w (List.mem_cons_of_mem _ h)
  obtain ⟨hat, hsz, hB, hK2⟩ := hv
  have hK := hK2.1
  have hl : lv_has ls 1 [(0, .ref (z + (50 + o)))] := hl
  have hX : xX ycl G (fun _ => .inr (7, [.int (J 0), .int (J 0), .int (J 0), .int (J 0), .int (J 0), .int (J 0), .int (J 0), .int (J 0), .int (J 0)])) (50 + o) 1 z s.heap := xX_of (fun c hc => by have e : c = (50 + o) := (by omega); subst e; exact hat)
  have hS : va_S (fun b9 => z + (50 + o) ≤ b9) s.heap s.heap [] := va_S.rf
  have hAr : ∀ b9, (50 + o) ≤ b9 → (fun b9 => z + (50 + o) ≤ b9) (z + b9) := fun b9 h => Nat.add_le_add_left h z
  refine lv_aload_n hx hb d_Output_init_0 rfl (lv_at hl 0 rfl) ?_
  refine W.objInit hx hb hown (hA _ k_ml_Output_3) (hA _ k_im_Object_init) (hA _ k_co_Object_init) rfl (by rw [hml]; exact hl.1) rfl d_Output_init_1 (Nat.le_of_ble_eq_true rfl) (Nat.le_of_ble_eq_true rfl) ?_
  refine W.eq (g2 := F0 m 4 ls []) rfl ?_
  exact x_ret hx hb hr hlocks hS (xX_y hX (by omega) (by omega) (fun c hc => by have e : c = (50 + o) := (by omega); subst e; exact rfl.trans (by unfold yC; rw [lay_Output ho]; try rfl))) rfl d_Output_init_4

set_option maxHeartbeats 4000000 in
set_option maxRecDepth 100000 in
theorem c_Spend_init (l : Launch) (G : yG) (z q : Nat) (hq : q < 2) : Met l y_Spend_init (Cond.code y_Spend_init b_Spend_init 1 (Option.none : Option Jvm.ClassFile.FieldType) :: yT) ({ frames := 1, cells := 1, slots := 4, locals := 20 } : Room) (yPn G z (46 + 2 * q) 8 [.int (J 0), .int (J 0), .int (J 0), .int (J 0), .int (J 0), .int (J 0), .null, .int (J 0), .int (J 0), .int (J 0)] (fun _ => True) [.ref (z + (46 + 2 * q))]) (yQn G yLP (46 + 2 * q) 2 z (fun τ => τ = fun _ _ => 0)) 1 4 (fun b9 => z + (46 + 2 * q) ≤ b9) := by
  refine y_met (by decide +kernel) (Nat.le_of_ble_eq_true rfl) ?_
  intro p e s m below meth c ls hx hb hr hml hlocks hown hname hts hv hl
  have hA : ∀ w ∈ yT, w.before _ s = true := fun w h => hts w (List.mem_cons_of_mem _ h)
  obtain ⟨hat, hsz, hB, hK2⟩ := hv
  have hK := hK2.1
  have hl : lv_has ls 1 [(0, .ref (z + (46 + 2 * q)))] := hl
  have hX : xX ycl G (fun _ => .inr (8, [.int (J 0), .int (J 0), .int (J 0), .int (J 0), .int (J 0), .int (J 0), .null, .int (J 0), .int (J 0), .int (J 0)])) (46 + 2 * q) 1 z s.heap := xX_of (fun c hc => by have e : c = (46 + 2 * q) := (by omega); subst e; exact hat)
  have hS : va_S (fun b9 => z + (46 + 2 * q) ≤ b9) s.heap s.heap [] := va_S.rf
  have hAr : ∀ b9, (46 + 2 * q) ≤ b9 → (fun b9 => z + (46 + 2 * q) ≤ b9) (z + b9) := fun b9 h => Nat.add_le_add_left h z
  refine lv_aload_n hx hb d_Spend_init_0 rfl (lv_at hl 0 rfl) ?_
  refine W.objInit hx hb hown (hA _ k_ml_Spend_3) (hA _ k_im_Object_init) (hA _ k_co_Object_init) rfl (by rw [hml]; exact hl.1) rfl d_Spend_init_1 (Nat.le_of_ble_eq_true rfl) (Nat.le_of_ble_eq_true rfl) ?_
  refine W.eq (g2 := F0 m 4 ls []) rfl ?_
  refine lv_aload_n hx hb d_Spend_init_4 rfl (lv_at hl 0 rfl) ?_
  refine lv_iconst (v := J (4)) hx hb d_Spend_init_5 rfl ?_
  refine x_sz hX (by omega) (by omega) (fun hZ => ?_)
  refine x_newa (a0 := (4, .inl (fun _ => J 0))) hx hb (hA _ k_ac_int) (hK.1.2 0 _ rfl).2 hX hS hZ (fun cA => by rw [J0]; rfl) (by decide +kernel) (N' := 4) (by decide +kernel) (by decide) (by show _ ≤ 1; omega) (by show _ ≤ 4; omega) d_Spend_init_6 (fun H hX hS => ?_)
  have hX : xX ycl G (eu _ (46 + 2 * q + 1) _) (46 + 2 * q) 2 z H := hX
  refine W.eq (g2 := F0 m 8 ls [.ref (z + (46 + 2 * q + 1)), .ref (z + (46 + 2 * q))]) rfl ?_
  refine x_putF (ty := (.array .int)) hx hb hA in_Spend t_Spend tk_Spend nm_Spend hown hK.1 hX hAr hS (46 + 2 * q) (by omega) ((eu_ne (by omega)).trans rfl) rfl 6 (by decide) (hA _ k_fl_Spend_9) rfl hname rfl (by decide +kernel) rfl rfl (Nat.le_of_ble_eq_true rfl) d_Spend_init_8 (fun H locs hX hS => ?_)
  exact x_ret hx hb hr hlocks hS (xX_y hX (by omega) (by omega) (fun c hc => by rcases (by omega : c = (46 + 2 * q) ∨ c = (46 + 2 * q + 1)) with rfl | rfl; exact eu_at.trans (by unfold yC; rw [lay_Spend hq]; try rfl); exact ((eu_ne (by omega)).trans eu_at).trans (by unfold yC; rw [lay_path hq]; try rfl))) rfl d_Spend_init_11

set_option maxHeartbeats 4000000 in
set_option maxRecDepth 100000 in
theorem c_Block_init (l : Launch) (G : yG) (z j : Nat) (hj : j < 12) : Met l y_Block_init (Cond.code y_Block_init b_Block_init 1 (Option.none : Option Jvm.ClassFile.FieldType) :: yT) ({ frames := 1, cells := 1, slots := 2, locals := 20 } : Room) (yPn G z (19 + 2 * j) 3 [.null, .int (J 0), .int (J 0), .int (J 0), .int (J 0)] (fun _ => True) [.ref (z + (19 + 2 * j))]) (yQn G yLP (19 + 2 * j) 2 z (fun τ => τ = fun _ _ => 0)) 1 2 (fun b9 => z + (19 + 2 * j) ≤ b9) := by
  refine y_met (by decide +kernel) (Nat.le_of_ble_eq_true rfl) ?_
  intro p e s m below meth c ls hx hb hr hml hlocks hown hname hts hv hl
  have hA : ∀ w ∈ yT, w.before _ s = true := fun w h => hts w (List.mem_cons_of_mem _ h)
  obtain ⟨hat, hsz, hB, hK2⟩ := hv
  have hK := hK2.1
  have hl : lv_has ls 1 [(0, .ref (z + (19 + 2 * j)))] := hl
  have hX : xX ycl G (fun _ => .inr (3, [.null, .int (J 0), .int (J 0), .int (J 0), .int (J 0)])) (19 + 2 * j) 1 z s.heap := xX_of (fun c hc => by have e : c = (19 + 2 * j) := (by omega); subst e; exact hat)
  have hS : va_S (fun b9 => z + (19 + 2 * j) ≤ b9) s.heap s.heap [] := va_S.rf
  have hAr : ∀ b9, (19 + 2 * j) ≤ b9 → (fun b9 => z + (19 + 2 * j) ≤ b9) (z + b9) := fun b9 h => Nat.add_le_add_left h z
  refine lv_aload_n hx hb d_Block_init_0 rfl (lv_at hl 0 rfl) ?_
  refine W.objInit hx hb hown (hA _ k_ml_Block_3) (hA _ k_im_Object_init) (hA _ k_co_Object_init) rfl (by rw [hml]; exact hl.1) rfl d_Block_init_1 (Nat.le_of_ble_eq_true rfl) (Nat.le_of_ble_eq_true rfl) ?_
  refine W.eq (g2 := F0 m 4 ls []) rfl ?_
  refine lv_aload_n hx hb d_Block_init_4 rfl (lv_at hl 0 rfl) ?_
  refine lv_iconst (v := J (2)) hx hb d_Block_init_5 rfl ?_
  refine x_sz hX (by omega) (by omega) (fun hZ => ?_)
  refine x_newa (a0 := (2, .inl (fun _ => J 0))) hx hb (hA _ k_ac_int) (hK.1.2 0 _ rfl).2 hX hS hZ (fun cA => by rw [J0]; rfl) (by decide +kernel) (N' := 2) (by decide +kernel) (by decide) (by show _ ≤ 1; omega) (by show _ ≤ 2; omega) d_Block_init_6 (fun H hX hS => ?_)
  have hX : xX ycl G (eu _ (19 + 2 * j + 1) _) (19 + 2 * j) 2 z H := hX
  refine W.eq (g2 := F0 m 8 ls [.ref (z + (19 + 2 * j + 1)), .ref (z + (19 + 2 * j))]) rfl ?_
  refine x_putF (ty := (.array .int)) hx hb hA in_Block t_Block tk_Block nm_Block hown hK.1 hX hAr hS (19 + 2 * j) (by omega) ((eu_ne (by omega)).trans rfl) rfl 0 (by decide) (hA _ k_fl_Block_9) rfl hname rfl (by decide +kernel) rfl rfl (Nat.le_of_ble_eq_true rfl) d_Block_init_8 (fun H locs hX hS => ?_)
  exact x_ret hx hb hr hlocks hS (xX_y hX (by omega) (by omega) (fun c hc => by rcases (by omega : c = (19 + 2 * j) ∨ c = (19 + 2 * j + 1)) with rfl | rfl; exact eu_at.trans (by unfold yC; rw [lay_Block hj]; try rfl); exact ((eu_ne (by omega)).trans eu_at).trans (by unfold yC; rw [lay_Bnul hj]; try rfl))) rfl d_Block_init_11

set_option maxHeartbeats 4000000 in
set_option maxRecDepth 100000 in
theorem c_Key_init (l : Launch) (G : yG) (z k : Nat) (hk : k < 4) : Met l y_Key_init (Cond.code y_Key_init b_Key_init 1 (Option.none : Option Jvm.ClassFile.FieldType) :: yT) ({ frames := 1, cells := 4, slots := 64, locals := 20 } : Room) (yPn G z (53 + 5 * k) 6 [.int (J 0), .int (J 0), .null, .null, .null, .null] (fun _ => True) [.ref (z + (53 + 5 * k))]) (yQn G yLP (53 + 5 * k) 5 z (fun τ => τ = fun _ _ => 0)) 4 64 (fun b9 => z + (53 + 5 * k) ≤ b9) := by
  refine y_met (by decide +kernel) (Nat.le_of_ble_eq_true rfl) ?_
  intro p e s m below meth c ls hx hb hr hml hlocks hown hname hts hv hl
  have hA : ∀ w ∈ yT, w.before _ s = true := fun w h => hts w (List.mem_cons_of_mem _ h)
  obtain ⟨hat, hsz, hB, hK2⟩ := hv
  have hK := hK2.1
  have hl : lv_has ls 1 [(0, .ref (z + (53 + 5 * k)))] := hl
  have hX : xX ycl G (fun _ => .inr (6, [.int (J 0), .int (J 0), .null, .null, .null, .null])) (53 + 5 * k) 1 z s.heap := xX_of (fun c hc => by have e : c = (53 + 5 * k) := (by omega); subst e; exact hat)
  have hS : va_S (fun b9 => z + (53 + 5 * k) ≤ b9) s.heap s.heap [] := va_S.rf
  have hAr : ∀ b9, (53 + 5 * k) ≤ b9 → (fun b9 => z + (53 + 5 * k) ≤ b9) (z + b9) := fun b9 h => Nat.add_le_add_left h z
  refine lv_aload_n hx hb d_Key_init_0 rfl (lv_at hl 0 rfl) ?_
  refine W.objInit hx hb hown (hA _ k_ml_Key_3) (hA _ k_im_Object_init) (hA _ k_co_Object_init) rfl (by rw [hml]; exact hl.1) rfl d_Key_init_1 (Nat.le_of_ble_eq_true rfl) (Nat.le_of_ble_eq_true rfl) ?_
  refine W.eq (g2 := F0 m 4 ls []) rfl ?_
  refine lv_aload_n hx hb d_Key_init_4 rfl (lv_at hl 0 rfl) ?_
  refine lv_bipush (v := J (16)) hx hb d_Key_init_5 (by decide) ?_
  refine x_sz hX (by omega) (by omega) (fun hZ => ?_)
  refine x_newa (a0 := (16, .inl (fun _ => J 0))) hx hb (hA _ k_ac_boolean) (hK.1.2 1 _ rfl).2 hX hS hZ (fun cA => by rw [J0]; rfl) (by decide +kernel) (N' := 16) (by decide +kernel) (by decide) (by show _ ≤ 4; omega) (by show _ ≤ 64; omega) d_Key_init_7 (fun H hX hS => ?_)
  have hX : xX ycl G (eu _ (53 + 5 * k + 1) _) (53 + 5 * k) 2 z H := hX
  refine W.eq (g2 := F0 m 9 ls [.ref (z + (53 + 5 * k + 1)), .ref (z + (53 + 5 * k))]) rfl ?_
  refine x_putF (ty := (.array .boolean)) hx hb hA in_Key t_Key tk_Key nm_Key hown hK.1 hX hAr hS (53 + 5 * k) (by omega) ((eu_ne (by omega)).trans rfl) rfl 2 (by decide) (hA _ k_fl_Key_9) rfl hname rfl (by decide +kernel) rfl rfl (Nat.le_of_ble_eq_true rfl) d_Key_init_9 (fun H locs hX hS => ?_)
  refine lv_aload_n hx hb d_Key_init_12 rfl (lv_at hl 0 rfl) ?_
  refine lv_bipush (v := J (16)) hx hb d_Key_init_13 (by decide) ?_
  refine x_sz hX (by omega) (by omega) (fun hZ => ?_)
  refine x_newa (a0 := (16, .inl (fun _ => J 0))) hx hb (hA _ k_ac_int) (hK.1.2 0 _ rfl).2 hX hS hZ (fun cA => by rw [J0]; rfl) (by decide +kernel) (N' := 16) (by decide +kernel) (by decide) (by show _ ≤ 4; omega) (by show _ ≤ 64; omega) d_Key_init_15 (fun H hX hS => ?_)
  have hX : xX ycl G (eu _ (53 + 5 * k + 2) _) (53 + 5 * k) 3 z H := hX
  refine W.eq (g2 := F0 m 17 ls [.ref (z + (53 + 5 * k + 2)), .ref (z + (53 + 5 * k))]) rfl ?_
  refine x_putF (ty := (.array .int)) hx hb hA in_Key t_Key tk_Key nm_Key hown hK.1 hX hAr hS (53 + 5 * k) (by omega) ((eu_ne (by omega)).trans eu_at) rfl 3 (by decide) (hA _ k_fl_Key_15) rfl hname rfl (by decide +kernel) rfl rfl (Nat.le_of_ble_eq_true rfl) d_Key_init_17 (fun H locs hX hS => ?_)
  refine lv_aload_n hx hb d_Key_init_20 rfl (lv_at hl 0 rfl) ?_
  refine lv_bipush (v := J (16)) hx hb d_Key_init_21 (by decide) ?_
  refine x_sz hX (by omega) (by omega) (fun hZ => ?_)
  refine x_newa (a0 := (16, .inl (fun _ => J 0))) hx hb (hA _ k_ac_int) (hK.1.2 0 _ rfl).2 hX hS hZ (fun cA => by rw [J0]; rfl) (by decide +kernel) (N' := 16) (by decide +kernel) (by decide) (by show _ ≤ 4; omega) (by show _ ≤ 64; omega) d_Key_init_23 (fun H hX hS => ?_)
  have hX : xX ycl G (eu _ (53 + 5 * k + 3) _) (53 + 5 * k) 4 z H := hX
  refine W.eq (g2 := F0 m 25 ls [.ref (z + (53 + 5 * k + 3)), .ref (z + (53 + 5 * k))]) rfl ?_
  refine x_putF (ty := (.array .int)) hx hb hA in_Key t_Key tk_Key nm_Key hown hK.1 hX hAr hS (53 + 5 * k) (by omega) ((eu_ne (by omega)).trans eu_at) rfl 4 (by decide) (hA _ k_fl_Key_19) rfl hname rfl (by decide +kernel) rfl rfl (Nat.le_of_ble_eq_true rfl) d_Key_init_25 (fun H locs hX hS => ?_)
  refine lv_aload_n hx hb d_Key_init_28 rfl (lv_at hl 0 rfl) ?_
  refine lv_bipush (v := J (16)) hx hb d_Key_init_29 (by decide) ?_
  refine x_sz hX (by omega) (by omega) (fun hZ => ?_)
  refine x_newa (a0 := (16, .inl (fun _ => J 0))) hx hb (hA _ k_ac_int) (hK.1.2 0 _ rfl).2 hX hS hZ (fun cA => by rw [J0]; rfl) (by decide +kernel) (N' := 16) (by decide +kernel) (by decide) (by show _ ≤ 4; omega) (by show _ ≤ 64; omega) d_Key_init_31 (fun H hX hS => ?_)
  have hX : xX ycl G (eu _ (53 + 5 * k + 4) _) (53 + 5 * k) 5 z H := hX
  refine W.eq (g2 := F0 m 33 ls [.ref (z + (53 + 5 * k + 4)), .ref (z + (53 + 5 * k))]) rfl ?_
  refine x_putF (ty := (.array .int)) hx hb hA in_Key t_Key tk_Key nm_Key hown hK.1 hX hAr hS (53 + 5 * k) (by omega) ((eu_ne (by omega)).trans eu_at) rfl 5 (by decide) (hA _ k_fl_Key_22) rfl hname rfl (by decide +kernel) rfl rfl (Nat.le_of_ble_eq_true rfl) d_Key_init_33 (fun H locs hX hS => ?_)
  exact x_ret hx hb hr hlocks hS (xX_y hX (by omega) (by omega) (fun c hc => by rcases (by omega : c = (53 + 5 * k) ∨ c = (53 + 5 * k + 1) ∨ c = (53 + 5 * k + 2) ∨ c = (53 + 5 * k + 3) ∨ c = (53 + 5 * k + 4)) with rfl | rfl | rfl | rfl | rfl; exact eu_at.trans (by unfold yC; rw [lay_Key hk]; try rfl); exact ((eu_ne (by omega)).trans ((eu_ne (by omega)).trans ((eu_ne (by omega)).trans ((eu_ne (by omega)).trans ((eu_ne (by omega)).trans ((eu_ne (by omega)).trans ((eu_ne (by omega)).trans eu_at))))))).trans (by unfold yC; rw [lay_Kfnd hk]; try rfl); exact ((eu_ne (by omega)).trans ((eu_ne (by omega)).trans ((eu_ne (by omega)).trans ((eu_ne (by omega)).trans ((eu_ne (by omega)).trans eu_at))))).trans (by unfold yC; rw [lay_Kval hk]; try rfl); exact ((eu_ne (by omega)).trans ((eu_ne (by omega)).trans ((eu_ne (by omega)).trans eu_at))).trans (by unfold yC; rw [lay_Ktrp hk]; try rfl); exact ((eu_ne (by omega)).trans eu_at).trans (by unfold yC; rw [lay_Knul hk]; try rfl))) rfl d_Key_init_36
