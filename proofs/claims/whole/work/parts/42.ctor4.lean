theorem xX_kept {cl : List vw_C} {G : yG} {E : Nat → va_E} {lo n z : Nat} {H H1 : Heap} (h : xX cl G E lo n z H) (hk : ∀ q, q < H.size → H1[q]? = H[q]?) : xX cl G E lo n z H1 := xX_of fun c hc => by
  have h0 := xX_at h hc
  exact h0.kept (hk _ h0.lt)
set_option maxHeartbeats 4000000 in
set_option maxRecDepth 100000 in
theorem c_P_init (l : Launch) (G : yG) (z : Nat) : Met l y_P_init (Cond.code y_P_init b_P_init 2 (Option.none : Option Jvm.ClassFile.FieldType) :: yT) ({ frames := 5, cells := 72, slots := 595, locals := 127 } : Room) (yPn G z 0 0 [.null, .null, .null, .null, .null, .int (J 0)] (fun _ => True) [.ref (z + 0)]) (yQn G yLP 0 73 z (fun τ => yBs τ ∧ yTr τ (fun _ => 0) ∧ τ 12 5 = 0 ∧ τ 17 1 = nd (fun _ => 0) 4 0 ∧ τ 17 2 = 0 ∧ τ 17 3 = 0 ∧ (∀ c, 43 ≤ c → τ c = fun _ => 0) ∧ τ 0 5 = 0)) 72 595 (fun b9 => z + 0 ≤ b9) := by
  refine y_met (by decide +kernel) (Nat.le_of_ble_eq_true rfl) ?_
  intro p e s m below meth c ls hx hb hr hml hlocks hown hname hts hv hl
  have hA : ∀ w ∈ yT, w.before _ s = true := fun w h => hts w (List.mem_cons_of_mem _ h)
  obtain ⟨hat, hsz, hB, hK2⟩ := hv
  have hK := hK2.1
  have hl : lv_has ls 2 [(0, .ref (z + 0))] := hl
  have hX : xX ycl G (fun _ => .inr (0, [.null, .null, .null, .null, .null, .int (J 0)])) 0 1 z s.heap := xX_of (fun c hc => by have e : c = 0 := (by omega); subst e; exact hat)
  have hS : va_S (fun b9 => z + 0 ≤ b9) s.heap s.heap [] := va_S.rf
  have hAr : ∀ b9, 0 ≤ b9 → (fun b9 => z + 0 ≤ b9) (z + b9) := fun b9 h => Nat.add_le_add_left h z
  refine lv_aload_n hx hb d_P_init_0 rfl (lv_at hl 0 rfl) ?_
  refine W.objInit hx hb hown (hA _ k_ml_P_1) (hA _ k_im_Object_init) (hA _ k_co_Object_init) rfl (by rw [hml]; exact hl.1) rfl d_P_init_1 (Nat.le_of_ble_eq_true rfl) (Nat.le_of_ble_eq_true rfl) ?_
  refine W.eq (g2 := F0 m 4 ls []) rfl ?_
  refine lv_aload_n hx hb d_P_init_4 rfl (lv_at hl 0 rfl) ?_
  refine x_sz hX (by omega) (by omega) (fun hZ => ?_)
  refine x_new (ci := 2) (fs := [.null, .null, .null, .null, .null]) hx hb hA in_Bases t_Bases tk_Bases hown (hA _ k_cl_P_7) (hA _ k_it_Bases) (hA _ k_in_Bases) hK.1 hX hS hZ rfl (fun j hj => by rcases (by omega : j = 0 ∨ j = 1 ∨ j = 2 ∨ j = 3 ∨ j = 4) with rfl | rfl | rfl | rfl | rfl <;> first | rfl | exact congrArg Value.int J0.symm) (by show _ ≤ 72; omega) (by show _ ≤ 595; omega) d_P_init_5 (fun H hX hS => ?_)
  have hX : xX ycl G (eu _ 1 _) 0 2 z H := hX
  refine W.eq (g2 := F0 m 8 ls [.ref (z + 1), .ref (z + 0)]) rfl ?_
  refine lv_dup hx hb d_P_init_8 rfl ?_
  refine x_sz hX (by omega) (by omega) (fun hZ => ?_)
  refine x_ch (y_runIN (As := []) (rest := [.ref (z + 1), .ref (z + 0)]) ⟨hx, hb, hml, hown, hts⟩ (c_Bases_init l G z) 0 k_co_Bases_init (k_ml_P_9 hK.2) k_im_Bases_init k_in_Bases rfl rfl rfl (by decide +kernel) ⟨Nat.le_of_ble_eq_true rfl, Nat.le_of_ble_eq_true rfl⟩ (yPn_s (fun _ _ _ _ h => h) (fun _ _ _ => trivial) (by have h9 := xX_at hX (c := 1) (by omega); rw [eu_at] at h9; exact h9) (by omega) hK2) rfl hl.1 rfl (Nat.le_of_ble_eq_true rfl) d_P_init_9 ⟨(by show _ ≤ 72; omega), (by show _ ≤ 595; omega)⟩) hS (fun b9 h => hAr b9 (by omega)) (fun τ9 H locs hp9 hk9 hW9 hS => ?_)
  have hX := xX_join (n' := 12) hX hk9 hW9 (by omega) (by omega) (by omega)
  refine x_putF (ty := (.object "NotePool$Bases")) hx hb hA in_P t_P tk_P nm_P hown hK.1 hX hAr hS 0 (by omega) ((ej_lt (by omega)).trans ((eu_ne (by omega)).trans rfl)) rfl 0 (by decide) (hA _ k_fl_P_10) rfl hname rfl (by decide +kernel) rfl rfl (Nat.le_of_ble_eq_true rfl) d_P_init_12 (fun H locs hX hS => ?_)
  refine lv_aload_n hx hb d_P_init_15 rfl (lv_at hl 0 rfl) ?_
  refine x_sz hX (by omega) (by omega) (fun hZ => ?_)
  refine x_new (ci := 9) (fs := [.null, .null, .null, .null, .null, .int (J 0)]) hx hb hA in_Tree t_Tree tk_Tree hown (hA _ k_cl_P_16) (hA _ k_it_Tree) (hA _ k_in_Tree) hK.1 hX hS hZ rfl (fun j hj => by rcases (by omega : j = 0 ∨ j = 1 ∨ j = 2 ∨ j = 3 ∨ j = 4 ∨ j = 5) with rfl | rfl | rfl | rfl | rfl | rfl <;> first | rfl | exact congrArg Value.int J0.symm) (by show _ ≤ 72; omega) (by show _ ≤ 595; omega) d_P_init_16 (fun H hX hS => ?_)
  have hX : xX ycl G (eu _ 12 _) 0 13 z H := hX
  refine W.eq (g2 := F0 m 19 ls [.ref (z + 12), .ref (z + 0)]) rfl ?_
  refine lv_dup hx hb d_P_init_19 rfl ?_
  refine lv_aload_n hx hb d_P_init_20 rfl (lv_at hl 0 rfl) ?_
  refine x_get (v := .ref (z + 1)) hx hb hA in_P hown hK.1 hX 0 (by omega) ((eu_ne (by omega)).trans eu_at) rfl 0 (by decide) (hA _ k_fl_P_10) rfl d_P_init_21 ?_
  refine x_sz hX (by omega) (by omega) (fun hZ => ?_)
  refine x_ch (y_runI (As := [.ref (z + 1)]) (rest := [.ref (z + 12), .ref (z + 0)]) ⟨hx, hb, hml, hown, hts⟩ (c_Tree_init l G z τ9 hp9) 1 k_co_Tree_init k_ml_P_18 k_im_Tree_init k_in_Tree rfl rfl rfl (by decide +kernel) ⟨Nat.le_of_ble_eq_true rfl, Nat.le_of_ble_eq_true rfl⟩ (yPn_s (fun _ _ _ _ h => h) (fun U hU _ => by rw [hU]; exact (xX_y hX (by omega) (by omega) (fun c hc => ((eu_ne (by omega)).trans ((eu_ne (by omega)).trans (ej_ge (by omega))))))) (by have h9 := xX_at hX (c := 12) (by omega); rw [eu_at] at h9; exact h9) (by omega) hK2) rfl hl.1 rfl (Nat.le_of_ble_eq_true rfl) d_P_init_24 ⟨(by show _ ≤ 72; omega), (by show _ ≤ 595; omega)⟩) hS (fun b9 h => hAr b9 (by omega)) (fun τ24 H locs hp24 hk24 hW24 hS => ?_)
  have hX := xX_join (n' := 17) hX hk24 hW24 (by omega) (by omega) (by omega)
  refine x_putF (ty := (.object "NotePool$Tree")) hx hb hA in_P t_P tk_P nm_P hown hK.1 hX hAr hS 0 (by omega) ((ej_lt (by omega)).trans ((eu_ne (by omega)).trans eu_at)) rfl 1 (by decide) (hA _ k_fl_P_21) rfl hname rfl (by decide +kernel) rfl rfl (Nat.le_of_ble_eq_true rfl) d_P_init_27 (fun H locs hX hS => ?_)
  refine lv_aload_n hx hb d_P_init_30 rfl (lv_at hl 0 rfl) ?_
  refine x_sz hX (by omega) (by omega) (fun hZ => ?_)
  refine x_new (ci := 4) (fs := [.null, .int (J 0), .int (J 0), .int (J 0)]) hx hb hA in_Chain t_Chain tk_Chain hown (hA _ k_cl_P_25) (hA _ k_it_Chain) (hA _ k_in_Chain) hK.1 hX hS hZ rfl (fun j hj => by rcases (by omega : j = 0 ∨ j = 1 ∨ j = 2 ∨ j = 3) with rfl | rfl | rfl | rfl <;> first | rfl | exact congrArg Value.int J0.symm) (by show _ ≤ 72; omega) (by show _ ≤ 595; omega) d_P_init_31 (fun H hX hS => ?_)
  have hX : xX ycl G (eu _ 17 _) 0 18 z H := hX
  refine W.eq (g2 := F0 m 34 ls [.ref (z + 17), .ref (z + 0)]) rfl ?_
  refine lv_dup hx hb d_P_init_34 rfl ?_
  refine lv_aload_n hx hb d_P_init_35 rfl (lv_at hl 0 rfl) ?_
  refine x_get (v := .ref (z + 12)) hx hb hA in_P hown hK.1 hX 0 (by omega) ((eu_ne (by omega)).trans eu_at) rfl 1 (by decide) (hA _ k_fl_P_21) rfl d_P_init_36 ?_
  refine y_c0 (y_runV (As := []) (rest := [.ref (z + 17), .ref (z + 17), .ref (z + 0)]) ⟨hx, hb, hml, hown, hts⟩ (c_Tree_root l G z τ24) 0 k_co_Tree_root k_ml_P_27 k_im_Tree_root k_se_Tree_root k_in_Tree rfl rfl (by decide +kernel) ⟨Nat.le_of_ble_eq_true rfl, Nat.le_of_ble_eq_true rfl⟩ (yPv (yK_bl G) (yK_mv G) hK hK.1 (xX_y (L := yLP) (σ := τ24) (lo' := 12) (n' := 5) hX (by omega) (by omega) (fun c hc => ((eu_ne (by omega)).trans ((eu_ne (by omega)).trans (ej_ge (by omega)))))) (by omega) lay_12 rfl (by omega) (by omega)) rfl hl.1 rfl (Nat.le_of_ble_eq_true rfl) d_P_init_39 ⟨by show _ ≤ 72; omega, by show _ ≤ 595; omega⟩) hS (fun H locs hkq _ hS => ?_)
  have hX := xX_kept hX hkq
  refine x_sz hX (by omega) (by omega) (fun hZ => ?_)
  refine x_ch (y_runI (As := [.int (J (τ24 13 30))]) (rest := [.ref (z + 17), .ref (z + 0)]) ⟨hx, hb, hml, hown, hts⟩ (c_Chain_init l G z (τ24 13 30)) 1 k_co_Chain_init k_ml_P_31 k_im_Chain_init k_in_Chain rfl rfl rfl (by decide +kernel) ⟨Nat.le_of_ble_eq_true rfl, Nat.le_of_ble_eq_true rfl⟩ (yPn_s (fun _ _ _ _ h => h) (fun _ _ _ => trivial) (by have h9 := xX_at hX (c := 17) (by omega); rw [eu_at] at h9; exact h9) (by omega) hK2) rfl hl.1 rfl (Nat.le_of_ble_eq_true rfl) d_P_init_42 ⟨(by show _ ≤ 72; omega), (by show _ ≤ 595; omega)⟩) hS (fun b9 h => hAr b9 (by omega)) (fun τ42 H locs hp42 hk42 hW42 hS => ?_)
  have hX := xX_join (n' := 43) hX hk42 hW42 (by omega) (by omega) (by omega)
  subst hp42
  refine x_putF (ty := (.object "NotePool$Chain")) hx hb hA in_P t_P tk_P nm_P hown hK.1 hX hAr hS 0 (by omega) ((ej_lt (by omega)).trans ((eu_ne (by omega)).trans eu_at)) rfl 2 (by decide) (hA _ k_fl_P_34) rfl hname rfl (by decide +kernel) rfl rfl (Nat.le_of_ble_eq_true rfl) d_P_init_45 (fun H locs hX hS => ?_)
  refine lv_aload_n hx hb d_P_init_48 rfl (lv_at hl 0 rfl) ?_
  refine x_sz hX (by omega) (by omega) (fun hZ => ?_)
  refine x_new (ci := 5) (fs := [.null, .null, .int (J 0), .int (J 0), .int (J 0), .int (J 0)]) hx hb hA in_Draft t_Draft tk_Draft hown (hA _ k_cl_P_38) (hA _ k_it_Draft) (hA _ k_in_Draft) hK.1 hX hS hZ rfl (fun j hj => by rcases (by omega : j = 0 ∨ j = 1 ∨ j = 2 ∨ j = 3 ∨ j = 4 ∨ j = 5) with rfl | rfl | rfl | rfl | rfl | rfl <;> first | rfl | exact congrArg Value.int J0.symm) (by show _ ≤ 72; omega) (by show _ ≤ 595; omega) d_P_init_49 (fun H hX hS => ?_)
  have hX : xX ycl G (eu _ 43 _) 0 44 z H := hX
  refine W.eq (g2 := F0 m 52 ls [.ref (z + 43), .ref (z + 0)]) rfl ?_
  refine lv_dup hx hb d_P_init_52 rfl ?_
  refine x_sz hX (by omega) (by omega) (fun hZ => ?_)
  refine x_ch (y_runI (As := []) (rest := [.ref (z + 43), .ref (z + 0)]) ⟨hx, hb, hml, hown, hts⟩ (c_Draft_init l G z) 0 k_co_Draft_init k_ml_P_40 k_im_Draft_init k_in_Draft rfl rfl rfl (by decide +kernel) ⟨Nat.le_of_ble_eq_true rfl, Nat.le_of_ble_eq_true rfl⟩ (yPn_s (fun _ _ _ _ h => h) (fun _ _ _ => trivial) (by have h9 := xX_at hX (c := 43) (by omega); rw [eu_at] at h9; exact h9) (by omega) hK2) rfl hl.1 rfl (Nat.le_of_ble_eq_true rfl) d_P_init_53 ⟨(by show _ ≤ 72; omega), (by show _ ≤ 595; omega)⟩) hS (fun b9 h => hAr b9 (by omega)) (fun τ53 H locs hp53 hk53 hW53 hS => ?_)
  have hX := xX_join (n' := 52) hX hk53 hW53 (by omega) (by omega) (by omega)
  subst hp53
  refine x_putF (ty := (.object "NotePool$Draft")) hx hb hA in_P t_P tk_P nm_P hown hK.1 hX hAr hS 0 (by omega) ((ej_lt (by omega)).trans ((eu_ne (by omega)).trans eu_at)) rfl 3 (by decide) (hA _ k_fl_P_41) rfl hname rfl (by decide +kernel) rfl rfl (Nat.le_of_ble_eq_true rfl) d_P_init_56 (fun H locs hX hS => ?_)
  refine lv_aload_n hx hb d_P_init_59 rfl (lv_at hl 0 rfl) ?_
  refine lv_iconst (v := J (4)) hx hb d_P_init_60 rfl ?_
  refine x_sz hX (by omega) (by omega) (fun hZ => ?_)
  refine x_newq hx hb hown (hA _ k_cl_P_45) hK2.2.2.2.2 (y_ra (hK.1.2 2 _ rfl).2) hX hS hZ (by decide +kernel) (N' := 4) (by decide +kernel) (by decide) (by show _ ≤ 72; omega) (by show _ ≤ 595; omega) d_P_init_61 (fun H hX hS => ?_)
  have hX : xX ycl G (eu _ 52 _) 0 53 z H := hX
  refine W.eq (g2 := F0 m 64 ls [.ref (z + 52), .ref (z + 0)]) rfl ?_
  refine x_putF (ty := (.array (.object "NotePool$Key"))) hx hb hA in_P t_P tk_P nm_P hown hK.1 hX hAr hS 0 (by omega) ((eu_ne (by omega)).trans eu_at) rfl 4 (by decide) (hA _ k_fl_P_47) rfl hname rfl (by decide +kernel) rfl rfl (Nat.le_of_ble_eq_true rfl) d_P_init_64 (fun H locs hX hS => ?_)
  refine lv_iconst (v := J (0)) hx hb d_P_init_67 rfl ?_
  refine lv_istore_n (lv' := [(1, .int (J (0))), (0, .ref (z + 0))]) hx hb d_P_init_68 rfl hl (by decide) rfl (fun ls hl => ?_)
  have loop69 : ∀ (q9 j : Nat), j + q9 = 4 → ∀ (E : Nat → va_E), E 0 = .inr (0, [.ref (z + 1), .ref (z + 12), .ref (z + 17), .ref (z + 43), .ref (z + 52), .int (J 0)]) → E 52 = .inl (G.2 2, 4, .inr (.inr (.inr (.inr (rfj (fun i => z + (53 + 5 * i)) j))))) → (∀ c, ((1 ≤ c ∧ c < 52) ∨ (53 ≤ c ∧ c < 53 + 5 * j)) → E c = yC yLP G.2 z (fun c => if c < 1 then (fun _ => 0) else if c < 12 then τ9 c else if c < 17 then τ24 c else if c < 43 then (y2 (fun _ _ => 0) 17 1 (τ24 13 30)) c else fun _ => 0) c) → ∀ (ls : Array Slot) (H : Heap) (locs : List Loc), xX ycl G E 0 (53 + 5 * j) z H → va_S (fun b9 => z + 0 ≤ b9) s.heap H locs → lv_has ls 2 [(1, .int (J (((j : Nat) : Int)))), (0, .ref (z + 0))] → W p l e ({ frames := 5, cells := 72, slots := 595, locals := 127 } : Room) s m ([.ref (z + 0)] : List Value).toArray below meth c H locs (52 + 5 * j) (315 + 70 * j) (MQ below (yQn G yLP 0 73 z (fun τ => yBs τ ∧ yTr τ (fun _ => 0) ∧ τ 12 5 = 0 ∧ τ 17 1 = nd (fun _ => 0) 4 0 ∧ τ 17 2 = 0 ∧ τ 17 3 = 0 ∧ (∀ c, 43 ≤ c → τ c = fun _ => 0) ∧ τ 0 5 = 0)) ([.ref (z + 0)] : List Value).toArray s 72 595 (fun b9 => z + 0 ≤ b9)) (F0 m 69 ls []) := by
    intro q9
    induction q9 with
    | zero =>
      intro j hjk E hE0 hE52 hEc ls H locs hX hS hl
      have hjN : j = 4 := by omega
      subst hjN
      have hX := xX_re (g := fun i => some (((fun i => z + (53 + 5 * i))) i)) hX (by omega) hE52 rfj_all
      refine lv_iload_n hx hb d_P_init_69 rfl (lv_at hl 0 rfl) ?_
      refine lv_iconst (v := J (4)) hx hb d_P_init_70 rfl ?_
      refine y_icmp_ge (tgt := 93) hx hb d_P_init_71 (by decide) ⟨by omega, by omega⟩ ⟨by omega, by omega⟩ (fun hc1 => ?_) (fun hc1 => absurd hc1 (by omega))
      refine lv_aload_n hx hb d_P_init_93 rfl (lv_at hl 1 rfl) ?_
      refine lv_iconst (v := J (0)) hx hb d_P_init_94 rfl ?_
      refine x_put (ty := .int) hx hb hA in_P t_P tk_P nm_P hown hK.1 hX hAr hS 0 (by omega) ((eu_ne (by omega)).trans hE0) rfl 5 (by decide) (hA _ k_fl_P_52) rfl (by decide +kernel) rfl rfl (Nat.le_of_ble_eq_true rfl) d_P_init_95 (fun H locs hX hS => ?_)
      exact x_ret hx hb hr hlocks hS (xX_y (σ := (fun c => if c < 1 then (fun _ => 0) else if c < 12 then τ9 c else if c < 17 then τ24 c else if c < 43 then (y2 (fun _ _ => 0) 17 1 (τ24 13 30)) c else fun _ => 0)) hX (by omega) (by omega) (fun c hc => by
        by_cases h0 : c = 0
        · subst h0; exact eu_at.trans (by unfold yC; rw [lay_0]; try rfl)
        · by_cases h5 : c = 52
          · subst h5; exact ((eu_ne (by omega)).trans eu_at).trans (by unfold yC; rw [lay_52]; try rfl)
          · exact ((eu_ne h0).trans (((eu_ne h5).trans (hEc c (by omega))))))) ⟨yBs_to hp9 rfl rfl rfl rfl rfl, fun L k h1 h2 => hp24.1 L k h1 h2, hp24.2, hp24.1 4 0 (by decide) (by decide), rfl, rfl, fun c hc => by show (if c < 1 then (fun _ => 0) else if c < 12 then τ9 c else if c < 17 then τ24 c else if c < 43 then (y2 (fun _ _ => 0) 17 1 (τ24 13 30)) c else fun _ => 0) = fun _ => 0; rw [if_neg (by omega), if_neg (by omega), if_neg (by omega), if_neg (by omega)], rfl⟩ d_P_init_98
    | succ q9 ih =>
      intro j hjk E hE0 hE52 hEc ls H locs hX hS hl
      refine lv_iload_n hx hb d_P_init_69 rfl (lv_at hl 0 rfl) ?_
      refine lv_iconst (v := J (4)) hx hb d_P_init_70 rfl ?_
      refine y_icmp_ge (tgt := 93) hx hb d_P_init_71 (by decide) ⟨by omega, by omega⟩ ⟨by omega, by omega⟩ (fun hc2 => absurd hc2 (by omega)) (fun hc2 => ?_)
      refine lv_aload_n hx hb d_P_init_74 rfl (lv_at hl 1 rfl) ?_
      refine x_get (v := .ref (z + 52)) hx hb hA in_P hown hK.1 hX 0 (by omega) hE0 rfl 4 (by decide) (hA _ k_fl_P_47) rfl d_P_init_75 ?_
      refine lv_iload_n hx hb d_P_init_78 rfl (lv_at hl 0 rfl) ?_
      refine x_sz hX (by omega) (by omega) (fun hZ => ?_)
      refine x_new (ci := 6) (fs := [.int (J 0), .int (J 0), .null, .null, .null, .null]) hx hb hA in_Key t_Key tk_Key hown (hA _ k_cl_P_45) (hA _ k_it_Key) (hA _ k_in_Key) hK.1 hX hS hZ rfl (fun j hj => by rcases (by omega : j = 0 ∨ j = 1 ∨ j = 2 ∨ j = 3 ∨ j = 4 ∨ j = 5) with rfl | rfl | rfl | rfl | rfl | rfl <;> first | rfl | exact congrArg Value.int J0.symm) (by show _ ≤ 72; omega) (by show _ ≤ 595; omega) d_P_init_79 (fun H hX hS => ?_)
      rw [show 0 + (53 + 5 * j) = (53 + 5 * j) by omega] at hX
      rw [show 0 + (53 + 5 * j) = (53 + 5 * j) by omega]
      have hX : xX ycl G (eu _ (53 + 5 * j) _) 0 (53 + 5 * j + 1) z H := hX
      refine W.eq (g2 := F0 m 82 ls [.ref (z + (53 + 5 * j)), .int (J (((j : Nat) : Int))), .ref (z + 52)]) rfl ?_
      refine lv_dup hx hb d_P_init_82 rfl ?_
      refine x_sz hX (by omega) (by omega) (fun hZ => ?_)
      refine x_ch (y_runIN (As := []) (rest := [.ref (z + (53 + 5 * j)), .int (J (((j : Nat) : Int))), .ref (z + 52)]) ⟨hx, hb, hml, hown, hts⟩ (c_Key_init l G z j (by omega)) 0 k_co_Key_init (k_ml_P_51 hK.2) k_im_Key_init k_in_Key rfl rfl rfl (by decide +kernel) ⟨Nat.le_of_ble_eq_true rfl, Nat.le_of_ble_eq_true rfl⟩ (yPn_s (fun _ _ _ _ h => h) (fun _ _ _ => trivial) (by have h9 := xX_at hX (c := (53 + 5 * j)) (by omega); rw [eu_at] at h9; exact h9) (by omega) hK2) rfl hl.1 rfl (Nat.le_of_ble_eq_true rfl) d_P_init_83 ⟨(by show _ ≤ 72; omega), (by show _ ≤ 595; omega)⟩) hS (fun b9 h => hAr b9 (by omega)) (fun τ83 H locs hp83 hk83 hW83 hS => ?_)
      have hX := xX_join (n' := (53 + 5 * (j + 1))) hX hk83 hW83 (by omega) (by omega) (by omega)
      subst hp83
      refine x_ast hx hb hK.1 hX hAr hS 52 (53 + 5 * j) 2 6 (by omega) (by omega) ((ej_lt (by omega)).trans ((eu_ne (by omega)).trans hE52)) rfl ((ej_ge (by omega)).trans (yC_inl (lay_Key (n := j) (by omega)))) rfl (j := j) rfl (by omega) (by decide) d_P_init_86 (fun H locs hX hS => ?_)
      refine lv_iinc (k := 0) (v := J (((j + 1 : Nat) : Int))) (lv' := [(1, .int (J (((j + 1 : Nat) : Int)))), (0, .ref (z + 0))]) hx hb d_P_init_87 hl rfl (by rw [Int.natCast_add j 1]; exact J_add _ _) (by decide) rfl (fun ls hl => ?_)
      refine lv_goto (tgt := 69) hx hb d_P_init_90 (by decide) ?_
      refine W.widen (k := 52 + 5 * (j + 1)) (n := 315 + 70 * (j + 1)) (by omega) (by omega) ?_
      refine ih (j + 1) (by omega) _ ((eu_ne (by omega)).trans ((ej_lt (by omega)).trans ((eu_ne (by omega)).trans hE0))) (eu_at.trans (congrArg (fun q => (.inl (G.2 2, 4, .inr (.inr (.inr (.inr q)))) : va_E)) rfj_s)) (fun c hc => ?_) ls H locs hX hS ?_
      · by_cases h9 : c < 53 + 5 * j
        · exact ((eu_ne (by omega)).trans ((ej_lt h9).trans (eu_ne (by omega)))).trans (hEc c (by omega))
        · exact ((eu_ne (by omega)).trans (ej_ge (by omega))).trans (yC_congr (by show (fun _ => 0) = if c < 1 then (fun _ => 0) else if c < 12 then τ9 c else if c < 17 then τ24 c else if c < 43 then (y2 (fun _ _ => 0) 17 1 (τ24 13 30)) c else fun _ => 0; rw [if_neg (by omega), if_neg (by omega), if_neg (by omega), if_neg (by omega)]))
      · exact lv_sub hl [0, 1] rfl
  refine loop69 4 0 rfl _ eu_at (((eu_ne (by omega)).trans eu_at).trans (congrArg (fun q => (.inl (G.2 2, 4, .inr (.inr (.inr (.inr q)))) : va_E)) rfj_0)) (fun c hc => ?_) ls _ _ hX hS (lv_sub hl [0, 1] rfl)
  have hc : 1 ≤ c ∧ c < 52 := by omega
  by_cases h1 : c < 12
  · exact ((eu_ne (by omega)).trans ((eu_ne (by omega)).trans ((eu_ne (by omega)).trans ((ej_lt (by omega)).trans ((eu_ne (by omega)).trans ((eu_ne (by omega)).trans ((ej_lt (by omega)).trans ((eu_ne (by omega)).trans ((eu_ne (by omega)).trans ((ej_lt (by omega)).trans ((eu_ne (by omega)).trans ((eu_ne (by omega)).trans (ej_ge (by omega)))))))))))))).trans (yC_congr (by show τ9 c = if c < 1 then (fun _ => 0) else if c < 12 then τ9 c else _; rw [if_neg (by omega), if_pos h1]))
  · by_cases h2 : c < 17
    · exact ((eu_ne (by omega)).trans ((eu_ne (by omega)).trans ((eu_ne (by omega)).trans ((ej_lt (by omega)).trans ((eu_ne (by omega)).trans ((eu_ne (by omega)).trans ((ej_lt (by omega)).trans ((eu_ne (by omega)).trans ((eu_ne (by omega)).trans (ej_ge (by omega))))))))))).trans (yC_congr (by show τ24 c = if c < 1 then (fun _ => 0) else if c < 12 then τ9 c else if c < 17 then τ24 c else _; rw [if_neg (by omega), if_neg h1, if_pos h2]))
    · by_cases h3 : c < 43
      · exact ((eu_ne (by omega)).trans ((eu_ne (by omega)).trans ((eu_ne (by omega)).trans ((ej_lt (by omega)).trans ((eu_ne (by omega)).trans ((eu_ne (by omega)).trans (ej_ge (by omega)))))))).trans (yC_congr (by show (y2 (fun _ _ => 0) 17 1 (τ24 13 30)) c = if c < 1 then (fun _ => 0) else if c < 12 then τ9 c else if c < 17 then τ24 c else if c < 43 then (y2 (fun _ _ => 0) 17 1 (τ24 13 30)) c else _; rw [if_neg (by omega), if_neg h1, if_neg h2, if_pos h3]))
      · exact ((eu_ne (by omega)).trans ((eu_ne (by omega)).trans ((eu_ne (by omega)).trans (ej_ge (by omega))))).trans (yC_congr (by show (fun _ => 0) = if c < 1 then (fun _ => 0) else if c < 12 then τ9 c else if c < 17 then τ24 c else if c < 43 then (y2 (fun _ _ => 0) 17 1 (τ24 13 30)) c else fun _ => 0; rw [if_neg (by omega), if_neg h1, if_neg h2, if_neg h3]))
