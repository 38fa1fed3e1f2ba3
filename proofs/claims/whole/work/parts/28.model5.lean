def finM (τ : yM) (nk fl : Nat) (k i : Int) : Prop := (0 ≤ k ∧ k < (nk : Int)) ∧ (0 ≤ i ∧ i < (fl : Int)) ∧ cOf (τ 3 k.toNat) (vOf (τ 3 k.toNat) (τ 24 i.toNat) (τ 25 i.toNat)) (tOf (τ 3 k.toNat) (τ 24 i.toNat) (τ 26 i.toNat)) = τ 23 i.toNat
theorem d_M_node_0 : decode b_M_node 0 = .ok (.iload_n 1, 1) := by decide +kernel
theorem d_M_node_1 : decode b_M_node 1 = .ok (.iconst 0, 1) := by decide +kernel
theorem d_M_node_2 : decode b_M_node 2 = .ok (.iconst 4, 1) := by decide +kernel
theorem d_M_node_3 : decode b_M_node 3 = .ok (.invokestatic 110, 3) := by decide +kernel
theorem d_M_node_6 : decode b_M_node 6 = .ok (.ifCond .eq 30, 3) := by decide +kernel
theorem d_M_node_9 : decode b_M_node 9 = .ok (.iload_n 2, 1) := by decide +kernel
theorem d_M_node_10 : decode b_M_node 10 = .ok (.iconst 0, 1) := by decide +kernel
theorem d_M_node_11 : decode b_M_node 11 = .ok (.bipush 16, 2) := by decide +kernel
theorem d_M_node_13 : decode b_M_node 13 = .ok (.iload_n 1, 1) := by decide +kernel
theorem d_M_node_14 : decode b_M_node 14 = .ok (.ishr, 1) := by decide +kernel
theorem d_M_node_15 : decode b_M_node 15 = .ok (.iconst 1, 1) := by decide +kernel
theorem d_M_node_16 : decode b_M_node 16 = .ok (.isub, 1) := by decide +kernel
theorem d_M_node_17 : decode b_M_node 17 = .ok (.invokestatic 110, 3) := by decide +kernel
theorem d_M_node_20 : decode b_M_node 20 = .ok (.ifCond .eq 16, 3) := by decide +kernel
theorem d_M_node_23 : decode b_M_node 23 = .ok (.aload_n 0, 1) := by decide +kernel
theorem d_M_node_24 : decode b_M_node 24 = .ok (.aload_n 0, 1) := by decide +kernel
theorem d_M_node_25 : decode b_M_node 25 = .ok (.invokevirtual 114, 3) := by decide +kernel
theorem d_M_node_28 : decode b_M_node 28 = .ok (.iload_n 1, 1) := by decide +kernel
theorem d_M_node_29 : decode b_M_node 29 = .ok (.iload_n 2, 1) := by decide +kernel
theorem d_M_node_30 : decode b_M_node 30 = .ok (.invokevirtual 118, 3) := by decide +kernel
theorem d_M_node_33 : decode b_M_node 33 = .ok (.goto 4, 3) := by decide +kernel
theorem d_M_node_36 : decode b_M_node 36 = .ok (.iconst (-1), 1) := by decide +kernel
theorem d_M_node_37 : decode b_M_node 37 = .ok (.ireturn, 1) := by decide +kernel
theorem d_M_finds_0 : decode b_M_finds 0 = .ok (.aload_n 0, 1) := by decide +kernel
theorem d_M_finds_1 : decode b_M_finds 1 = .ok (.iload_n 1, 1) := by decide +kernel
theorem d_M_finds_2 : decode b_M_finds 2 = .ok (.invokevirtual 124, 3) := by decide +kernel
theorem d_M_finds_5 : decode b_M_finds 5 = .ok (.ifCond .eq 47, 3) := by decide +kernel
theorem d_M_finds_8 : decode b_M_finds 8 = .ok (.iload_n 2, 1) := by decide +kernel
theorem d_M_finds_9 : decode b_M_finds 9 = .ok (.iconst 0, 1) := by decide +kernel
theorem d_M_finds_10 : decode b_M_finds 10 = .ok (.aload_n 0, 1) := by decide +kernel
theorem d_M_finds_11 : decode b_M_finds 11 = .ok (.invokevirtual 114, 3) := by decide +kernel
theorem d_M_finds_14 : decode b_M_finds 14 = .ok (.iconst 1, 1) := by decide +kernel
theorem d_M_finds_15 : decode b_M_finds 15 = .ok (.isub, 1) := by decide +kernel
theorem d_M_finds_16 : decode b_M_finds 16 = .ok (.invokestatic 110, 3) := by decide +kernel
theorem d_M_finds_19 : decode b_M_finds 19 = .ok (.ifCond .eq 33, 3) := by decide +kernel
theorem d_M_finds_22 : decode b_M_finds 22 = .ok (.aload_n 0, 1) := by decide +kernel
theorem d_M_finds_23 : decode b_M_finds 23 = .ok (.iload_n 1, 1) := by decide +kernel
theorem d_M_finds_24 : decode b_M_finds 24 = .ok (.aload_n 0, 1) := by decide +kernel
theorem d_M_finds_25 : decode b_M_finds 25 = .ok (.iload_n 1, 1) := by decide +kernel
theorem d_M_finds_26 : decode b_M_finds 26 = .ok (.iload_n 2, 1) := by decide +kernel
theorem d_M_finds_27 : decode b_M_finds 27 = .ok (.invokevirtual 134, 3) := by decide +kernel
theorem d_M_finds_30 : decode b_M_finds 30 = .ok (.aload_n 0, 1) := by decide +kernel
theorem d_M_finds_31 : decode b_M_finds 31 = .ok (.iload_n 1, 1) := by decide +kernel
theorem d_M_finds_32 : decode b_M_finds 32 = .ok (.iload_n 2, 1) := by decide +kernel
theorem d_M_finds_33 : decode b_M_finds 33 = .ok (.invokevirtual 137, 3) := by decide +kernel
theorem d_M_finds_36 : decode b_M_finds 36 = .ok (.invokevirtual 140, 3) := by decide +kernel
theorem d_M_finds_39 : decode b_M_finds 39 = .ok (.aload_n 0, 1) := by decide +kernel
theorem d_M_finds_40 : decode b_M_finds 40 = .ok (.getfield 76, 3) := by decide +kernel
theorem d_M_finds_43 : decode b_M_finds 43 = .ok (.iload_n 2, 1) := by decide +kernel
theorem d_M_finds_44 : decode b_M_finds 44 = .ok (.iaload, 1) := by decide +kernel
theorem d_M_finds_45 : decode b_M_finds 45 = .ok (.if_icmp .ne 7, 3) := by decide +kernel
theorem d_M_finds_48 : decode b_M_finds 48 = .ok (.iconst 1, 1) := by decide +kernel
theorem d_M_finds_49 : decode b_M_finds 49 = .ok (.goto 4, 3) := by decide +kernel
theorem d_M_finds_52 : decode b_M_finds 52 = .ok (.iconst 0, 1) := by decide +kernel
theorem d_M_finds_53 : decode b_M_finds 53 = .ok (.ireturn, 1) := by decide +kernel

set_option maxHeartbeats 4000000 in
set_option maxRecDepth 100000 in
theorem c_M_finds (l : Launch) (G : yG) (z : Nat) (τ : yM) (hTb : mTb τ) (nk : Nat) (hnk : nk ≤ 4) (hk0 : τ 0 2 = (nk : Int)) (nb : Nat) (hnbr : nb ≤ 12) (hnb : τ 0 24 = (nb : Int)) (fl : Nat) (hflr : fl ≤ 16) (hfl : (if nb = 0 then 0 else τ 20 (nb - 1)) = (fl : Int)) (hlr : ∀ i, i < fl → 0 ≤ τ 23 i ∧ τ 23 i < 10009) (hsec : ∀ k, k < nk → 1 ≤ τ 3 k ∧ τ 3 k ≤ 2472) (hld : ∀ i, i < fl → (0 ≤ τ 24 i ∧ τ 24 i < 2473) ∧ (0 ≤ τ 25 i ∧ τ 25 i < 1000) ∧ (0 ≤ τ 26 i ∧ τ 26 i < 2473)) (k i : Int) (hk9 : jr k) (hi9 : jr i) : Met l y_M_finds (Cond.code y_M_finds b_M_finds 3 (some .boolean) :: yT) ({ frames := 2, cells := 0, slots := 0, locals := 44 } : Room) (yP ycl G yLM 0 28 z τ (yK G) [.ref (z + 0), .int (J (k)), .int (J (i))]) (yQi (b01 (finM τ nk fl k i))) 0 0 yN := by
  refine y_met (by decide +kernel) (Nat.le_of_ble_eq_true rfl) ?_
  intro p e s m below meth c ls hx hb hr hml hlocks hown hname hts hv hl
  have hA : ∀ w ∈ yT, w.before _ s = true := fun w h => hts w (List.mem_cons_of_mem _ h)
  have hl : lv_has ls 3 [(0, .ref (z + 0)), (1, .int (J (k))), (2, .int (J (i)))] := hl
  obtain ⟨hW, hK⟩ := hv
  have hS : va_S yN s.heap s.heap [] := va_S.rf
  refine lv_aload_n hx hb d_M_finds_0 rfl (lv_at hl 0 rfl) ?_
  refine lv_iload_n hx hb d_M_finds_1 rfl (lv_at hl 1 rfl) ?_
  refine y_ci (y_runV (As := [.int (J (k))]) (rest := []) ⟨hx, hb, hml, hown, hts⟩ (c_M_isKey l G z τ nk hnk hk0 (k) hk9) 1 k_co_M_isKey k_ml_M_124 k_im_M_isKey k_se_M_isKey k_in_M rfl rfl (by decide +kernel) ⟨Nat.le_of_ble_eq_true rfl, Nat.le_of_ble_eq_true rfl⟩ (yPv (yK_bl G) (yK_mv G) hK hK.1 hW (by omega) laym_0 rfl (by omega) (by omega)) rfl hl.1 rfl (Nat.le_of_ble_eq_true rfl) d_M_finds_2 ⟨Nat.zero_le _, Nat.zero_le _⟩) hS hW (fun H locs hW hS => ?_)
  by_cases hq2 : 0 ≤ k ∧ k ≤ (nk : Int) - 1
  · skip
    rw [show (if 0 ≤ k ∧ k ≤ (nk : Int) - 1 then (1 : Int) else 0) = 1 from if_pos hq2]
    refine y_if_eq (tgt := 52) hx hb d_M_finds_5 (by decide) ⟨by omega, by omega⟩ (fun hc1 => absurd hc1 (by decide)) (fun hc1 => ?_)
    refine lv_iload_n hx hb d_M_finds_8 rfl (lv_at hl 2 rfl) ?_
    refine lv_iconst (v := J (0)) hx hb d_M_finds_9 rfl ?_
    refine lv_aload_n hx hb d_M_finds_10 rfl (lv_at hl 0 rfl) ?_
    refine y_ci (y_runV (As := []) (rest := [.int (J (0)), .int (J (i))]) ⟨hx, hb, hml, hown, hts⟩ (c_M_leaves l G z τ nb hnbr hnb) 0 k_co_M_leaves k_ml_M_114 k_im_M_leaves k_se_M_leaves k_in_M rfl rfl (by decide +kernel) ⟨Nat.le_of_ble_eq_true rfl, Nat.le_of_ble_eq_true rfl⟩ (yPv (yK_bl G) (yK_mv G) hK hK.1 hW (by omega) laym_0 rfl (by omega) (by omega)) rfl hl.1 rfl (Nat.le_of_ble_eq_true rfl) d_M_finds_11 ⟨Nat.zero_le _, Nat.zero_le _⟩) hS hW (fun H locs hW hS => ?_)
    rw [hfl]
    refine lv_iconst (v := J (1)) hx hb d_M_finds_14 rfl ?_
    refine y_isub hx hb d_M_finds_15 ?_
    refine y_ci (y_runS (As := [.int (J (i)), .int (J (0)), .int (J ((fl : Int) - 1))]) (rest := []) ⟨hx, hb, hml, hown, hts⟩ (c_M_in l G (i) (0) ((fl : Int) - 1) hi9 ⟨by omega, by omega⟩ ⟨by omega, by omega⟩) 3 k_co_M_in k_ml_M_110 k_st_M_in k_in_M rfl rfl (by decide +kernel) ⟨Nat.le_of_ble_eq_true rfl, Nat.le_of_ble_eq_true rfl⟩ (yPs0 (yK_bl G) (yK_mv G) hK) rfl hl.1 rfl (Nat.le_of_ble_eq_true rfl) d_M_finds_16 ⟨Nat.zero_le _, Nat.zero_le _⟩) hS hW (fun H locs hW hS => ?_)
    by_cases hq16 : 0 ≤ i ∧ i ≤ ((fl : Int) - 1)
    · skip
      rw [show (if 0 ≤ i ∧ i ≤ ((fl : Int) - 1) then (1 : Int) else 0) = 1 from if_pos hq16]
      refine y_if_eq (tgt := 52) hx hb d_M_finds_19 (by decide) ⟨by omega, by omega⟩ (fun hc2 => absurd hc2 (by decide)) (fun hc2 => ?_)
      obtain ⟨kn, e_kn⟩ : ∃ q : Nat, k = (q : Int) := ⟨(k).toNat, by omega⟩
      obtain ⟨jn, e_jn⟩ : ∃ q : Nat, i = (q : Int) := ⟨(i).toNat, by omega⟩
      have hs8 := hsec kn (by omega)
      have hs9 : 0 ≤ τ 3 kn ∧ τ 3 kn < 2473 := by omega
      obtain ⟨hl1, hl2, hl3⟩ := hld jn (by omega)
      have hl4 := hlr jn (by omega)
      have hv1 := vOf_rng (τ 3 kn) (τ 24 jn) (τ 25 jn)
      have ht1 := tOf_rng (τ 3 kn) (τ 24 jn) (τ 26 jn)
      refine lv_aload_n hx hb d_M_finds_22 rfl (lv_at hl 0 rfl) ?_
      refine lv_iload_n hx hb d_M_finds_23 rfl (lv_at hl 1 rfl) ?_
      refine lv_aload_n hx hb d_M_finds_24 rfl (lv_at hl 0 rfl) ?_
      refine lv_iload_n hx hb d_M_finds_25 rfl (lv_at hl 1 rfl) ?_
      refine lv_iload_n hx hb d_M_finds_26 rfl (lv_at hl 2 rfl) ?_
      refine y_ci (y_runV (As := [.int (J (k)), .int (J (i))]) (rest := [.int (J (k)), .ref (z + 0)]) ⟨hx, hb, hml, hown, hts⟩ (c_M_valueOf l G z τ hTb kn (by omega) (k) e_kn hs9 jn (by omega) (i) e_jn hl1 hl2) 2 k_co_M_valueOf k_ml_M_134 k_im_M_valueOf k_se_M_valueOf k_in_M rfl rfl (by decide +kernel) ⟨Nat.le_of_ble_eq_true rfl, Nat.le_of_ble_eq_true rfl⟩ (yPv (yK_bl G) (yK_mv G) hK hK.1 hW (by omega) laym_0 rfl (by omega) (by omega)) rfl hl.1 rfl (Nat.le_of_ble_eq_true rfl) d_M_finds_27 ⟨Nat.zero_le _, Nat.zero_le _⟩) hS hW (fun H locs hW hS => ?_)
      refine lv_aload_n hx hb d_M_finds_30 rfl (lv_at hl 0 rfl) ?_
      refine lv_iload_n hx hb d_M_finds_31 rfl (lv_at hl 1 rfl) ?_
      refine lv_iload_n hx hb d_M_finds_32 rfl (lv_at hl 2 rfl) ?_
      refine y_ci (y_runV (As := [.int (J (k)), .int (J (i))]) (rest := [.int (J (vOf (τ 3 kn) (τ 24 jn) (τ 25 jn))), .int (J (k)), .ref (z + 0)]) ⟨hx, hb, hml, hown, hts⟩ (c_M_trapOf l G z τ hTb kn (by omega) (k) e_kn hs9 jn (by omega) (i) e_jn hl1 hl3) 2 k_co_M_trapOf k_ml_M_137 k_im_M_trapOf k_se_M_trapOf k_in_M rfl rfl (by decide +kernel) ⟨Nat.le_of_ble_eq_true rfl, Nat.le_of_ble_eq_true rfl⟩ (yPv (yK_bl G) (yK_mv G) hK hK.1 hW (by omega) laym_0 rfl (by omega) (by omega)) rfl hl.1 rfl (Nat.le_of_ble_eq_true rfl) d_M_finds_33 ⟨Nat.zero_le _, Nat.zero_le _⟩) hS hW (fun H locs hW hS => ?_)
      refine y_ci (y_runV (As := [.int (J (k)), .int (J (vOf (τ 3 kn) (τ 24 jn) (τ 25 jn))), .int (J (tOf (τ 3 kn) (τ 24 jn) (τ 26 jn)))]) (rest := []) ⟨hx, hb, hml, hown, hts⟩ (c_M_commitment l G z τ hTb kn (by omega) (k) e_kn hs9 (vOf (τ 3 kn) (τ 24 jn) (τ 25 jn)) (tOf (τ 3 kn) (τ 24 jn) (τ 26 jn)) (by omega) (by omega)) 3 k_co_M_commitment k_ml_M_140 k_im_M_commitment k_se_M_commitment k_in_M rfl rfl (by decide +kernel) ⟨Nat.le_of_ble_eq_true rfl, Nat.le_of_ble_eq_true rfl⟩ (yPv (yK_bl G) (yK_mv G) hK hK.1 hW (by omega) laym_0 rfl (by omega) (by omega)) rfl hl.1 rfl (Nat.le_of_ble_eq_true rfl) d_M_finds_36 ⟨Nat.zero_le _, Nat.zero_le _⟩) hS hW (fun H locs hW hS => ?_)
      have eC : eX ((vOf (τ 3 kn) (τ 24 jn) (τ 25 jn)) * 1281 + (tOf (τ 3 kn) (τ 24 jn) (τ 26 jn)) * 1369 + τ 3 kn) = cOf (τ 3 kn) (vOf (τ 3 kn) (τ 24 jn) (τ 25 jn)) (tOf (τ 3 kn) (τ 24 jn) (τ 26 jn)) := congrArg eX (by omega)
      have rC := cOf_rng (τ 3 kn) (vOf (τ 3 kn) (τ 24 jn) (τ 25 jn)) (tOf (τ 3 kn) (τ 24 jn) (τ 26 jn))
      rw [eC]
      refine lv_aload_n hx hb d_M_finds_39 rfl (lv_at hl 0 rfl) ?_
      refine y_getr hx hb hA in_M hown hK.1 hW 0 (by omega) laym_0 rfl 28 (by decide) (hA _ k_fl_M_76) rfl d_M_finds_40 ?_
      refine lv_iload_n hx hb d_M_finds_43 rfl (lv_at hl 2 rfl) ?_
      refine y_iald hx hb hK.1 hW 23 (by omega) laym_23 rfl (by decide) jn (by omega) (by omega) d_M_finds_44 ?_
      refine y_icmp_ne (tgt := 52) hx hb d_M_finds_45 (by decide) ⟨by omega, by omega⟩ ⟨by omega, by omega⟩ (fun hcm => ?_) (fun hcm => ?_)
      · skip
        refine lv_iconst (v := J (0)) hx hb d_M_finds_52 rfl ?_
        exact y_retz hx hb hr hlocks hS (Or.inl rfl) (b01_f (fun hf => by obtain ⟨g1, g2, g3⟩ := hf; first | omega | (rw [show k.toNat = kn by omega, show i.toNat = jn by omega] at g3; exact hcm g3))).symm d_M_finds_53
      · skip
        refine lv_iconst (v := J (1)) hx hb d_M_finds_48 rfl ?_
        refine lv_goto (tgt := 53) hx hb d_M_finds_49 (by decide) ?_
        exact y_retz hx hb hr hlocks hS (Or.inr rfl) (b01_t ⟨by omega, by omega, by rw [show k.toNat = kn by omega, show i.toNat = jn by omega]; exact hcm⟩).symm d_M_finds_53
    · skip
      rw [show (if 0 ≤ i ∧ i ≤ ((fl : Int) - 1) then (1 : Int) else 0) = 0 from if_neg hq16]
      refine y_if_eq (tgt := 52) hx hb d_M_finds_19 (by decide) ⟨by omega, by omega⟩ (fun hc4 => ?_) (fun hc4 => absurd hc4 (by decide))
      refine lv_iconst (v := J (0)) hx hb d_M_finds_52 rfl ?_
      exact y_retz hx hb hr hlocks hS (Or.inl rfl) (b01_f (fun hf => by obtain ⟨g1, g2, g3⟩ := hf; first | omega | (rw [show k.toNat = kn by omega, show i.toNat = jn by omega] at g3; exact hcm g3))).symm d_M_finds_53
  · skip
    rw [show (if 0 ≤ k ∧ k ≤ (nk : Int) - 1 then (1 : Int) else 0) = 0 from if_neg hq2]
    refine y_if_eq (tgt := 52) hx hb d_M_finds_5 (by decide) ⟨by omega, by omega⟩ (fun hc5 => ?_) (fun hc5 => absurd hc5 (by decide))
    refine lv_iconst (v := J (0)) hx hb d_M_finds_52 rfl ?_
    exact y_retz hx hb hr hlocks hS (Or.inl rfl) (b01_f (fun hf => by obtain ⟨g1, g2, g3⟩ := hf; first | omega | (rw [show k.toNat = kn by omega, show i.toNat = jn by omega] at g3; exact hcm g3))).symm d_M_finds_53
