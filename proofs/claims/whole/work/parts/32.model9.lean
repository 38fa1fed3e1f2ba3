theorem d_M_total_0 : decode b_M_total 0 = .ok (.aload_n 0, 1) := by decide +kernel
theorem d_M_total_1 : decode b_M_total 1 = .ok (.iload_n 1, 1) := by decide +kernel
theorem d_M_total_2 : decode b_M_total 2 = .ok (.invokevirtual 124, 3) := by decide +kernel
theorem d_M_total_5 : decode b_M_total 5 = .ok (.ifCond .ne 5, 3) := by decide +kernel
theorem d_M_total_8 : decode b_M_total 8 = .ok (.iconst (-1), 1) := by decide +kernel
theorem d_M_total_9 : decode b_M_total 9 = .ok (.ireturn, 1) := by decide +kernel
theorem d_M_total_10 : decode b_M_total 10 = .ok (.iconst 0, 1) := by decide +kernel
theorem d_M_total_11 : decode b_M_total 11 = .ok (.istore_n 2, 1) := by decide +kernel
theorem d_M_total_12 : decode b_M_total 12 = .ok (.iconst 0, 1) := by decide +kernel
theorem d_M_total_13 : decode b_M_total 13 = .ok (.istore_n 3, 1) := by decide +kernel
theorem d_M_total_14 : decode b_M_total 14 = .ok (.iload_n 3, 1) := by decide +kernel
theorem d_M_total_15 : decode b_M_total 15 = .ok (.bipush 16, 2) := by decide +kernel
theorem d_M_total_17 : decode b_M_total 17 = .ok (.if_icmp .ge 44, 3) := by decide +kernel
theorem d_M_total_20 : decode b_M_total 20 = .ok (.iload_n 2, 1) := by decide +kernel
theorem d_M_total_21 : decode b_M_total 21 = .ok (.aload_n 0, 1) := by decide +kernel
theorem d_M_total_22 : decode b_M_total 22 = .ok (.iload_n 1, 1) := by decide +kernel
theorem d_M_total_23 : decode b_M_total 23 = .ok (.iload_n 3, 1) := by decide +kernel
theorem d_M_total_24 : decode b_M_total 24 = .ok (.invokevirtual 143, 3) := by decide +kernel
theorem d_M_total_27 : decode b_M_total 27 = .ok (.ifCond .eq 25, 3) := by decide +kernel
theorem d_M_total_30 : decode b_M_total 30 = .ok (.aload_n 0, 1) := by decide +kernel
theorem d_M_total_31 : decode b_M_total 31 = .ok (.aload_n 0, 1) := by decide +kernel
theorem d_M_total_32 : decode b_M_total 32 = .ok (.iload_n 1, 1) := by decide +kernel
theorem d_M_total_33 : decode b_M_total 33 = .ok (.iload_n 3, 1) := by decide +kernel
theorem d_M_total_34 : decode b_M_total 34 = .ok (.invokevirtual 147, 3) := by decide +kernel
theorem d_M_total_37 : decode b_M_total 37 = .ok (.invokevirtual 150, 3) := by decide +kernel
theorem d_M_total_40 : decode b_M_total 40 = .ok (.ifCond .ne 12, 3) := by decide +kernel
theorem d_M_total_43 : decode b_M_total 43 = .ok (.aload_n 0, 1) := by decide +kernel
theorem d_M_total_44 : decode b_M_total 44 = .ok (.iload_n 1, 1) := by decide +kernel
theorem d_M_total_45 : decode b_M_total 45 = .ok (.iload_n 3, 1) := by decide +kernel
theorem d_M_total_46 : decode b_M_total 46 = .ok (.invokevirtual 134, 3) := by decide +kernel
theorem d_M_total_49 : decode b_M_total 49 = .ok (.goto 4, 3) := by decide +kernel
theorem d_M_total_52 : decode b_M_total 52 = .ok (.iconst 0, 1) := by decide +kernel
theorem d_M_total_53 : decode b_M_total 53 = .ok (.iadd, 1) := by decide +kernel
theorem d_M_total_54 : decode b_M_total 54 = .ok (.istore_n 2, 1) := by decide +kernel
theorem d_M_total_55 : decode b_M_total 55 = .ok (.iinc 3 1, 3) := by decide +kernel
theorem d_M_total_58 : decode b_M_total 58 = .ok (.goto (-44), 3) := by decide +kernel
theorem d_M_total_61 : decode b_M_total 61 = .ok (.iload_n 2, 1) := by decide +kernel
theorem d_M_total_62 : decode b_M_total 62 = .ok (.ireturn, 1) := by decide +kernel

set_option maxHeartbeats 4000000 in
set_option maxRecDepth 100000 in
theorem c_M_total (l : Launch) (G : yG) (z : Nat) (τ : yM) (hTb : mTb τ) (nk : Nat) (hnk : nk ≤ 4) (hk0 : τ 0 2 = (nk : Int)) (nb : Nat) (hnbr : nb ≤ 12) (hnb : τ 0 24 = (nb : Int)) (fl : Nat) (hflr : fl ≤ 16) (hfl : (if nb = 0 then 0 else τ 20 (nb - 1)) = (fl : Int)) (hlr : ∀ i, i < fl → 0 ≤ τ 23 i ∧ τ 23 i < 10009) (hsec : ∀ k, k < nk → 1 ≤ τ 3 k ∧ τ 3 k ≤ 2472) (hld : ∀ i, i < fl → (0 ≤ τ 24 i ∧ τ 24 i < 2473) ∧ (0 ≤ τ 25 i ∧ τ 25 i < 1000) ∧ (0 ≤ τ 26 i ∧ τ 26 i < 2473)) (hsh : ∀ i, i < 2 * nb → jr (τ 22 i)) (k : Int) (hk9 : jr k) : Met l y_M_total (Cond.code y_M_total b_M_total 4 (some .int) :: yT) ({ frames := 3, cells := 0, slots := 0, locals := 66 } : Room) (yP ycl G yLM 0 28 z τ (yK G) [.ref (z + 0), .int (J (k))]) (yQi (if 0 ≤ k ∧ k < (nk : Int) then sm (fun (j : Nat) => cif (finM τ nk fl k (j : Int) ∧ ¬ revM τ (nOf (τ 3 k.toNat) (j : Int)) (2 * nb)) (vOf (τ 3 k.toNat) (τ 24 j) (τ 25 j)) 0) 16 else -1)) 0 0 yN := by
  refine y_met (by decide +kernel) (Nat.le_of_ble_eq_true rfl) ?_
  intro p e s m below meth c ls hx hb hr hml hlocks hown hname hts hv hl
  have hA : ∀ w ∈ yT, w.before _ s = true := fun w h => hts w (List.mem_cons_of_mem _ h)
  have hl : lv_has ls 4 [(0, .ref (z + 0)), (1, .int (J (k)))] := hl
  obtain ⟨hW, hK⟩ := hv
  have hS : va_S yN s.heap s.heap [] := va_S.rf
  refine lv_aload_n hx hb d_M_total_0 rfl (lv_at hl 0 rfl) ?_
  refine lv_iload_n hx hb d_M_total_1 rfl (lv_at hl 1 rfl) ?_
  refine y_ci (y_runV (As := [.int (J (k))]) (rest := []) ⟨hx, hb, hml, hown, hts⟩ (c_M_isKey l G z τ nk hnk hk0 (k) hk9) 1 k_co_M_isKey k_ml_M_124 k_im_M_isKey k_se_M_isKey k_in_M rfl rfl (by decide +kernel) ⟨Nat.le_of_ble_eq_true rfl, Nat.le_of_ble_eq_true rfl⟩ (yPv (yK_bl G) (yK_mv G) hK hK.1 hW (by omega) laym_0 rfl (by omega) (by omega)) rfl hl.1 rfl (Nat.le_of_ble_eq_true rfl) d_M_total_2 ⟨Nat.zero_le _, Nat.zero_le _⟩) hS hW (fun H locs hW hS => ?_)
  by_cases hq2 : 0 ≤ k ∧ k ≤ (nk : Int) - 1
  · skip
    rw [show (if 0 ≤ k ∧ k ≤ (nk : Int) - 1 then (1 : Int) else 0) = 1 from if_pos hq2]
    refine y_if_ne (tgt := 10) hx hb d_M_total_5 (by decide) ⟨by omega, by omega⟩ (fun hc1 => ?_) (fun hc1 => absurd hc1 (by decide))
    obtain ⟨kn, e_kn⟩ : ∃ q : Nat, k = (q : Int) := ⟨(k).toNat, by omega⟩
    have hs8 := hsec kn (by omega)
    have hs9 : 0 ≤ τ 3 kn ∧ τ 3 kn < 2473 := by omega
    refine lv_iconst (v := J (0)) hx hb d_M_total_10 rfl ?_
    refine lv_istore_n (lv' := [(2, .int (J (0))), (0, .ref (z + 0)), (1, .int (J (k)))]) hx hb d_M_total_11 rfl hl (by decide) rfl (fun ls hl => ?_)
    refine lv_iconst (v := J (0)) hx hb d_M_total_12 rfl ?_
    refine lv_istore_n (lv' := [(3, .int (J (0))), (2, .int (J (0))), (0, .ref (z + 0)), (1, .int (J (k)))]) hx hb d_M_total_13 rfl hl (by decide) rfl (fun ls hl => ?_)
    have loop14 : ∀ (q9 j : Nat), j + q9 = 16 → ∀ (ls : Array Slot) (H : Heap) (locs : List Loc), yW ycl G yLM 0 28 z τ H → va_S yN s.heap H locs → lv_has ls 4 [(3, .int (J (((j : Nat) : Int)))), (2, .int (J (sm (fun (j : Nat) => cif (finM τ nk fl k (j : Int) ∧ ¬ revM τ (nOf (τ 3 kn) (j : Int)) (2 * nb)) (vOf (τ 3 kn) (τ 24 j) (τ 25 j)) 0) j))), (0, .ref (z + 0)), (1, .int (J (k)))] → W p l e ({ frames := 3, cells := 0, slots := 0, locals := 66 } : Room) s m ([.ref (z + 0), .int (J (k))] : List Value).toArray below meth c H locs 0 0 (MQ below (yQi (if 0 ≤ k ∧ k < (nk : Int) then sm (fun (j : Nat) => cif (finM τ nk fl k (j : Int) ∧ ¬ revM τ (nOf (τ 3 k.toNat) (j : Int)) (2 * nb)) (vOf (τ 3 k.toNat) (τ 24 j) (τ 25 j)) 0) 16 else -1)) ([.ref (z + 0), .int (J (k))] : List Value).toArray s 0 0 yN) (F0 m 14 ls []) := by
      intro q9
      induction q9 with
      | zero =>
        intro j hjk ls H locs hW hS hl
        have hjN : 16 = j := by omega
        subst hjN
        refine lv_iload_n hx hb d_M_total_14 rfl (lv_at hl 0 rfl) ?_
        refine lv_bipush (v := J (16)) hx hb d_M_total_15 (by decide) ?_
        refine y_icmp_ge (tgt := 61) hx hb d_M_total_17 (by decide) ⟨by omega, by omega⟩ ⟨by omega, by omega⟩ (fun hc2 => ?_) (fun hc2 => absurd hc2 (by omega))
        refine lv_iload_n hx hb d_M_total_61 rfl (lv_at hl 1 rfl) ?_
        exact y_reti hx hb hr hlocks hS ((if_pos (show 0 ≤ k ∧ k < (nk : Int) by omega)).trans (by rw [show k.toNat = kn by omega])).symm d_M_total_62
      | succ q9 ih =>
        intro j hjk ls H locs hW hS hl
        refine lv_iload_n hx hb d_M_total_14 rfl (lv_at hl 0 rfl) ?_
        refine lv_bipush (v := J (16)) hx hb d_M_total_15 (by decide) ?_
        refine y_icmp_ge (tgt := 61) hx hb d_M_total_17 (by decide) ⟨by omega, by omega⟩ ⟨by omega, by omega⟩ (fun hc3 => absurd hc3 (by omega)) (fun hc3 => ?_)
        refine lv_iload_n hx hb d_M_total_20 rfl (lv_at hl 1 rfl) ?_
        refine lv_aload_n hx hb d_M_total_21 rfl (lv_at hl 2 rfl) ?_
        refine lv_iload_n hx hb d_M_total_22 rfl (lv_at hl 3 rfl) ?_
        refine lv_iload_n hx hb d_M_total_23 rfl (lv_at hl 0 rfl) ?_
        refine y_ci (y_runV (As := [.int (J (k)), .int (J (((j : Nat) : Int)))]) (rest := [.int (J (sm (fun (j : Nat) => cif (finM τ nk fl k (j : Int) ∧ ¬ revM τ (nOf (τ 3 kn) (j : Int)) (2 * nb)) (vOf (τ 3 kn) (τ 24 j) (τ 25 j)) 0) j))]) ⟨hx, hb, hml, hown, hts⟩ (c_M_finds l G z τ hTb nk hnk hk0 nb hnbr hnb fl hflr hfl hlr hsec hld (k) (((j : Nat) : Int)) hk9 ⟨by omega, by omega⟩) 2 k_co_M_finds k_ml_M_143 k_im_M_finds k_se_M_finds k_in_M rfl rfl (by decide +kernel) ⟨Nat.le_of_ble_eq_true rfl, Nat.le_of_ble_eq_true rfl⟩ (yPv (yK_bl G) (yK_mv G) hK hK.1 hW (by omega) laym_0 rfl (by omega) (by omega)) rfl hl.1 rfl (Nat.le_of_ble_eq_true rfl) d_M_total_24 ⟨Nat.zero_le _, Nat.zero_le _⟩) hS hW (fun H locs hW hS => ?_)
        by_cases hf9 : finM τ nk fl k ((j : Nat) : Int)
        · skip
          rw [b01_t hf9]
          refine y_if_eq (tgt := 52) hx hb d_M_total_27 (by decide) ⟨by omega, by omega⟩ (fun hc4 => absurd hc4 (by decide)) (fun hc4 => ?_)
          have hfc := hf9
          obtain ⟨g1, g2, g3⟩ := hf9
          obtain ⟨jn, e_jn⟩ : ∃ q : Nat, ((j : Nat) : Int) = (q : Int) := ⟨(((j : Nat) : Int)).toNat, by omega⟩
          obtain ⟨hl1, hl2, hl3⟩ := hld jn (by omega)
          have hnr := nOf_rng (τ 3 kn) (j : Int)
          refine lv_aload_n hx hb d_M_total_30 rfl (lv_at hl 2 rfl) ?_
          refine lv_aload_n hx hb d_M_total_31 rfl (lv_at hl 2 rfl) ?_
          refine lv_iload_n hx hb d_M_total_32 rfl (lv_at hl 3 rfl) ?_
          refine lv_iload_n hx hb d_M_total_33 rfl (lv_at hl 0 rfl) ?_
          refine y_ci (y_runV (As := [.int (J (k)), .int (J (((j : Nat) : Int)))]) (rest := [.ref (z + 0), .int (J (sm (fun (j : Nat) => cif (finM τ nk fl k (j : Int) ∧ ¬ revM τ (nOf (τ 3 kn) (j : Int)) (2 * nb)) (vOf (τ 3 kn) (τ 24 j) (τ 25 j)) 0) j))]) ⟨hx, hb, hml, hown, hts⟩ (c_M_nullifier l G z τ hTb kn (by omega) (k) e_kn hs9 (((j : Nat) : Int)) (by omega)) 2 k_co_M_nullifier k_ml_M_147 k_im_M_nullifier k_se_M_nullifier k_in_M rfl rfl (by decide +kernel) ⟨Nat.le_of_ble_eq_true rfl, Nat.le_of_ble_eq_true rfl⟩ (yPv (yK_bl G) (yK_mv G) hK hK.1 hW (by omega) laym_0 rfl (by omega) (by omega)) rfl hl.1 rfl (Nat.le_of_ble_eq_true rfl) d_M_total_34 ⟨Nat.zero_le _, Nat.zero_le _⟩) hS hW (fun H locs hW hS => ?_)
          have eN : eX (τ 3 kn * 2409 + (((j : Nat) : Int) + 1) * 1499 + 0) = nOf (τ 3 kn) (j : Int) := congrArg eX (by omega)
          rw [eN]
          refine y_ci (y_runV (As := [.int (J (nOf (τ 3 kn) (j : Int)))]) (rest := [.int (J (sm (fun (j : Nat) => cif (finM τ nk fl k (j : Int) ∧ ¬ revM τ (nOf (τ 3 kn) (j : Int)) (2 * nb)) (vOf (τ 3 kn) (τ 24 j) (τ 25 j)) 0) j))]) ⟨hx, hb, hml, hown, hts⟩ (c_M_revealed l G z τ nb hnbr hnb (nOf (τ 3 kn) (j : Int)) ⟨by omega, by omega⟩ hsh) 1 k_co_M_revealed k_ml_M_150 k_im_M_revealed k_se_M_revealed k_in_M rfl rfl (by decide +kernel) ⟨Nat.le_of_ble_eq_true rfl, Nat.le_of_ble_eq_true rfl⟩ (yPv (yK_bl G) (yK_mv G) hK hK.1 hW (by omega) laym_0 rfl (by omega) (by omega)) rfl hl.1 rfl (Nat.le_of_ble_eq_true rfl) d_M_total_37 ⟨Nat.zero_le _, Nat.zero_le _⟩) hS hW (fun H locs hW hS => ?_)
          by_cases hrv : revM τ (nOf (τ 3 kn) (j : Int)) (2 * nb)
          · skip
            rw [b01_t hrv]
            refine y_if_ne (tgt := 52) hx hb d_M_total_40 (by decide) ⟨by omega, by omega⟩ (fun hc5 => ?_) (fun hc5 => absurd hc5 (by decide))
            refine lv_iconst (v := J (0)) hx hb d_M_total_52 rfl ?_
            refine y_iadd hx hb d_M_total_53 ?_
            refine lv_istore_n (lv' := [(2, .int (J ((sm (fun (j : Nat) => cif (finM τ nk fl k (j : Int) ∧ ¬ revM τ (nOf (τ 3 kn) (j : Int)) (2 * nb)) (vOf (τ 3 kn) (τ 24 j) (τ 25 j)) 0) j) + 0))), (3, .int (J (((j : Nat) : Int)))), (0, .ref (z + 0)), (1, .int (J (k)))]) hx hb d_M_total_54 rfl hl (by decide) rfl (fun ls hl => ?_)
            refine lv_iinc (k := 1) (v := J (((j + 1 : Nat) : Int))) (lv' := [(3, .int (J (((j + 1 : Nat) : Int)))), (2, .int (J ((sm (fun (j : Nat) => cif (finM τ nk fl k (j : Int) ∧ ¬ revM τ (nOf (τ 3 kn) (j : Int)) (2 * nb)) (vOf (τ 3 kn) (τ 24 j) (τ 25 j)) 0) j) + 0))), (0, .ref (z + 0)), (1, .int (J (k)))]) hx hb d_M_total_55 hl rfl (by rw [Int.natCast_add j 1]; exact J_add _ _) (by decide) rfl (fun ls hl => ?_)
            refine lv_goto (tgt := 14) hx hb d_M_total_58 (by decide) ?_
            refine ih (j + 1) (by omega) ls H locs hW hS ?_
            have e : sm (fun (j : Nat) => cif (finM τ nk fl k (j : Int) ∧ ¬ revM τ (nOf (τ 3 kn) (j : Int)) (2 * nb)) (vOf (τ 3 kn) (τ 24 j) (τ 25 j)) 0) (j + 1) = sm (fun (j : Nat) => cif (finM τ nk fl k (j : Int) ∧ ¬ revM τ (nOf (τ 3 kn) (j : Int)) (2 * nb)) (vOf (τ 3 kn) (τ 24 j) (τ 25 j)) 0) j + (fun (j : Nat) => cif (finM τ nk fl k (j : Int) ∧ ¬ revM τ (nOf (τ 3 kn) (j : Int)) (2 * nb)) (vOf (τ 3 kn) (τ 24 j) (τ 25 j)) 0) j := rfl
            have e2 : (fun (j : Nat) => cif (finM τ nk fl k (j : Int) ∧ ¬ revM τ (nOf (τ 3 kn) (j : Int)) (2 * nb)) (vOf (τ 3 kn) (τ 24 j) (τ 25 j)) 0) j = 0 := cif_f (fun hh => by first | exact hf9 hh.1 | exact hh.2 hrv)
            rw [e, e2]
            exact hl
          · skip
            rw [b01_f hrv]
            refine y_if_ne (tgt := 52) hx hb d_M_total_40 (by decide) ⟨by omega, by omega⟩ (fun hc6 => absurd hc6 (by decide)) (fun hc6 => ?_)
            refine lv_aload_n hx hb d_M_total_43 rfl (lv_at hl 2 rfl) ?_
            refine lv_iload_n hx hb d_M_total_44 rfl (lv_at hl 3 rfl) ?_
            refine lv_iload_n hx hb d_M_total_45 rfl (lv_at hl 0 rfl) ?_
            refine y_ci (y_runV (As := [.int (J (k)), .int (J (((j : Nat) : Int)))]) (rest := [.int (J (sm (fun (j : Nat) => cif (finM τ nk fl k (j : Int) ∧ ¬ revM τ (nOf (τ 3 kn) (j : Int)) (2 * nb)) (vOf (τ 3 kn) (τ 24 j) (τ 25 j)) 0) j))]) ⟨hx, hb, hml, hown, hts⟩ (c_M_valueOf l G z τ hTb kn (by omega) (k) e_kn hs9 jn (by omega) (((j : Nat) : Int)) e_jn hl1 hl2) 2 k_co_M_valueOf k_ml_M_134 k_im_M_valueOf k_se_M_valueOf k_in_M rfl rfl (by decide +kernel) ⟨Nat.le_of_ble_eq_true rfl, Nat.le_of_ble_eq_true rfl⟩ (yPv (yK_bl G) (yK_mv G) hK hK.1 hW (by omega) laym_0 rfl (by omega) (by omega)) rfl hl.1 rfl (Nat.le_of_ble_eq_true rfl) d_M_total_46 ⟨Nat.zero_le _, Nat.zero_le _⟩) hS hW (fun H locs hW hS => ?_)
            refine lv_goto (tgt := 53) hx hb d_M_total_49 (by decide) ?_
            refine y_iadd hx hb d_M_total_53 ?_
            refine lv_istore_n (lv' := [(2, .int (J ((sm (fun (j : Nat) => cif (finM τ nk fl k (j : Int) ∧ ¬ revM τ (nOf (τ 3 kn) (j : Int)) (2 * nb)) (vOf (τ 3 kn) (τ 24 j) (τ 25 j)) 0) j) + (vOf (τ 3 kn) (τ 24 jn) (τ 25 jn))))), (3, .int (J (((j : Nat) : Int)))), (0, .ref (z + 0)), (1, .int (J (k)))]) hx hb d_M_total_54 rfl hl (by decide) rfl (fun ls hl => ?_)
            refine lv_iinc (k := 1) (v := J (((j + 1 : Nat) : Int))) (lv' := [(3, .int (J (((j + 1 : Nat) : Int)))), (2, .int (J ((sm (fun (j : Nat) => cif (finM τ nk fl k (j : Int) ∧ ¬ revM τ (nOf (τ 3 kn) (j : Int)) (2 * nb)) (vOf (τ 3 kn) (τ 24 j) (τ 25 j)) 0) j) + (vOf (τ 3 kn) (τ 24 jn) (τ 25 jn))))), (0, .ref (z + 0)), (1, .int (J (k)))]) hx hb d_M_total_55 hl rfl (by rw [Int.natCast_add j 1]; exact J_add _ _) (by decide) rfl (fun ls hl => ?_)
            refine lv_goto (tgt := 14) hx hb d_M_total_58 (by decide) ?_
            refine ih (j + 1) (by omega) ls H locs hW hS ?_
            have e : sm (fun (j : Nat) => cif (finM τ nk fl k (j : Int) ∧ ¬ revM τ (nOf (τ 3 kn) (j : Int)) (2 * nb)) (vOf (τ 3 kn) (τ 24 j) (τ 25 j)) 0) (j + 1) = sm (fun (j : Nat) => cif (finM τ nk fl k (j : Int) ∧ ¬ revM τ (nOf (τ 3 kn) (j : Int)) (2 * nb)) (vOf (τ 3 kn) (τ 24 j) (τ 25 j)) 0) j + (fun (j : Nat) => cif (finM τ nk fl k (j : Int) ∧ ¬ revM τ (nOf (τ 3 kn) (j : Int)) (2 * nb)) (vOf (τ 3 kn) (τ 24 j) (τ 25 j)) 0) j := rfl
            have ejj : jn = j := by omega
            subst ejj
            have e2 : (fun (j : Nat) => cif (finM τ nk fl k (j : Int) ∧ ¬ revM τ (nOf (τ 3 kn) (j : Int)) (2 * nb)) (vOf (τ 3 kn) (τ 24 j) (τ 25 j)) 0) jn = vOf (τ 3 kn) (τ 24 jn) (τ 25 jn) := cif_t ⟨hfc, hrv⟩
            rw [e, e2]
            exact hl
        · skip
          rw [b01_f hf9]
          refine y_if_eq (tgt := 52) hx hb d_M_total_27 (by decide) ⟨by omega, by omega⟩ (fun hc7 => ?_) (fun hc7 => absurd hc7 (by decide))
          refine lv_iconst (v := J (0)) hx hb d_M_total_52 rfl ?_
          refine y_iadd hx hb d_M_total_53 ?_
          refine lv_istore_n (lv' := [(2, .int (J ((sm (fun (j : Nat) => cif (finM τ nk fl k (j : Int) ∧ ¬ revM τ (nOf (τ 3 kn) (j : Int)) (2 * nb)) (vOf (τ 3 kn) (τ 24 j) (τ 25 j)) 0) j) + 0))), (3, .int (J (((j : Nat) : Int)))), (0, .ref (z + 0)), (1, .int (J (k)))]) hx hb d_M_total_54 rfl hl (by decide) rfl (fun ls hl => ?_)
          refine lv_iinc (k := 1) (v := J (((j + 1 : Nat) : Int))) (lv' := [(3, .int (J (((j + 1 : Nat) : Int)))), (2, .int (J ((sm (fun (j : Nat) => cif (finM τ nk fl k (j : Int) ∧ ¬ revM τ (nOf (τ 3 kn) (j : Int)) (2 * nb)) (vOf (τ 3 kn) (τ 24 j) (τ 25 j)) 0) j) + 0))), (0, .ref (z + 0)), (1, .int (J (k)))]) hx hb d_M_total_55 hl rfl (by rw [Int.natCast_add j 1]; exact J_add _ _) (by decide) rfl (fun ls hl => ?_)
          refine lv_goto (tgt := 14) hx hb d_M_total_58 (by decide) ?_
          refine ih (j + 1) (by omega) ls H locs hW hS ?_
          have e : sm (fun (j : Nat) => cif (finM τ nk fl k (j : Int) ∧ ¬ revM τ (nOf (τ 3 kn) (j : Int)) (2 * nb)) (vOf (τ 3 kn) (τ 24 j) (τ 25 j)) 0) (j + 1) = sm (fun (j : Nat) => cif (finM τ nk fl k (j : Int) ∧ ¬ revM τ (nOf (τ 3 kn) (j : Int)) (2 * nb)) (vOf (τ 3 kn) (τ 24 j) (τ 25 j)) 0) j + (fun (j : Nat) => cif (finM τ nk fl k (j : Int) ∧ ¬ revM τ (nOf (τ 3 kn) (j : Int)) (2 * nb)) (vOf (τ 3 kn) (τ 24 j) (τ 25 j)) 0) j := rfl
          have e2 : (fun (j : Nat) => cif (finM τ nk fl k (j : Int) ∧ ¬ revM τ (nOf (τ 3 kn) (j : Int)) (2 * nb)) (vOf (τ 3 kn) (τ 24 j) (τ 25 j)) 0) j = 0 := cif_f (fun hh => by first | exact hf9 hh.1 | exact hh.2 hrv)
          rw [e, e2]
          exact hl
    exact loop14 16 0 (by omega) ls _ _ hW hS hl
  · skip
    rw [show (if 0 ≤ k ∧ k ≤ (nk : Int) - 1 then (1 : Int) else 0) = 0 from if_neg hq2]
    refine y_if_ne (tgt := 10) hx hb d_M_total_5 (by decide) ⟨by omega, by omega⟩ (fun hc8 => absurd hc8 (by decide)) (fun hc8 => ?_)
    refine lv_iconst (v := J (-1)) hx hb d_M_total_8 rfl ?_
    exact y_reti hx hb hr hlocks hS (if_neg (by omega)).symm d_M_total_9
