theorem d_M_note_0 : decode b_M_note 0 = .ok (.aload_n 0, 1) := by decide +kernel
theorem d_M_note_1 : decode b_M_note 1 = .ok (.iload_n 1, 1) := by decide +kernel
theorem d_M_note_2 : decode b_M_note 2 = .ok (.iload_n 2, 1) := by decide +kernel
theorem d_M_note_3 : decode b_M_note 3 = .ok (.invokevirtual 143, 3) := by decide +kernel
theorem d_M_note_6 : decode b_M_note 6 = .ok (.ifCond .eq 12, 3) := by decide +kernel
theorem d_M_note_9 : decode b_M_note 9 = .ok (.iload_n 3, 1) := by decide +kernel
theorem d_M_note_10 : decode b_M_note 10 = .ok (.iconst 0, 1) := by decide +kernel
theorem d_M_note_11 : decode b_M_note 11 = .ok (.iconst 3, 1) := by decide +kernel
theorem d_M_note_12 : decode b_M_note 12 = .ok (.invokestatic 110, 3) := by decide +kernel
theorem d_M_note_15 : decode b_M_note 15 = .ok (.ifCond .ne 5, 3) := by decide +kernel
theorem d_M_note_18 : decode b_M_note 18 = .ok (.iconst (-1), 1) := by decide +kernel
theorem d_M_note_19 : decode b_M_note 19 = .ok (.ireturn, 1) := by decide +kernel
theorem d_M_note_20 : decode b_M_note 20 = .ok (.aload_n 0, 1) := by decide +kernel
theorem d_M_note_21 : decode b_M_note 21 = .ok (.iload_n 1, 1) := by decide +kernel
theorem d_M_note_22 : decode b_M_note 22 = .ok (.iload_n 2, 1) := by decide +kernel
theorem d_M_note_23 : decode b_M_note 23 = .ok (.invokevirtual 147, 3) := by decide +kernel
theorem d_M_note_26 : decode b_M_note 26 = .ok (.istore 4, 2) := by decide +kernel
theorem d_M_note_28 : decode b_M_note 28 = .ok (.iload_n 3, 1) := by decide +kernel
theorem d_M_note_29 : decode b_M_note 29 = .ok (.ifCond .ne 12, 3) := by decide +kernel
theorem d_M_note_32 : decode b_M_note 32 = .ok (.aload_n 0, 1) := by decide +kernel
theorem d_M_note_33 : decode b_M_note 33 = .ok (.iload_n 1, 1) := by decide +kernel
theorem d_M_note_34 : decode b_M_note 34 = .ok (.iload_n 2, 1) := by decide +kernel
theorem d_M_note_35 : decode b_M_note 35 = .ok (.invokevirtual 134, 3) := by decide +kernel
theorem d_M_note_38 : decode b_M_note 38 = .ok (.goto 41, 3) := by decide +kernel
theorem d_M_note_41 : decode b_M_note 41 = .ok (.iload_n 3, 1) := by decide +kernel
theorem d_M_note_42 : decode b_M_note 42 = .ok (.iconst 1, 1) := by decide +kernel
theorem d_M_note_43 : decode b_M_note 43 = .ok (.if_icmp .ne 12, 3) := by decide +kernel
theorem d_M_note_46 : decode b_M_note 46 = .ok (.aload_n 0, 1) := by decide +kernel
theorem d_M_note_47 : decode b_M_note 47 = .ok (.iload_n 1, 1) := by decide +kernel
theorem d_M_note_48 : decode b_M_note 48 = .ok (.iload_n 2, 1) := by decide +kernel
theorem d_M_note_49 : decode b_M_note 49 = .ok (.invokevirtual 137, 3) := by decide +kernel
theorem d_M_note_52 : decode b_M_note 52 = .ok (.goto 27, 3) := by decide +kernel
theorem d_M_note_55 : decode b_M_note 55 = .ok (.iload_n 3, 1) := by decide +kernel
theorem d_M_note_56 : decode b_M_note 56 = .ok (.iconst 3, 1) := by decide +kernel
theorem d_M_note_57 : decode b_M_note 57 = .ok (.if_icmp .ne 8, 3) := by decide +kernel
theorem d_M_note_60 : decode b_M_note 60 = .ok (.iload 4, 2) := by decide +kernel
theorem d_M_note_62 : decode b_M_note 62 = .ok (.goto 17, 3) := by decide +kernel
theorem d_M_note_65 : decode b_M_note 65 = .ok (.aload_n 0, 1) := by decide +kernel
theorem d_M_note_66 : decode b_M_note 66 = .ok (.iload 4, 2) := by decide +kernel
theorem d_M_note_68 : decode b_M_note 68 = .ok (.invokevirtual 150, 3) := by decide +kernel
theorem d_M_note_71 : decode b_M_note 71 = .ok (.ifCond .eq 7, 3) := by decide +kernel
theorem d_M_note_74 : decode b_M_note 74 = .ok (.iconst 1, 1) := by decide +kernel
theorem d_M_note_75 : decode b_M_note 75 = .ok (.goto 4, 3) := by decide +kernel
theorem d_M_note_78 : decode b_M_note 78 = .ok (.iconst 0, 1) := by decide +kernel
theorem d_M_note_79 : decode b_M_note 79 = .ok (.ireturn, 1) := by decide +kernel

set_option maxHeartbeats 4000000 in
set_option maxRecDepth 100000 in
theorem c_M_note (l : Launch) (G : yG) (z : Nat) (τ : yM) (hTb : mTb τ) (nk : Nat) (hnk : nk ≤ 4) (hk0 : τ 0 2 = (nk : Int)) (nb : Nat) (hnbr : nb ≤ 12) (hnb : τ 0 24 = (nb : Int)) (fl : Nat) (hflr : fl ≤ 16) (hfl : (if nb = 0 then 0 else τ 20 (nb - 1)) = (fl : Int)) (hlr : ∀ i, i < fl → 0 ≤ τ 23 i ∧ τ 23 i < 10009) (hsec : ∀ k, k < nk → 1 ≤ τ 3 k ∧ τ 3 k ≤ 2472) (hld : ∀ i, i < fl → (0 ≤ τ 24 i ∧ τ 24 i < 2473) ∧ (0 ≤ τ 25 i ∧ τ 25 i < 1000) ∧ (0 ≤ τ 26 i ∧ τ 26 i < 2473)) (hsh : ∀ i, i < 2 * nb → jr (τ 22 i)) (k i c9 : Int) (hk9 : jr k) (hi9 : jr i) (hc9 : jr c9) : Met l y_M_note (Cond.code y_M_note b_M_note 5 (some .int) :: yT) ({ frames := 3, cells := 0, slots := 0, locals := 66 } : Room) (yP ycl G yLM 0 28 z τ (yK G) [.ref (z + 0), .int (J (k)), .int (J (i)), .int (J (c9))]) (yQi (cif (finM τ nk fl k i ∧ 0 ≤ c9 ∧ c9 ≤ 3) (if c9 = 0 then vOf (τ 3 k.toNat) (τ 24 i.toNat) (τ 25 i.toNat) else if c9 = 1 then tOf (τ 3 k.toNat) (τ 24 i.toNat) (τ 26 i.toNat) else if c9 = 3 then nOf (τ 3 k.toNat) i else b01 (revM τ (nOf (τ 3 k.toNat) i) (2 * nb))) (-1))) 0 0 yN := by
  refine y_met (by decide +kernel) (Nat.le_of_ble_eq_true rfl) ?_
  intro p e s m below meth c ls hx hb hr hml hlocks hown hname hts hv hl
  have hA : ∀ w ∈ yT, w.before _ s = true := fun w h => hts w (List.mem_cons_of_mem _ h)
  have hl : lv_has ls 5 [(0, .ref (z + 0)), (1, .int (J (k))), (2, .int (J (i))), (3, .int (J (c9)))] := hl
  obtain ⟨hW, hK⟩ := hv
  have hS : va_S yN s.heap s.heap [] := va_S.rf
  refine lv_aload_n hx hb d_M_note_0 rfl (lv_at hl 0 rfl) ?_
  refine lv_iload_n hx hb d_M_note_1 rfl (lv_at hl 1 rfl) ?_
  refine lv_iload_n hx hb d_M_note_2 rfl (lv_at hl 2 rfl) ?_
  refine y_ci (y_runV (As := [.int (J (k)), .int (J (i))]) (rest := []) ⟨hx, hb, hml, hown, hts⟩ (c_M_finds l G z τ hTb nk hnk hk0 nb hnbr hnb fl hflr hfl hlr hsec hld (k) (i) hk9 hi9) 2 k_co_M_finds k_ml_M_143 k_im_M_finds k_se_M_finds k_in_M rfl rfl (by decide +kernel) ⟨Nat.le_of_ble_eq_true rfl, Nat.le_of_ble_eq_true rfl⟩ (yPv (yK_bl G) (yK_mv G) hK hK.1 hW (by omega) laym_0 rfl (by omega) (by omega)) rfl hl.1 rfl (Nat.le_of_ble_eq_true rfl) d_M_note_3 ⟨Nat.zero_le _, Nat.zero_le _⟩) hS hW (fun H locs hW hS => ?_)
  by_cases hf9 : finM τ nk fl k i
  · skip
    rw [b01_t hf9]
    refine y_if_eq (tgt := 18) hx hb d_M_note_6 (by decide) ⟨by omega, by omega⟩ (fun hc1 => absurd hc1 (by decide)) (fun hc1 => ?_)
    refine lv_iload_n hx hb d_M_note_9 rfl (lv_at hl 3 rfl) ?_
    refine lv_iconst (v := J (0)) hx hb d_M_note_10 rfl ?_
    refine lv_iconst (v := J (3)) hx hb d_M_note_11 rfl ?_
    refine y_ci (y_runS (As := [.int (J (c9)), .int (J (0)), .int (J (3))]) (rest := []) ⟨hx, hb, hml, hown, hts⟩ (c_M_in l G (c9) (0) (3) hc9 ⟨by omega, by omega⟩ ⟨by omega, by omega⟩) 3 k_co_M_in k_ml_M_110 k_st_M_in k_in_M rfl rfl (by decide +kernel) ⟨Nat.le_of_ble_eq_true rfl, Nat.le_of_ble_eq_true rfl⟩ (yPs0 (yK_bl G) (yK_mv G) hK) rfl hl.1 rfl (Nat.le_of_ble_eq_true rfl) d_M_note_12 ⟨Nat.zero_le _, Nat.zero_le _⟩) hS hW (fun H locs hW hS => ?_)
    by_cases hq12 : 0 ≤ c9 ∧ c9 ≤ 3
    · skip
      rw [show (if 0 ≤ c9 ∧ c9 ≤ 3 then (1 : Int) else 0) = 1 from if_pos hq12]
      refine y_if_ne (tgt := 20) hx hb d_M_note_15 (by decide) ⟨by omega, by omega⟩ (fun hc2 => ?_) (fun hc2 => absurd hc2 (by decide))
      obtain ⟨g1, g2, g3⟩ := hf9
      obtain ⟨kn, e_kn⟩ : ∃ q : Nat, k = (q : Int) := ⟨(k).toNat, by omega⟩
      obtain ⟨jn, e_jn⟩ : ∃ q : Nat, i = (q : Int) := ⟨(i).toNat, by omega⟩
      have hs8 := hsec kn (by omega)
      have hs9 : 0 ≤ τ 3 kn ∧ τ 3 kn < 2473 := by omega
      obtain ⟨hl1, hl2, hl3⟩ := hld jn (by omega)
      have hnr := nOf_rng (τ 3 kn) i
      refine lv_aload_n hx hb d_M_note_20 rfl (lv_at hl 0 rfl) ?_
      refine lv_iload_n hx hb d_M_note_21 rfl (lv_at hl 1 rfl) ?_
      refine lv_iload_n hx hb d_M_note_22 rfl (lv_at hl 2 rfl) ?_
      refine y_ci (y_runV (As := [.int (J (k)), .int (J (i))]) (rest := []) ⟨hx, hb, hml, hown, hts⟩ (c_M_nullifier l G z τ hTb kn (by omega) (k) e_kn hs9 (i) (by omega)) 2 k_co_M_nullifier k_ml_M_147 k_im_M_nullifier k_se_M_nullifier k_in_M rfl rfl (by decide +kernel) ⟨Nat.le_of_ble_eq_true rfl, Nat.le_of_ble_eq_true rfl⟩ (yPv (yK_bl G) (yK_mv G) hK hK.1 hW (by omega) laym_0 rfl (by omega) (by omega)) rfl hl.1 rfl (Nat.le_of_ble_eq_true rfl) d_M_note_23 ⟨Nat.zero_le _, Nat.zero_le _⟩) hS hW (fun H locs hW hS => ?_)
      have eN : eX (τ 3 kn * 2409 + (i + 1) * 1499 + 0) = nOf (τ 3 kn) i := congrArg eX (by omega)
      rw [eN]
      refine lv_istore (lv' := [(4, .int (J (nOf (τ 3 kn) i))), (0, .ref (z + 0)), (1, .int (J (k))), (2, .int (J (i))), (3, .int (J (c9)))]) hx hb d_M_note_26 hl (by decide) rfl (fun ls hl => ?_)
      refine lv_iload_n hx hb d_M_note_28 rfl (lv_at hl 4 rfl) ?_
      refine y_if_ne (tgt := 41) hx hb d_M_note_29 (by decide) ⟨by omega, by omega⟩ (fun hc3 => ?_) (fun hc3 => ?_)
      · skip
        refine lv_iload_n hx hb d_M_note_41 rfl (lv_at hl 4 rfl) ?_
        refine lv_iconst (v := J (1)) hx hb d_M_note_42 rfl ?_
        refine y_icmp_ne (tgt := 55) hx hb d_M_note_43 (by decide) ⟨by omega, by omega⟩ ⟨by omega, by omega⟩ (fun hc4 => ?_) (fun hc4 => ?_)
        · skip
          refine lv_iload_n hx hb d_M_note_55 rfl (lv_at hl 4 rfl) ?_
          refine lv_iconst (v := J (3)) hx hb d_M_note_56 rfl ?_
          refine y_icmp_ne (tgt := 65) hx hb d_M_note_57 (by decide) ⟨by omega, by omega⟩ ⟨by omega, by omega⟩ (fun hc5 => ?_) (fun hc5 => ?_)
          · skip
            refine lv_aload_n hx hb d_M_note_65 rfl (lv_at hl 1 rfl) ?_
            refine lv_iload hx hb d_M_note_66 (lv_at hl 0 rfl) ?_
            refine y_ci (y_runV (As := [.int (J (nOf (τ 3 kn) i))]) (rest := []) ⟨hx, hb, hml, hown, hts⟩ (c_M_revealed l G z τ nb hnbr hnb (nOf (τ 3 kn) i) ⟨by omega, by omega⟩ hsh) 1 k_co_M_revealed k_ml_M_150 k_im_M_revealed k_se_M_revealed k_in_M rfl rfl (by decide +kernel) ⟨Nat.le_of_ble_eq_true rfl, Nat.le_of_ble_eq_true rfl⟩ (yPv (yK_bl G) (yK_mv G) hK hK.1 hW (by omega) laym_0 rfl (by omega) (by omega)) rfl hl.1 rfl (Nat.le_of_ble_eq_true rfl) d_M_note_68 ⟨Nat.zero_le _, Nat.zero_le _⟩) hS hW (fun H locs hW hS => ?_)
            by_cases hrv : revM τ (nOf (τ 3 kn) i) (2 * nb)
            · skip
              rw [b01_t hrv]
              refine y_if_eq (tgt := 78) hx hb d_M_note_71 (by decide) ⟨by omega, by omega⟩ (fun hc6 => absurd hc6 (by decide)) (fun hc6 => ?_)
              refine lv_iconst (v := J (1)) hx hb d_M_note_74 rfl ?_
              refine lv_goto (tgt := 79) hx hb d_M_note_75 (by decide) ?_
              exact y_reti hx hb hr hlocks hS ((cif_t ⟨⟨g1, g2, g3⟩, by omega, by omega⟩).trans (by rw [show k.toNat = kn by omega, show i.toNat = jn by omega]; exact (if_neg (by omega)).trans ((if_neg (by omega)).trans ((if_neg (by omega)).trans (b01_t hrv))))).symm d_M_note_79
            · skip
              rw [b01_f hrv]
              refine y_if_eq (tgt := 78) hx hb d_M_note_71 (by decide) ⟨by omega, by omega⟩ (fun hc7 => ?_) (fun hc7 => absurd hc7 (by decide))
              refine lv_iconst (v := J (0)) hx hb d_M_note_78 rfl ?_
              exact y_reti hx hb hr hlocks hS ((cif_t ⟨⟨g1, g2, g3⟩, by omega, by omega⟩).trans (by rw [show k.toNat = kn by omega, show i.toNat = jn by omega]; exact (if_neg (by omega)).trans ((if_neg (by omega)).trans ((if_neg (by omega)).trans (b01_f hrv))))).symm d_M_note_79
          · skip
            refine lv_iload hx hb d_M_note_60 (lv_at hl 0 rfl) ?_
            refine lv_goto (tgt := 79) hx hb d_M_note_62 (by decide) ?_
            exact y_reti hx hb hr hlocks hS ((cif_t ⟨⟨g1, g2, g3⟩, by omega, by omega⟩).trans (by rw [show k.toNat = kn by omega, show i.toNat = jn by omega]; exact (if_neg (by omega)).trans ((if_neg (by omega)).trans (if_pos (by omega))))).symm d_M_note_79
        · skip
          refine lv_aload_n hx hb d_M_note_46 rfl (lv_at hl 1 rfl) ?_
          refine lv_iload_n hx hb d_M_note_47 rfl (lv_at hl 2 rfl) ?_
          refine lv_iload_n hx hb d_M_note_48 rfl (lv_at hl 3 rfl) ?_
          refine y_ci (y_runV (As := [.int (J (k)), .int (J (i))]) (rest := []) ⟨hx, hb, hml, hown, hts⟩ (c_M_trapOf l G z τ hTb kn (by omega) (k) e_kn hs9 jn (by omega) (i) e_jn hl1 hl3) 2 k_co_M_trapOf k_ml_M_137 k_im_M_trapOf k_se_M_trapOf k_in_M rfl rfl (by decide +kernel) ⟨Nat.le_of_ble_eq_true rfl, Nat.le_of_ble_eq_true rfl⟩ (yPv (yK_bl G) (yK_mv G) hK hK.1 hW (by omega) laym_0 rfl (by omega) (by omega)) rfl hl.1 rfl (Nat.le_of_ble_eq_true rfl) d_M_note_49 ⟨Nat.zero_le _, Nat.zero_le _⟩) hS hW (fun H locs hW hS => ?_)
          refine lv_goto (tgt := 79) hx hb d_M_note_52 (by decide) ?_
          exact y_reti hx hb hr hlocks hS ((cif_t ⟨⟨g1, g2, g3⟩, by omega, by omega⟩).trans (by rw [show k.toNat = kn by omega, show i.toNat = jn by omega]; exact (if_neg (by omega)).trans (if_pos (by omega)))).symm d_M_note_79
      · skip
        refine lv_aload_n hx hb d_M_note_32 rfl (lv_at hl 1 rfl) ?_
        refine lv_iload_n hx hb d_M_note_33 rfl (lv_at hl 2 rfl) ?_
        refine lv_iload_n hx hb d_M_note_34 rfl (lv_at hl 3 rfl) ?_
        refine y_ci (y_runV (As := [.int (J (k)), .int (J (i))]) (rest := []) ⟨hx, hb, hml, hown, hts⟩ (c_M_valueOf l G z τ hTb kn (by omega) (k) e_kn hs9 jn (by omega) (i) e_jn hl1 hl2) 2 k_co_M_valueOf k_ml_M_134 k_im_M_valueOf k_se_M_valueOf k_in_M rfl rfl (by decide +kernel) ⟨Nat.le_of_ble_eq_true rfl, Nat.le_of_ble_eq_true rfl⟩ (yPv (yK_bl G) (yK_mv G) hK hK.1 hW (by omega) laym_0 rfl (by omega) (by omega)) rfl hl.1 rfl (Nat.le_of_ble_eq_true rfl) d_M_note_35 ⟨Nat.zero_le _, Nat.zero_le _⟩) hS hW (fun H locs hW hS => ?_)
        refine lv_goto (tgt := 79) hx hb d_M_note_38 (by decide) ?_
        exact y_reti hx hb hr hlocks hS ((cif_t ⟨⟨g1, g2, g3⟩, by omega, by omega⟩).trans (by rw [show k.toNat = kn by omega, show i.toNat = jn by omega]; exact if_pos (by omega))).symm d_M_note_79
    · skip
      rw [show (if 0 ≤ c9 ∧ c9 ≤ 3 then (1 : Int) else 0) = 0 from if_neg hq12]
      refine y_if_ne (tgt := 20) hx hb d_M_note_15 (by decide) ⟨by omega, by omega⟩ (fun hc8 => absurd hc8 (by decide)) (fun hc8 => ?_)
      refine lv_iconst (v := J (-1)) hx hb d_M_note_18 rfl ?_
      exact y_reti hx hb hr hlocks hS (cif_f (fun hh => by first | exact hf9 hh.1 | (have := hh.2; omega))).symm d_M_note_19
  · skip
    rw [b01_f hf9]
    refine y_if_eq (tgt := 18) hx hb d_M_note_6 (by decide) ⟨by omega, by omega⟩ (fun hc9 => ?_) (fun hc9 => absurd hc9 (by decide))
    refine lv_iconst (v := J (-1)) hx hb d_M_note_18 rfl ?_
    exact y_reti hx hb hr hlocks hS (cif_f (fun hh => by first | exact hf9 hh.1 | (have := hh.2; omega))).symm d_M_note_19
