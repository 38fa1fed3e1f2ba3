set_option maxHeartbeats 4000000 in
set_option maxRecDepth 100000 in
theorem c_M_draft (l : Launch) (G : yG) (z : Nat) (τ : yM) (hTb : mTb τ) (ns no : Nat) (hns : ns ≤ 2) (hno : no ≤ 2) (hs : τ 0 4 = (ns : Int)) (ho : τ 0 13 = (no : Int)) (ht : 0 ≤ τ 0 23 ∧ τ 0 23 < 2473) (hsw : ∀ j, j < ns → 0 ≤ τ 8 j ∧ τ 8 j ≤ 2472) (how : ∀ j, j < no → 0 ≤ τ 15 j ∧ τ 15 j ≤ 2472) (hsv : ∀ j, j < ns → 0 ≤ τ 6 j ∧ τ 6 j < 1000) (hov : ∀ j, j < no → 0 ≤ τ 13 j ∧ τ 13 j < 1000) (hoe : ∀ j, j < no → 0 ≤ τ 17 j ∧ τ 17 j < 2473) (c9 : Int) (hc9 : jr c9) : Met l y_M_draft (Cond.code y_M_draft b_M_draft 5 (some .int) :: yT) ({ frames := 2, cells := 0, slots := 0, locals := 45 } : Room) (yP ycl G yLM 0 28 z τ (yK G) [.ref (z + 0), .int (J (c9))]) (yQi (if 0 ≤ c9 ∧ c9 ≤ 25 then (if c9 < 4 then (if c9 = 0 then τ 0 4 else if c9 = 1 then τ 0 13 else if c9 = 2 then τ 0 22 else (τ 0 23 + sm (τ 8) ns - sm (τ 15) no) % 2473) else if c9 < 8 then (if ((c9 - 4) / 2).toNat < ns then (if (c9 - 4) % 2 = 0 then eX (τ 6 ((c9 - 4) / 2).toNat * 1281 + τ 8 ((c9 - 4) / 2).toNat * 1369) else eY (τ 6 ((c9 - 4) / 2).toNat * 1281 + τ 8 ((c9 - 4) / 2).toNat * 1369)) else -10000) else if c9 < 22 then (if ((c9 - 8) / 7).toNat < no then (if (c9 - 8) % 7 = 0 then τ 16 ((c9 - 8) / 7).toNat else if (c9 - 8) % 7 = 1 then eX (τ 17 ((c9 - 8) / 7).toNat) else if (c9 - 8) % 7 = 2 then eY (τ 17 ((c9 - 8) / 7).toNat) else if (c9 - 8) % 7 = 3 then τ 18 ((c9 - 8) / 7).toNat else if (c9 - 8) % 7 = 4 then τ 19 ((c9 - 8) / 7).toNat else if (c9 - 8) % 7 = 5 then eX (τ 13 ((c9 - 8) / 7).toNat * 1281 + τ 15 ((c9 - 8) / 7).toNat * 1369) else eY (τ 13 ((c9 - 8) / 7).toNat * 1281 + τ 15 ((c9 - 8) / 7).toNat * 1369)) else -10000) else (if ((c9 - 22) / 2).toNat < ns then (if (c9 - 22) % 2 = 0 then τ 9 ((c9 - 22) / 2).toNat else τ 10 ((c9 - 22) / 2).toNat) else -10000)) else -10000)) 0 0 yN := by
  refine y_met (by decide +kernel) (Nat.le_of_ble_eq_true rfl) ?_
  intro p e s m below meth c ls hx hb hr hml hlocks hown hname hts hv hl
  have hA : ∀ w ∈ yT, w.before _ s = true := fun w h => hts w (List.mem_cons_of_mem _ h)
  have hl : lv_has ls 5 [(0, .ref (z + 0)), (1, .int (J (c9)))] := hl
  obtain ⟨hW, hK⟩ := hv
  have hS : va_S yN s.heap s.heap [] := va_S.rf
  refine lv_iload_n hx hb d_M_draft_0 rfl (lv_at hl 1 rfl) ?_
  refine lv_iconst (v := J (0)) hx hb d_M_draft_1 rfl ?_
  refine lv_iconst (v := J (3)) hx hb d_M_draft_2 rfl ?_
  refine y_ci (y_runS (As := [.int (J (c9)), .int (J (0)), .int (J (3))]) (rest := []) ⟨hx, hb, hml, hown, hts⟩ (c_M_in l G (c9) (0) (3) hc9 ⟨by omega, by omega⟩ ⟨by omega, by omega⟩) 3 k_co_M_in k_ml_M_110 k_st_M_in k_in_M rfl rfl (by decide +kernel) ⟨Nat.le_of_ble_eq_true rfl, Nat.le_of_ble_eq_true rfl⟩ (yPs0 (yK_bl G) (yK_mv G) hK) rfl hl.1 rfl (Nat.le_of_ble_eq_true rfl) d_M_draft_3 ⟨Nat.zero_le _, Nat.zero_le _⟩) hS hW (fun H locs hW hS => ?_)
  by_cases hq3 : 0 ≤ c9 ∧ c9 ≤ 3
  · skip
    rw [show (if 0 ≤ c9 ∧ c9 ≤ 3 then (1 : Int) else 0) = 1 from if_pos hq3]
    refine y_if_eq (tgt := 49) hx hb d_M_draft_6 (by decide) ⟨by omega, by omega⟩ (fun hc1 => absurd hc1 (by decide)) (fun hc1 => ?_)
    refine lv_iload_n hx hb d_M_draft_9 rfl (lv_at hl 1 rfl) ?_
    refine y_if_ne (tgt := 20) hx hb d_M_draft_10 (by decide) ⟨by omega, by omega⟩ (fun hc2 => ?_) (fun hc2 => ?_)
    · skip
      refine lv_iload_n hx hb d_M_draft_20 rfl (lv_at hl 1 rfl) ?_
      refine lv_iconst (v := J (1)) hx hb d_M_draft_21 rfl ?_
      refine y_icmp_ne (tgt := 32) hx hb d_M_draft_22 (by decide) ⟨by omega, by omega⟩ ⟨by omega, by omega⟩ (fun hc3 => ?_) (fun hc3 => ?_)
      · skip
        refine lv_iload_n hx hb d_M_draft_32 rfl (lv_at hl 1 rfl) ?_
        refine lv_iconst (v := J (2)) hx hb d_M_draft_33 rfl ?_
        refine y_icmp_ne (tgt := 44) hx hb d_M_draft_34 (by decide) ⟨by omega, by omega⟩ ⟨by omega, by omega⟩ (fun hc4 => ?_) (fun hc4 => ?_)
        · skip
          refine lv_aload_n hx hb d_M_draft_44 rfl (lv_at hl 0 rfl) ?_
          refine y_ci (y_runV (As := []) (rest := []) ⟨hx, hb, hml, hown, hts⟩ (c_M_seal l G z τ ns no hns hno hs ho ht hsw how) 0 k_co_M_seal k_ml_M_183 k_im_M_seal k_se_M_seal k_in_M rfl rfl (by decide +kernel) ⟨Nat.le_of_ble_eq_true rfl, Nat.le_of_ble_eq_true rfl⟩ (yPv (yK_bl G) (yK_mv G) hK hK.1 hW (by omega) laym_0 rfl (by omega) (by omega)) rfl hl.1 rfl (Nat.le_of_ble_eq_true rfl) d_M_draft_45 ⟨Nat.zero_le _, Nat.zero_le _⟩) hS hW (fun H locs hW hS => ?_)
          exact y_reti hx hb hr hlocks hS ((if_pos (by omega)).trans ((if_pos (by omega)).trans ((if_neg (by omega)).trans ((if_neg (by omega)).trans (if_neg (by omega)))))).symm d_M_draft_48
        · skip
          refine lv_aload_n hx hb d_M_draft_37 rfl (lv_at hl 0 rfl) ?_
          refine y_geti hx hb hA in_M hown hK.1 hW 0 (by omega) laym_0 rfl 22 (by decide) (hA _ k_fl_M_159) rfl d_M_draft_38 ?_
          refine lv_goto (tgt := 48) hx hb d_M_draft_41 (by decide) ?_
          exact y_reti hx hb hr hlocks hS ((if_pos (by omega)).trans ((if_pos (by omega)).trans ((if_neg (by omega)).trans ((if_neg (by omega)).trans (if_pos (by omega)))))).symm d_M_draft_48
      · skip
        refine lv_aload_n hx hb d_M_draft_25 rfl (lv_at hl 0 rfl) ?_
        refine y_geti hx hb hA in_M hown hK.1 hW 0 (by omega) laym_0 rfl 13 (by decide) (hA _ k_fl_M_156) rfl d_M_draft_26 ?_
        refine lv_goto (tgt := 48) hx hb d_M_draft_29 (by decide) ?_
        exact y_reti hx hb hr hlocks hS ((if_pos (by omega)).trans ((if_pos (by omega)).trans ((if_neg (by omega)).trans (if_pos (by omega))))).symm d_M_draft_48
    · skip
      refine lv_aload_n hx hb d_M_draft_13 rfl (lv_at hl 0 rfl) ?_
      refine y_geti hx hb hA in_M hown hK.1 hW 0 (by omega) laym_0 rfl 4 (by decide) (hA _ k_fl_M_153) rfl d_M_draft_14 ?_
      refine lv_goto (tgt := 48) hx hb d_M_draft_17 (by decide) ?_
      exact y_reti hx hb hr hlocks hS ((if_pos (by omega)).trans ((if_pos (by omega)).trans (if_pos (by omega)))).symm d_M_draft_48
  · skip
    rw [show (if 0 ≤ c9 ∧ c9 ≤ 3 then (1 : Int) else 0) = 0 from if_neg hq3]
    refine y_if_eq (tgt := 49) hx hb d_M_draft_6 (by decide) ⟨by omega, by omega⟩ (fun hc5 => ?_) (fun hc5 => absurd hc5 (by decide))
    refine lv_iload_n hx hb d_M_draft_49 rfl (lv_at hl 1 rfl) ?_
    refine lv_bipush (v := J (8)) hx hb d_M_draft_50 (by decide) ?_
    refine lv_bipush (v := J (21)) hx hb d_M_draft_52 (by decide) ?_
    refine y_ci (y_runS (As := [.int (J (c9)), .int (J (8)), .int (J (21))]) (rest := []) ⟨hx, hb, hml, hown, hts⟩ (c_M_in l G (c9) (8) (21) hc9 ⟨by omega, by omega⟩ ⟨by omega, by omega⟩) 3 k_co_M_in k_ml_M_110 k_st_M_in k_in_M rfl rfl (by decide +kernel) ⟨Nat.le_of_ble_eq_true rfl, Nat.le_of_ble_eq_true rfl⟩ (yPs0 (yK_bl G) (yK_mv G) hK) rfl hl.1 rfl (Nat.le_of_ble_eq_true rfl) d_M_draft_54 ⟨Nat.zero_le _, Nat.zero_le _⟩) hS hW (fun H locs hW hS => ?_)
    by_cases hq54 : 8 ≤ c9 ∧ c9 ≤ 21
    · skip
      rw [show (if 8 ≤ c9 ∧ c9 ≤ 21 then (1 : Int) else 0) = 1 from if_pos hq54]
      refine y_if_eq (tgt := 99) hx hb d_M_draft_57 (by decide) ⟨by omega, by omega⟩ (fun hc6 => absurd hc6 (by decide)) (fun hc6 => ?_)
      refine lv_iload_n hx hb d_M_draft_60 rfl (lv_at hl 1 rfl) ?_
      refine lv_bipush (v := J (8)) hx hb d_M_draft_61 (by decide) ?_
      refine y_isub hx hb d_M_draft_63 ?_
      refine lv_bipush (v := J (7)) hx hb d_M_draft_64 (by decide) ?_
      refine y_idiv hx hb d_M_draft_66 (by omega) (by omega) (by decide) ?_
      refine lv_aload_n hx hb d_M_draft_67 rfl (lv_at hl 0 rfl) ?_
      refine y_geti hx hb hA in_M hown hK.1 hW 0 (by omega) laym_0 rfl 13 (by decide) (hA _ k_fl_M_156) rfl d_M_draft_68 ?_
      rw [ho]
      refine y_icmp_ge (tgt := 95) hx hb d_M_draft_71 (by decide) ⟨by omega, by omega⟩ ⟨by omega, by omega⟩ (fun hc7 => ?_) (fun hc7 => ?_)
      · skip
        refine lv_sipush (v := J (-10000)) hx hb d_M_draft_95 (by decide) ?_
        exact y_reti hx hb hr hlocks hS ((if_pos (by omega)).trans ((if_neg (by omega)).trans ((if_neg (by omega)).trans ((if_pos (by omega)).trans (if_neg (by omega)))))).symm d_M_draft_98
      · skip
        obtain ⟨on, e_on⟩ : ∃ q : Nat, (c9 - 8) / 7 = (q : Int) := ⟨((c9 - 8) / 7).toNat, by omega⟩
        refine lv_aload_n hx hb d_M_draft_74 rfl (lv_at hl 0 rfl) ?_
        refine lv_iload_n hx hb d_M_draft_75 rfl (lv_at hl 1 rfl) ?_
        refine lv_bipush (v := J (8)) hx hb d_M_draft_76 (by decide) ?_
        refine y_isub hx hb d_M_draft_78 ?_
        refine lv_bipush (v := J (7)) hx hb d_M_draft_79 (by decide) ?_
        refine y_idiv hx hb d_M_draft_81 (by omega) (by omega) (by decide) ?_
        refine lv_iload_n hx hb d_M_draft_82 rfl (lv_at hl 1 rfl) ?_
        refine lv_bipush (v := J (8)) hx hb d_M_draft_83 (by decide) ?_
        refine y_isub hx hb d_M_draft_85 ?_
        refine lv_bipush (v := J (7)) hx hb d_M_draft_86 (by decide) ?_
        refine y_irem hx hb d_M_draft_88 (by omega) (by omega) (by decide) ?_
        refine W.eq (g2 := F0 m 89 ls [.int (J ((c9 - 8) % 7)), .int (J ((on : Int))), .ref (z + 0)]) (by rw [e_on]) ?_
        refine y_ci (y_runV (As := [.int (J ((on : Int))), .int (J ((c9 - 8) % 7))]) (rest := []) ⟨hx, hb, hml, hown, hts⟩ (c_M_outputPart l G z τ hTb on (by omega) (hov on (by omega)) (how on (by omega)) (hoe on (by omega)) ((c9 - 8) % 7) (by omega)) 2 k_co_M_outputPart k_ml_M_195 k_im_M_outputPart k_se_M_outputPart k_in_M rfl rfl (by decide +kernel) ⟨Nat.le_of_ble_eq_true rfl, Nat.le_of_ble_eq_true rfl⟩ (yPv (yK_bl G) (yK_mv G) hK hK.1 hW (by omega) laym_0 rfl (by omega) (by omega)) rfl hl.1 rfl (Nat.le_of_ble_eq_true rfl) d_M_draft_89 ⟨Nat.zero_le _, Nat.zero_le _⟩) hS hW (fun H locs hW hS => ?_)
        refine lv_goto (tgt := 98) hx hb d_M_draft_92 (by decide) ?_
        exact y_reti hx hb hr hlocks hS ((if_pos (by omega)).trans ((if_neg (by omega)).trans ((if_neg (by omega)).trans ((if_pos (by omega)).trans (by rw [show ((c9 - 8) / 7).toNat = on by omega]; exact if_pos (by omega)))))).symm d_M_draft_98
    · skip
      rw [show (if 8 ≤ c9 ∧ c9 ≤ 21 then (1 : Int) else 0) = 0 from if_neg hq54]
      refine y_if_eq (tgt := 99) hx hb d_M_draft_57 (by decide) ⟨by omega, by omega⟩ (fun hc8 => ?_) (fun hc8 => absurd hc8 (by decide))
      refine lv_iload_n hx hb d_M_draft_99 rfl (lv_at hl 1 rfl) ?_
      refine lv_iconst (v := J (4)) hx hb d_M_draft_100 rfl ?_
      refine lv_bipush (v := J (7)) hx hb d_M_draft_101 (by decide) ?_
      refine y_ci (y_runS (As := [.int (J (c9)), .int (J (4)), .int (J (7))]) (rest := []) ⟨hx, hb, hml, hown, hts⟩ (c_M_in l G (c9) (4) (7) hc9 ⟨by omega, by omega⟩ ⟨by omega, by omega⟩) 3 k_co_M_in k_ml_M_110 k_st_M_in k_in_M rfl rfl (by decide +kernel) ⟨Nat.le_of_ble_eq_true rfl, Nat.le_of_ble_eq_true rfl⟩ (yPs0 (yK_bl G) (yK_mv G) hK) rfl hl.1 rfl (Nat.le_of_ble_eq_true rfl) d_M_draft_103 ⟨Nat.zero_le _, Nat.zero_le _⟩) hS hW (fun H locs hW hS => ?_)
      by_cases hq103 : 4 ≤ c9 ∧ c9 ≤ 7
      · skip
        rw [show (if 4 ≤ c9 ∧ c9 ≤ 7 then (1 : Int) else 0) = 1 from if_pos hq103]
        refine y_if_eq (tgt := 117) hx hb d_M_draft_106 (by decide) ⟨by omega, by omega⟩ (fun hc9 => absurd hc9 (by decide)) (fun hc9 => ?_)
        refine lv_iload_n hx hb d_M_draft_109 rfl (lv_at hl 1 rfl) ?_
        refine lv_iconst (v := J (4)) hx hb d_M_draft_110 rfl ?_
        refine y_isub hx hb d_M_draft_111 ?_
        refine lv_iconst (v := J (2)) hx hb d_M_draft_112 rfl ?_
        refine y_idiv hx hb d_M_draft_113 (by omega) (by omega) (by decide) ?_
        refine lv_goto (tgt := 138) hx hb d_M_draft_114 (by decide) ?_
        refine lv_istore_n (lv' := [(2, .int (J ((c9 - 4) / 2))), (0, .ref (z + 0)), (1, .int (J (c9)))]) hx hb d_M_draft_138 rfl hl (by decide) rfl (fun ls hl => ?_)
        refine lv_iload_n hx hb d_M_draft_139 rfl (lv_at hl 0 rfl) ?_
        refine lv_aload_n hx hb d_M_draft_140 rfl (lv_at hl 1 rfl) ?_
        refine y_geti hx hb hA in_M hown hK.1 hW 0 (by omega) laym_0 rfl 4 (by decide) (hA _ k_fl_M_153) rfl d_M_draft_141 ?_
        rw [hs]
        refine y_icmp_lt (tgt := 151) hx hb d_M_draft_144 (by decide) ⟨by omega, by omega⟩ ⟨by omega, by omega⟩ (fun hc10 => ?_) (fun hc10 => ?_)
        · skip
          obtain ⟨jn, e_jn⟩ : ∃ q : Nat, ((c9 - 4) / 2) = (q : Int) := ⟨(((c9 - 4) / 2)).toNat, by omega⟩
          have hv1 := hsv jn (by omega)
          have hw1 := hsw jn (by omega)
          obtain ⟨m8, e_m8⟩ : ∃ q : Nat, (q : Int) = (τ 6 jn * 1281 + τ 8 jn * 1369) % 2473 := ⟨((τ 6 jn * 1281 + τ 8 jn * 1369) % 2473).toNat, by omega⟩
          refine lv_aload_n hx hb d_M_draft_151 rfl (lv_at hl 1 rfl) ?_
          refine y_getr hx hb hA in_M hown hK.1 hW 0 (by omega) laym_0 rfl 7 (by decide) (hA _ k_fl_M_25) rfl d_M_draft_152 ?_
          refine lv_iload_n hx hb d_M_draft_155 rfl (lv_at hl 0 rfl) ?_
          refine y_iald hx hb hK.1 hW 6 (by omega) laym_6 rfl (by decide) jn (by omega) (by omega) d_M_draft_156 ?_
          refine lv_aload_n hx hb d_M_draft_157 rfl (lv_at hl 1 rfl) ?_
          refine y_getr hx hb hA in_M hown hK.1 hW 0 (by omega) laym_0 rfl 9 (by decide) (hA _ k_fl_M_31) rfl d_M_draft_158 ?_
          refine lv_iload_n hx hb d_M_draft_161 rfl (lv_at hl 0 rfl) ?_
          refine y_iald hx hb hK.1 hW 8 (by omega) laym_8 rfl (by decide) jn (by omega) (by omega) d_M_draft_162 ?_
          refine y_ci (y_runS (As := [.int (J (τ 6 jn)), .int (J (τ 8 jn))]) (rest := []) ⟨hx, hb, hml, hown, hts⟩ (c_M_cover l G (τ 6 jn) (τ 8 jn) (by omega) (by omega)) 2 k_co_M_cover k_ml_M_171 k_st_M_cover k_in_M rfl rfl (by decide +kernel) ⟨Nat.le_of_ble_eq_true rfl, Nat.le_of_ble_eq_true rfl⟩ (yPs0 (yK_bl G) (yK_mv G) hK) rfl hl.1 rfl (Nat.le_of_ble_eq_true rfl) d_M_draft_163 ⟨Nat.zero_le _, Nat.zero_le _⟩) hS hW (fun H locs hW hS => ?_)
          refine lv_istore_n (lv' := [(3, .int (J (((τ 6 jn) * 1281 + (τ 8 jn) * 1369) % 2473))), (2, .int (J ((c9 - 4) / 2))), (0, .ref (z + 0)), (1, .int (J (c9)))]) hx hb d_M_draft_166 rfl hl (by decide) rfl (fun ls hl => ?_)
          refine lv_iload_n hx hb d_M_draft_167 rfl (lv_at hl 3 rfl) ?_
          refine lv_iconst (v := J (2)) hx hb d_M_draft_168 rfl ?_
          refine y_irem hx hb d_M_draft_169 (by omega) (by omega) (by decide) ?_
          refine y_if_ne (tgt := 177) hx hb d_M_draft_170 (by decide) ⟨by omega, by omega⟩ (fun hc11 => ?_) (fun hc11 => ?_)
          · skip
            refine lv_iconst (v := J (0)) hx hb d_M_draft_177 rfl ?_
            refine lv_istore (lv' := [(4, .int (J (0))), (3, .int (J (((τ 6 jn) * 1281 + (τ 8 jn) * 1369) % 2473))), (2, .int (J ((c9 - 4) / 2))), (0, .ref (z + 0)), (1, .int (J (c9)))]) hx hb d_M_draft_178 hl (by decide) rfl (fun ls hl => ?_)
            refine lv_iload_n hx hb d_M_draft_180 rfl (lv_at hl 4 rfl) ?_
            refine lv_bipush (v := J (8)) hx hb d_M_draft_181 (by decide) ?_
            refine y_icmp_ge (tgt := 207) hx hb d_M_draft_183 (by decide) ⟨by omega, by omega⟩ ⟨by omega, by omega⟩ (fun hc12 => absurd hc12 (by omega)) (fun hc12 => ?_)
            refine lv_iload hx hb d_M_draft_186 (lv_at hl 0 rfl) ?_
            refine y_if_eq (tgt := 200) hx hb d_M_draft_188 (by decide) ⟨by omega, by omega⟩ (fun hc13 => ?_) (fun hc13 => absurd hc13 (by decide))
            refine lv_aload_n hx hb d_M_draft_200 rfl (lv_at hl 3 rfl) ?_
            refine y_getr hx hb hA in_M hown hK.1 hW 0 (by omega) laym_0 rfl 1 (by decide) (hA _ k_fl_M_13) rfl d_M_draft_201 ?_
            refine lv_iload_n hx hb d_M_draft_204 rfl (lv_at hl 1 rfl) ?_
            refine y_iald hx hb hK.1 hW 2 (by omega) laym_2 rfl (by decide) m8 (by omega) (by omega) d_M_draft_205 ?_
            rw [mT_y hTb e_m8]
            exact y_reti hx hb hr hlocks hS ((if_pos (by omega)).trans ((if_neg (by omega)).trans ((if_pos (by omega)).trans (by rw [show ((c9 - 4) / 2).toNat = jn by omega]; exact (if_pos (by omega)).trans (if_neg (by omega)))))).symm d_M_draft_206
          · skip
            refine lv_iconst (v := J (1)) hx hb d_M_draft_173 rfl ?_
            refine lv_goto (tgt := 178) hx hb d_M_draft_174 (by decide) ?_
            refine lv_istore (lv' := [(4, .int (J (1))), (3, .int (J (((τ 6 jn) * 1281 + (τ 8 jn) * 1369) % 2473))), (2, .int (J ((c9 - 4) / 2))), (0, .ref (z + 0)), (1, .int (J (c9)))]) hx hb d_M_draft_178 hl (by decide) rfl (fun ls hl => ?_)
            refine lv_iload_n hx hb d_M_draft_180 rfl (lv_at hl 4 rfl) ?_
            refine lv_bipush (v := J (8)) hx hb d_M_draft_181 (by decide) ?_
            refine y_icmp_ge (tgt := 207) hx hb d_M_draft_183 (by decide) ⟨by omega, by omega⟩ ⟨by omega, by omega⟩ (fun hc14 => absurd hc14 (by omega)) (fun hc14 => ?_)
            refine lv_iload hx hb d_M_draft_186 (lv_at hl 0 rfl) ?_
            refine y_if_eq (tgt := 200) hx hb d_M_draft_188 (by decide) ⟨by omega, by omega⟩ (fun hc15 => absurd hc15 (by decide)) (fun hc15 => ?_)
            refine lv_aload_n hx hb d_M_draft_191 rfl (lv_at hl 3 rfl) ?_
            refine y_getr hx hb hA in_M hown hK.1 hW 0 (by omega) laym_0 rfl 0 (by decide) (hA _ k_fl_M_7) rfl d_M_draft_192 ?_
            refine lv_iload_n hx hb d_M_draft_195 rfl (lv_at hl 1 rfl) ?_
            refine y_iald hx hb hK.1 hW 1 (by omega) laym_1 rfl (by decide) m8 (by omega) (by omega) d_M_draft_196 ?_
            rw [mT_x hTb e_m8]
            refine lv_goto (tgt := 206) hx hb d_M_draft_197 (by decide) ?_
            exact y_reti hx hb hr hlocks hS ((if_pos (by omega)).trans ((if_neg (by omega)).trans ((if_pos (by omega)).trans (by rw [show ((c9 - 4) / 2).toNat = jn by omega]; exact (if_pos (by omega)).trans (if_pos (by omega)))))).symm d_M_draft_206
        · skip
          refine lv_sipush (v := J (-10000)) hx hb d_M_draft_147 (by decide) ?_
          exact y_reti hx hb hr hlocks hS ((if_pos (by omega)).trans ((if_neg (by omega)).trans ((if_pos (by omega)).trans (if_neg (by omega))))).symm d_M_draft_150
      · skip
        rw [show (if 4 ≤ c9 ∧ c9 ≤ 7 then (1 : Int) else 0) = 0 from if_neg hq103]
        refine y_if_eq (tgt := 117) hx hb d_M_draft_106 (by decide) ⟨by omega, by omega⟩ (fun hc16 => ?_) (fun hc16 => absurd hc16 (by decide))
        refine lv_iload_n hx hb d_M_draft_117 rfl (lv_at hl 1 rfl) ?_
        refine lv_bipush (v := J (22)) hx hb d_M_draft_118 (by decide) ?_
        refine lv_bipush (v := J (25)) hx hb d_M_draft_120 (by decide) ?_
        refine y_ci (y_runS (As := [.int (J (c9)), .int (J (22)), .int (J (25))]) (rest := []) ⟨hx, hb, hml, hown, hts⟩ (c_M_in l G (c9) (22) (25) hc9 ⟨by omega, by omega⟩ ⟨by omega, by omega⟩) 3 k_co_M_in k_ml_M_110 k_st_M_in k_in_M rfl rfl (by decide +kernel) ⟨Nat.le_of_ble_eq_true rfl, Nat.le_of_ble_eq_true rfl⟩ (yPs0 (yK_bl G) (yK_mv G) hK) rfl hl.1 rfl (Nat.le_of_ble_eq_true rfl) d_M_draft_122 ⟨Nat.zero_le _, Nat.zero_le _⟩) hS hW (fun H locs hW hS => ?_)
        by_cases hq122 : 22 ≤ c9 ∧ c9 ≤ 25
        · skip
          rw [show (if 22 ≤ c9 ∧ c9 ≤ 25 then (1 : Int) else 0) = 1 from if_pos hq122]
          refine y_if_eq (tgt := 137) hx hb d_M_draft_125 (by decide) ⟨by omega, by omega⟩ (fun hc17 => absurd hc17 (by decide)) (fun hc17 => ?_)
          refine lv_iload_n hx hb d_M_draft_128 rfl (lv_at hl 1 rfl) ?_
          refine lv_bipush (v := J (22)) hx hb d_M_draft_129 (by decide) ?_
          refine y_isub hx hb d_M_draft_131 ?_
          refine lv_iconst (v := J (2)) hx hb d_M_draft_132 rfl ?_
          refine y_idiv hx hb d_M_draft_133 (by omega) (by omega) (by decide) ?_
          refine lv_goto (tgt := 138) hx hb d_M_draft_134 (by decide) ?_
          refine lv_istore_n (lv' := [(2, .int (J ((c9 - 22) / 2))), (0, .ref (z + 0)), (1, .int (J (c9)))]) hx hb d_M_draft_138 rfl hl (by decide) rfl (fun ls hl => ?_)
          refine lv_iload_n hx hb d_M_draft_139 rfl (lv_at hl 0 rfl) ?_
          refine lv_aload_n hx hb d_M_draft_140 rfl (lv_at hl 1 rfl) ?_
          refine y_geti hx hb hA in_M hown hK.1 hW 0 (by omega) laym_0 rfl 4 (by decide) (hA _ k_fl_M_153) rfl d_M_draft_141 ?_
          rw [hs]
          refine y_icmp_lt (tgt := 151) hx hb d_M_draft_144 (by decide) ⟨by omega, by omega⟩ ⟨by omega, by omega⟩ (fun hc18 => ?_) (fun hc18 => ?_)
          · skip
            obtain ⟨jn, e_jn⟩ : ∃ q : Nat, ((c9 - 22) / 2) = (q : Int) := ⟨(((c9 - 22) / 2)).toNat, by omega⟩
            have hv1 := hsv jn (by omega)
            have hw1 := hsw jn (by omega)
            obtain ⟨m8, e_m8⟩ : ∃ q : Nat, (q : Int) = (τ 6 jn * 1281 + τ 8 jn * 1369) % 2473 := ⟨((τ 6 jn * 1281 + τ 8 jn * 1369) % 2473).toNat, by omega⟩
            refine lv_aload_n hx hb d_M_draft_151 rfl (lv_at hl 1 rfl) ?_
            refine y_getr hx hb hA in_M hown hK.1 hW 0 (by omega) laym_0 rfl 7 (by decide) (hA _ k_fl_M_25) rfl d_M_draft_152 ?_
            refine lv_iload_n hx hb d_M_draft_155 rfl (lv_at hl 0 rfl) ?_
            refine y_iald hx hb hK.1 hW 6 (by omega) laym_6 rfl (by decide) jn (by omega) (by omega) d_M_draft_156 ?_
            refine lv_aload_n hx hb d_M_draft_157 rfl (lv_at hl 1 rfl) ?_
            refine y_getr hx hb hA in_M hown hK.1 hW 0 (by omega) laym_0 rfl 9 (by decide) (hA _ k_fl_M_31) rfl d_M_draft_158 ?_
            refine lv_iload_n hx hb d_M_draft_161 rfl (lv_at hl 0 rfl) ?_
            refine y_iald hx hb hK.1 hW 8 (by omega) laym_8 rfl (by decide) jn (by omega) (by omega) d_M_draft_162 ?_
            refine y_ci (y_runS (As := [.int (J (τ 6 jn)), .int (J (τ 8 jn))]) (rest := []) ⟨hx, hb, hml, hown, hts⟩ (c_M_cover l G (τ 6 jn) (τ 8 jn) (by omega) (by omega)) 2 k_co_M_cover k_ml_M_171 k_st_M_cover k_in_M rfl rfl (by decide +kernel) ⟨Nat.le_of_ble_eq_true rfl, Nat.le_of_ble_eq_true rfl⟩ (yPs0 (yK_bl G) (yK_mv G) hK) rfl hl.1 rfl (Nat.le_of_ble_eq_true rfl) d_M_draft_163 ⟨Nat.zero_le _, Nat.zero_le _⟩) hS hW (fun H locs hW hS => ?_)
            refine lv_istore_n (lv' := [(3, .int (J (((τ 6 jn) * 1281 + (τ 8 jn) * 1369) % 2473))), (2, .int (J ((c9 - 22) / 2))), (0, .ref (z + 0)), (1, .int (J (c9)))]) hx hb d_M_draft_166 rfl hl (by decide) rfl (fun ls hl => ?_)
            refine lv_iload_n hx hb d_M_draft_167 rfl (lv_at hl 3 rfl) ?_
            refine lv_iconst (v := J (2)) hx hb d_M_draft_168 rfl ?_
            refine y_irem hx hb d_M_draft_169 (by omega) (by omega) (by decide) ?_
            refine y_if_ne (tgt := 177) hx hb d_M_draft_170 (by decide) ⟨by omega, by omega⟩ (fun hc19 => ?_) (fun hc19 => ?_)
            · skip
              refine lv_iconst (v := J (0)) hx hb d_M_draft_177 rfl ?_
              refine lv_istore (lv' := [(4, .int (J (0))), (3, .int (J (((τ 6 jn) * 1281 + (τ 8 jn) * 1369) % 2473))), (2, .int (J ((c9 - 22) / 2))), (0, .ref (z + 0)), (1, .int (J (c9)))]) hx hb d_M_draft_178 hl (by decide) rfl (fun ls hl => ?_)
              refine lv_iload_n hx hb d_M_draft_180 rfl (lv_at hl 4 rfl) ?_
              refine lv_bipush (v := J (8)) hx hb d_M_draft_181 (by decide) ?_
              refine y_icmp_ge (tgt := 207) hx hb d_M_draft_183 (by decide) ⟨by omega, by omega⟩ ⟨by omega, by omega⟩ (fun hc20 => ?_) (fun hc20 => absurd hc20 (by omega))
              refine lv_iload hx hb d_M_draft_207 (lv_at hl 0 rfl) ?_
              refine y_if_eq (tgt := 221) hx hb d_M_draft_209 (by decide) ⟨by omega, by omega⟩ (fun hc21 => ?_) (fun hc21 => absurd hc21 (by decide))
              refine lv_aload_n hx hb d_M_draft_221 rfl (lv_at hl 3 rfl) ?_
              refine y_getr hx hb hA in_M hown hK.1 hW 0 (by omega) laym_0 rfl 11 (by decide) (hA _ k_fl_M_37) rfl d_M_draft_222 ?_
              refine lv_iload_n hx hb d_M_draft_225 rfl (lv_at hl 2 rfl) ?_
              refine y_iald hx hb hK.1 hW 10 (by omega) laym_10 rfl (by decide) jn (by omega) (by omega) d_M_draft_226 ?_
              exact y_reti hx hb hr hlocks hS ((if_pos (by omega)).trans ((if_neg (by omega)).trans ((if_neg (by omega)).trans ((if_neg (by omega)).trans (by rw [show ((c9 - 22) / 2).toNat = jn by omega]; exact (if_pos (by omega)).trans (if_neg (by omega))))))).symm d_M_draft_227
            · skip
              refine lv_iconst (v := J (1)) hx hb d_M_draft_173 rfl ?_
              refine lv_goto (tgt := 178) hx hb d_M_draft_174 (by decide) ?_
              refine lv_istore (lv' := [(4, .int (J (1))), (3, .int (J (((τ 6 jn) * 1281 + (τ 8 jn) * 1369) % 2473))), (2, .int (J ((c9 - 22) / 2))), (0, .ref (z + 0)), (1, .int (J (c9)))]) hx hb d_M_draft_178 hl (by decide) rfl (fun ls hl => ?_)
              refine lv_iload_n hx hb d_M_draft_180 rfl (lv_at hl 4 rfl) ?_
              refine lv_bipush (v := J (8)) hx hb d_M_draft_181 (by decide) ?_
              refine y_icmp_ge (tgt := 207) hx hb d_M_draft_183 (by decide) ⟨by omega, by omega⟩ ⟨by omega, by omega⟩ (fun hc22 => ?_) (fun hc22 => absurd hc22 (by omega))
              refine lv_iload hx hb d_M_draft_207 (lv_at hl 0 rfl) ?_
              refine y_if_eq (tgt := 221) hx hb d_M_draft_209 (by decide) ⟨by omega, by omega⟩ (fun hc23 => absurd hc23 (by decide)) (fun hc23 => ?_)
              refine lv_aload_n hx hb d_M_draft_212 rfl (lv_at hl 3 rfl) ?_
              refine y_getr hx hb hA in_M hown hK.1 hW 0 (by omega) laym_0 rfl 10 (by decide) (hA _ k_fl_M_34) rfl d_M_draft_213 ?_
              refine lv_iload_n hx hb d_M_draft_216 rfl (lv_at hl 2 rfl) ?_
              refine y_iald hx hb hK.1 hW 9 (by omega) laym_9 rfl (by decide) jn (by omega) (by omega) d_M_draft_217 ?_
              refine lv_goto (tgt := 227) hx hb d_M_draft_218 (by decide) ?_
              exact y_reti hx hb hr hlocks hS ((if_pos (by omega)).trans ((if_neg (by omega)).trans ((if_neg (by omega)).trans ((if_neg (by omega)).trans (by rw [show ((c9 - 22) / 2).toNat = jn by omega]; exact (if_pos (by omega)).trans (if_pos (by omega))))))).symm d_M_draft_227
          · skip
            refine lv_sipush (v := J (-10000)) hx hb d_M_draft_147 (by decide) ?_
            exact y_reti hx hb hr hlocks hS ((if_pos (by omega)).trans ((if_neg (by omega)).trans ((if_neg (by omega)).trans ((if_neg (by omega)).trans (if_neg (by omega)))))).symm d_M_draft_150
        · skip
          rw [show (if 22 ≤ c9 ∧ c9 ≤ 25 then (1 : Int) else 0) = 0 from if_neg hq122]
          refine y_if_eq (tgt := 137) hx hb d_M_draft_125 (by decide) ⟨by omega, by omega⟩ (fun hc24 => ?_) (fun hc24 => absurd hc24 (by decide))
          refine lv_iconst (v := J (2)) hx hb d_M_draft_137 rfl ?_
          refine lv_istore_n (lv' := [(2, .int (J (2))), (0, .ref (z + 0)), (1, .int (J (c9)))]) hx hb d_M_draft_138 rfl hl (by decide) rfl (fun ls hl => ?_)
          refine lv_iload_n hx hb d_M_draft_139 rfl (lv_at hl 0 rfl) ?_
          refine lv_aload_n hx hb d_M_draft_140 rfl (lv_at hl 1 rfl) ?_
          refine y_geti hx hb hA in_M hown hK.1 hW 0 (by omega) laym_0 rfl 4 (by decide) (hA _ k_fl_M_153) rfl d_M_draft_141 ?_
          rw [hs]
          refine y_icmp_lt (tgt := 151) hx hb d_M_draft_144 (by decide) ⟨by omega, by omega⟩ ⟨by omega, by omega⟩ (fun hc25 => absurd hc25 (by omega)) (fun hc25 => ?_)
          refine lv_sipush (v := J (-10000)) hx hb d_M_draft_147 (by decide) ?_
          exact y_reti hx hb hr hlocks hS (if_neg (by omega)).symm d_M_draft_150
