theorem d_M_isRoot_0 : decode b_M_isRoot 0 = .ok (.aload_n 0, 1) := by decide +kernel
theorem d_M_isRoot_1 : decode b_M_isRoot 1 = .ok (.iconst 0, 1) := by decide +kernel
theorem d_M_isRoot_2 : decode b_M_isRoot 2 = .ok (.iconst 4, 1) := by decide +kernel
theorem d_M_isRoot_3 : decode b_M_isRoot 3 = .ok (.iconst 0, 1) := by decide +kernel
theorem d_M_isRoot_4 : decode b_M_isRoot 4 = .ok (.invokevirtual 118, 3) := by decide +kernel
theorem d_M_isRoot_7 : decode b_M_isRoot 7 = .ok (.iload_n 1, 1) := by decide +kernel
theorem d_M_isRoot_8 : decode b_M_isRoot 8 = .ok (.if_icmp .ne 7, 3) := by decide +kernel
theorem d_M_isRoot_11 : decode b_M_isRoot 11 = .ok (.iconst 1, 1) := by decide +kernel
theorem d_M_isRoot_12 : decode b_M_isRoot 12 = .ok (.goto 4, 3) := by decide +kernel
theorem d_M_isRoot_15 : decode b_M_isRoot 15 = .ok (.iconst 0, 1) := by decide +kernel
theorem d_M_isRoot_16 : decode b_M_isRoot 16 = .ok (.istore_n 2, 1) := by decide +kernel
theorem d_M_isRoot_17 : decode b_M_isRoot 17 = .ok (.iconst 0, 1) := by decide +kernel
theorem d_M_isRoot_18 : decode b_M_isRoot 18 = .ok (.istore_n 3, 1) := by decide +kernel
theorem d_M_isRoot_19 : decode b_M_isRoot 19 = .ok (.iload_n 3, 1) := by decide +kernel
theorem d_M_isRoot_20 : decode b_M_isRoot 20 = .ok (.aload_n 0, 1) := by decide +kernel
theorem d_M_isRoot_21 : decode b_M_isRoot 21 = .ok (.getfield 106, 3) := by decide +kernel
theorem d_M_isRoot_24 : decode b_M_isRoot 24 = .ok (.if_icmp .ge 35, 3) := by decide +kernel
theorem d_M_isRoot_27 : decode b_M_isRoot 27 = .ok (.iload_n 2, 1) := by decide +kernel
theorem d_M_isRoot_28 : decode b_M_isRoot 28 = .ok (.ifCond .ne 19, 3) := by decide +kernel
theorem d_M_isRoot_31 : decode b_M_isRoot 31 = .ok (.aload_n 0, 1) := by decide +kernel
theorem d_M_isRoot_32 : decode b_M_isRoot 32 = .ok (.aload_n 0, 1) := by decide +kernel
theorem d_M_isRoot_33 : decode b_M_isRoot 33 = .ok (.getfield 67, 3) := by decide +kernel
theorem d_M_isRoot_36 : decode b_M_isRoot 36 = .ok (.iload_n 3, 1) := by decide +kernel
theorem d_M_isRoot_37 : decode b_M_isRoot 37 = .ok (.iaload, 1) := by decide +kernel
theorem d_M_isRoot_38 : decode b_M_isRoot 38 = .ok (.iconst 4, 1) := by decide +kernel
theorem d_M_isRoot_39 : decode b_M_isRoot 39 = .ok (.iconst 0, 1) := by decide +kernel
theorem d_M_isRoot_40 : decode b_M_isRoot 40 = .ok (.invokevirtual 118, 3) := by decide +kernel
theorem d_M_isRoot_43 : decode b_M_isRoot 43 = .ok (.iload_n 1, 1) := by decide +kernel
theorem d_M_isRoot_44 : decode b_M_isRoot 44 = .ok (.if_icmp .ne 7, 3) := by decide +kernel
theorem d_M_isRoot_47 : decode b_M_isRoot 47 = .ok (.iconst 1, 1) := by decide +kernel
theorem d_M_isRoot_48 : decode b_M_isRoot 48 = .ok (.goto 4, 3) := by decide +kernel
theorem d_M_isRoot_51 : decode b_M_isRoot 51 = .ok (.iconst 0, 1) := by decide +kernel
theorem d_M_isRoot_52 : decode b_M_isRoot 52 = .ok (.istore_n 2, 1) := by decide +kernel
theorem d_M_isRoot_53 : decode b_M_isRoot 53 = .ok (.iinc 3 1, 3) := by decide +kernel
theorem d_M_isRoot_56 : decode b_M_isRoot 56 = .ok (.goto (-37), 3) := by decide +kernel
theorem d_M_isRoot_59 : decode b_M_isRoot 59 = .ok (.iload_n 2, 1) := by decide +kernel
theorem d_M_isRoot_60 : decode b_M_isRoot 60 = .ok (.ireturn, 1) := by decide +kernel

set_option maxHeartbeats 4000000 in
set_option maxRecDepth 100000 in
theorem c_M_isRoot (l : Launch) (G : yG) (z : Nat) (τ : yM) (hTb : mTb τ) (nb : Nat) (hnbr : nb ≤ 12) (hnb : τ 0 24 = (nb : Int)) (up : Nat → Nat) (hup : ∀ b, b < nb → up b ≤ 16 ∧ τ 20 b = (up b : Int) ∧ ∀ i, i < up b → 0 ≤ τ 23 i ∧ τ 23 i < 10009) (r : Int) (hr9 : jr r) : Met l y_M_isRoot (Cond.code y_M_isRoot b_M_isRoot 4 (some .boolean) :: yT) ({ frames := 2, cells := 0, slots := 0, locals := 48 } : Room) (yP ycl G yLM 0 28 z τ (yK G) [.ref (z + 0), .int (J (r))]) (yQg ycl G yLM 0 28 z (fun v ρ => v = b01 (rootM τ up r nb) ∧ ∀ d, d ≠ 27 → ρ d = τ d)) 0 0 (yA z 0 28) := by
  refine y_met (by decide +kernel) (Nat.le_of_ble_eq_true rfl) ?_
  intro p e s m below meth c ls hx hb hr hml hlocks hown hname hts hv hl
  have hA : ∀ w ∈ yT, w.before _ s = true := fun w h => hts w (List.mem_cons_of_mem _ h)
  have hl : lv_has ls 4 [(0, .ref (z + 0)), (1, .int (J (r)))] := hl
  obtain ⟨hW, hK⟩ := hv
  have hS : va_S (yA z 0 28) s.heap s.heap [] := va_S.rf
  have hAr : ∀ d, 0 ≤ d ∧ d < 0 + 28 → yA z 0 28 (z + d) := yA_all
  refine lv_aload_n hx hb d_M_isRoot_0 rfl (lv_at hl 0 rfl) ?_
  refine lv_iconst (v := J (0)) hx hb d_M_isRoot_1 rfl ?_
  refine lv_iconst (v := J (4)) hx hb d_M_isRoot_2 rfl ?_
  refine lv_iconst (v := J (0)) hx hb d_M_isRoot_3 rfl ?_
  refine y_cg (y_runV (As := [.int (J (0)), .int (J (4)), .int (J (0))]) (rest := []) ⟨hx, hb, hml, hown, hts⟩ (c_M_nodeOf l G z τ hTb 0 4 0 (by decide) (by decide) (by decide) (fun i hi => absurd hi (Nat.not_lt_zero i))) 3 k_co_M_nodeOf k_ml_M_118 k_im_M_nodeOf k_se_M_nodeOf k_in_M rfl rfl (by decide +kernel) ⟨Nat.le_of_ble_eq_true rfl, Nat.le_of_ble_eq_true rfl⟩ (yPv (yK_bl G) (yK_mv G) hK hK.1 hW (by omega) laym_0 rfl (by omega) (by omega)) rfl hl.1 rfl (Nat.le_of_ble_eq_true rfl) d_M_isRoot_4 ⟨Nat.zero_le _, Nat.zero_le _⟩) hS hAr (fun v4 τ4 H locs hp4 hk4 hW hS => ?_)
  have l0 : ∀ i, 0 ≤ lfm τ 0 i ∧ lfm τ 0 i < 10009 := by intro i; unfold lfm; rw [if_neg (by omega)]; decide
  have n4 := nd_rng l0 4 0
  rw [← hp4.1] at n4
  refine lv_iload_n hx hb d_M_isRoot_7 rfl (lv_at hl 1 rfl) ?_
  refine y_icmp_ne (tgt := 15) hx hb d_M_isRoot_8 (by decide) ⟨by omega, by omega⟩ hr9 (fun hce => ?_) (fun hce => ?_)
  · skip
    refine lv_iconst (v := J (0)) hx hb d_M_isRoot_15 rfl ?_
    refine lv_istore_n (lv' := [(2, .int (J (0))), (0, .ref (z + 0)), (1, .int (J (r)))]) hx hb d_M_isRoot_16 rfl hl (by decide) rfl (fun ls hl => ?_)
    refine lv_iconst (v := J (0)) hx hb d_M_isRoot_17 rfl ?_
    refine lv_istore_n (lv' := [(3, .int (J (0))), (2, .int (J (0))), (0, .ref (z + 0)), (1, .int (J (r)))]) hx hb d_M_isRoot_18 rfl hl (by decide) rfl (fun ls hl => ?_)
    have loop19 : ∀ (q9 n : Nat), n + q9 = nb → ∀ (ρ : yM), (∀ d, d ≠ 27 → ρ d = τ d) → ∀ (h : Int), (h = 0 ∨ h = 1) → (h = 1 → rootM τ up r n) → (h = 0 → ¬ rootM τ up r n) → ∀ (ls : Array Slot) (H : Heap) (locs : List Loc), yW ycl G yLM 0 28 z ρ H → va_S (yA z 0 28) s.heap H locs → lv_has ls 4 [(3, .int (J (((n : Nat) : Int)))), (2, .int (J (h))), (0, .ref (z + 0)), (1, .int (J (r)))] → W p l e ({ frames := 2, cells := 0, slots := 0, locals := 48 } : Room) s m ([.ref (z + 0), .int (J (r))] : List Value).toArray below meth c H locs 0 0 (MQ below (yQg ycl G yLM 0 28 z (fun v ρ => v = b01 (rootM τ up r nb) ∧ ∀ d, d ≠ 27 → ρ d = τ d)) ([.ref (z + 0), .int (J (r))] : List Value).toArray s 0 0 (yA z 0 28)) (F0 m 19 ls []) := by
      intro q9
      induction q9 with
      | zero =>
        intro n hnk ρ hF h h01 hI1 hI0 ls H locs hW hS hl
        have hnN : nb = n := by omega
        subst hnN
        refine lv_iload_n hx hb d_M_isRoot_19 rfl (lv_at hl 0 rfl) ?_
        refine lv_aload_n hx hb d_M_isRoot_20 rfl (lv_at hl 2 rfl) ?_
        refine y_geti hx hb hA in_M hown hK.1 hW 0 (by omega) laym_0 rfl 24 (by decide) (hA _ k_fl_M_106) rfl d_M_isRoot_21 ?_
        rw [hF 0 (by omega)]
        rw [hnb]
        refine y_icmp_ge (tgt := 59) hx hb d_M_isRoot_24 (by decide) ⟨by omega, by omega⟩ ⟨by omega, by omega⟩ (fun hc2 => ?_) (fun hc2 => absurd hc2 (by omega))
        refine lv_iload_n hx hb d_M_isRoot_59 rfl (lv_at hl 1 rfl) ?_
        exact y_retgz hx hb hr hlocks hS hW (by omega) ⟨h01.elim (fun h1 => h1.trans (b01_f (hI0 h1)).symm) (fun h1 => h1.trans (b01_t (hI1 h1)).symm), hF⟩ d_M_isRoot_60
      | succ q9 ih =>
        intro n hnk ρ hF h h01 hI1 hI0 ls H locs hW hS hl
        obtain ⟨hu1, hu2, hu3⟩ := hup n (by omega)
        refine lv_iload_n hx hb d_M_isRoot_19 rfl (lv_at hl 0 rfl) ?_
        refine lv_aload_n hx hb d_M_isRoot_20 rfl (lv_at hl 2 rfl) ?_
        refine y_geti hx hb hA in_M hown hK.1 hW 0 (by omega) laym_0 rfl 24 (by decide) (hA _ k_fl_M_106) rfl d_M_isRoot_21 ?_
        rw [hF 0 (by omega)]
        rw [hnb]
        refine y_icmp_ge (tgt := 59) hx hb d_M_isRoot_24 (by decide) ⟨by omega, by omega⟩ ⟨by omega, by omega⟩ (fun hc3 => absurd hc3 (by omega)) (fun hc3 => ?_)
        refine lv_iload_n hx hb d_M_isRoot_27 rfl (lv_at hl 1 rfl) ?_
        refine y_if_ne (tgt := 47) hx hb d_M_isRoot_28 (by decide) ⟨by omega, by omega⟩ (fun hz => ?_) (fun hz => ?_)
        · skip
          refine lv_iconst (v := J (1)) hx hb d_M_isRoot_47 rfl ?_
          refine lv_goto (tgt := 52) hx hb d_M_isRoot_48 (by decide) ?_
          refine lv_istore_n (lv' := [(2, .int (J (1))), (3, .int (J (((n : Nat) : Int)))), (0, .ref (z + 0)), (1, .int (J (r)))]) hx hb d_M_isRoot_52 rfl hl (by decide) rfl (fun ls hl => ?_)
          refine lv_iinc (k := 1) (v := J (((n + 1 : Nat) : Int))) (lv' := [(3, .int (J (((n + 1 : Nat) : Int)))), (2, .int (J (1))), (0, .ref (z + 0)), (1, .int (J (r)))]) hx hb d_M_isRoot_53 hl rfl (by rw [Int.natCast_add n 1]; exact J_add _ _) (by decide) rfl (fun ls hl => ?_)
          refine lv_goto (tgt := 19) hx hb d_M_isRoot_56 (by decide) ?_
          refine ih (n + 1) (by omega) _ hF 1 (by omega) ?_ ?_ ls H locs hW hS hl
          · exact fun _ => rootM_mono (by omega) (hI1 (by omega))
          · exact fun e => absurd e (by decide)
        · skip
          refine lv_aload_n hx hb d_M_isRoot_31 rfl (lv_at hl 2 rfl) ?_
          refine lv_aload_n hx hb d_M_isRoot_32 rfl (lv_at hl 2 rfl) ?_
          refine y_getr hx hb hA in_M hown hK.1 hW 0 (by omega) laym_0 rfl 25 (by decide) (hA _ k_fl_M_67) rfl d_M_isRoot_33 ?_
          refine lv_iload_n hx hb d_M_isRoot_36 rfl (lv_at hl 0 rfl) ?_
          refine y_iald hx hb hK.1 hW 20 (by omega) laym_20 rfl (by decide) n rfl (by omega) d_M_isRoot_37 ?_
          rw [hF 20 (by omega)]
          rw [hu2]
          refine lv_iconst (v := J (4)) hx hb d_M_isRoot_38 rfl ?_
          refine lv_iconst (v := J (0)) hx hb d_M_isRoot_39 rfl ?_
          refine y_cg (y_runV (As := [.int (J ((up n : Int))), .int (J (4)), .int (J (0))]) (rest := []) ⟨hx, hb, hml, hown, hts⟩ (c_M_nodeOf l G z ρ (mTb_to hTb (hF 1 (by omega)) (hF 2 (by omega))) (up n) 4 0 hu1 (by decide) (by decide) (fun i hi => by rw [hF 23 (by omega)]; exact hu3 i hi)) 3 k_co_M_nodeOf k_ml_M_118 k_im_M_nodeOf k_se_M_nodeOf k_in_M rfl rfl (by decide +kernel) ⟨Nat.le_of_ble_eq_true rfl, Nat.le_of_ble_eq_true rfl⟩ (yPv (yK_bl G) (yK_mv G) hK hK.1 hW (by omega) laym_0 rfl (by omega) (by omega)) rfl hl.1 rfl (Nat.le_of_ble_eq_true rfl) d_M_isRoot_40 ⟨Nat.zero_le _, Nat.zero_le _⟩) hS hAr (fun v40 τ40 H locs hp40 hk40 hW hS => ?_)
          have e40 : v40 = nd (lfm τ (up n)) 4 0 := by rw [hp40.1, lfm_to (hF 23 (by omega))]
          have l1 : ∀ i, 0 ≤ lfm τ (up n) i ∧ lfm τ (up n) i < 10009 := by intro i; unfold lfm; split; exact hu3 i (by omega); decide
          have n40 := nd_rng l1 4 0
          rw [← e40] at n40
          refine lv_iload_n hx hb d_M_isRoot_43 rfl (lv_at hl 3 rfl) ?_
          refine y_icmp_ne (tgt := 51) hx hb d_M_isRoot_44 (by decide) ⟨by omega, by omega⟩ hr9 (fun hcm => ?_) (fun hcm => ?_)
          · skip
            refine lv_iconst (v := J (0)) hx hb d_M_isRoot_51 rfl ?_
            refine lv_istore_n (lv' := [(2, .int (J (0))), (3, .int (J (((n : Nat) : Int)))), (0, .ref (z + 0)), (1, .int (J (r)))]) hx hb d_M_isRoot_52 rfl hl (by decide) rfl (fun ls hl => ?_)
            refine lv_iinc (k := 1) (v := J (((n + 1 : Nat) : Int))) (lv' := [(3, .int (J (((n + 1 : Nat) : Int)))), (2, .int (J (0))), (0, .ref (z + 0)), (1, .int (J (r)))]) hx hb d_M_isRoot_53 hl rfl (by rw [Int.natCast_add n 1]; exact J_add _ _) (by decide) rfl (fun ls hl => ?_)
            refine lv_goto (tgt := 19) hx hb d_M_isRoot_56 (by decide) ?_
            refine ih (n + 1) (by omega) _ (fun d hd => (hp40.2 d hd).trans (hF d hd)) 0 (by omega) ?_ ?_ ls H locs hW hS hl
            · exact fun e => absurd e (by decide)
            · exact fun _ => rootM_no (hI0 hz) (fun e => hcm (e40.trans e))
          · skip
            refine lv_iconst (v := J (1)) hx hb d_M_isRoot_47 rfl ?_
            refine lv_goto (tgt := 52) hx hb d_M_isRoot_48 (by decide) ?_
            refine lv_istore_n (lv' := [(2, .int (J (1))), (3, .int (J (((n : Nat) : Int)))), (0, .ref (z + 0)), (1, .int (J (r)))]) hx hb d_M_isRoot_52 rfl hl (by decide) rfl (fun ls hl => ?_)
            refine lv_iinc (k := 1) (v := J (((n + 1 : Nat) : Int))) (lv' := [(3, .int (J (((n + 1 : Nat) : Int)))), (2, .int (J (1))), (0, .ref (z + 0)), (1, .int (J (r)))]) hx hb d_M_isRoot_53 hl rfl (by rw [Int.natCast_add n 1]; exact J_add _ _) (by decide) rfl (fun ls hl => ?_)
            refine lv_goto (tgt := 19) hx hb d_M_isRoot_56 (by decide) ?_
            refine ih (n + 1) (by omega) _ (fun d hd => (hp40.2 d hd).trans (hF d hd)) 1 (by omega) ?_ ?_ ls H locs hW hS hl
            · exact fun _ => Or.inr ⟨n, by omega, e40.symm.trans hcm⟩
            · exact fun e => absurd e (by decide)
    exact loop19 nb 0 (by omega) _ hp4.2 0 (by omega) (fun e => absurd e (by decide)) (fun _ hp => hp.elim (fun e => hce (hp4.1.trans e)) (fun ⟨i, h1, _⟩ => absurd h1 (Nat.not_lt_zero i))) ls _ _ hW hS hl
  · skip
    refine lv_iconst (v := J (1)) hx hb d_M_isRoot_11 rfl ?_
    refine lv_goto (tgt := 16) hx hb d_M_isRoot_12 (by decide) ?_
    refine lv_istore_n (lv' := [(2, .int (J (1))), (0, .ref (z + 0)), (1, .int (J (r)))]) hx hb d_M_isRoot_16 rfl hl (by decide) rfl (fun ls hl => ?_)
    refine lv_iconst (v := J (0)) hx hb d_M_isRoot_17 rfl ?_
    refine lv_istore_n (lv' := [(3, .int (J (0))), (2, .int (J (1))), (0, .ref (z + 0)), (1, .int (J (r)))]) hx hb d_M_isRoot_18 rfl hl (by decide) rfl (fun ls hl => ?_)
    have loop19 : ∀ (q9 n : Nat), n + q9 = nb → ∀ (ρ : yM), (∀ d, d ≠ 27 → ρ d = τ d) → ∀ (h : Int), (h = 0 ∨ h = 1) → (h = 1 → rootM τ up r n) → (h = 0 → ¬ rootM τ up r n) → ∀ (ls : Array Slot) (H : Heap) (locs : List Loc), yW ycl G yLM 0 28 z ρ H → va_S (yA z 0 28) s.heap H locs → lv_has ls 4 [(3, .int (J (((n : Nat) : Int)))), (2, .int (J (h))), (0, .ref (z + 0)), (1, .int (J (r)))] → W p l e ({ frames := 2, cells := 0, slots := 0, locals := 48 } : Room) s m ([.ref (z + 0), .int (J (r))] : List Value).toArray below meth c H locs 0 0 (MQ below (yQg ycl G yLM 0 28 z (fun v ρ => v = b01 (rootM τ up r nb) ∧ ∀ d, d ≠ 27 → ρ d = τ d)) ([.ref (z + 0), .int (J (r))] : List Value).toArray s 0 0 (yA z 0 28)) (F0 m 19 ls []) := by
      intro q9
      induction q9 with
      | zero =>
        intro n hnk ρ hF h h01 hI1 hI0 ls H locs hW hS hl
        have hnN : nb = n := by omega
        subst hnN
        refine lv_iload_n hx hb d_M_isRoot_19 rfl (lv_at hl 0 rfl) ?_
        refine lv_aload_n hx hb d_M_isRoot_20 rfl (lv_at hl 2 rfl) ?_
        refine y_geti hx hb hA in_M hown hK.1 hW 0 (by omega) laym_0 rfl 24 (by decide) (hA _ k_fl_M_106) rfl d_M_isRoot_21 ?_
        rw [hF 0 (by omega)]
        rw [hnb]
        refine y_icmp_ge (tgt := 59) hx hb d_M_isRoot_24 (by decide) ⟨by omega, by omega⟩ ⟨by omega, by omega⟩ (fun hc6 => ?_) (fun hc6 => absurd hc6 (by omega))
        refine lv_iload_n hx hb d_M_isRoot_59 rfl (lv_at hl 1 rfl) ?_
        exact y_retgz hx hb hr hlocks hS hW (by omega) ⟨h01.elim (fun h1 => h1.trans (b01_f (hI0 h1)).symm) (fun h1 => h1.trans (b01_t (hI1 h1)).symm), hF⟩ d_M_isRoot_60
      | succ q9 ih =>
        intro n hnk ρ hF h h01 hI1 hI0 ls H locs hW hS hl
        obtain ⟨hu1, hu2, hu3⟩ := hup n (by omega)
        refine lv_iload_n hx hb d_M_isRoot_19 rfl (lv_at hl 0 rfl) ?_
        refine lv_aload_n hx hb d_M_isRoot_20 rfl (lv_at hl 2 rfl) ?_
        refine y_geti hx hb hA in_M hown hK.1 hW 0 (by omega) laym_0 rfl 24 (by decide) (hA _ k_fl_M_106) rfl d_M_isRoot_21 ?_
        rw [hF 0 (by omega)]
        rw [hnb]
        refine y_icmp_ge (tgt := 59) hx hb d_M_isRoot_24 (by decide) ⟨by omega, by omega⟩ ⟨by omega, by omega⟩ (fun hc7 => absurd hc7 (by omega)) (fun hc7 => ?_)
        refine lv_iload_n hx hb d_M_isRoot_27 rfl (lv_at hl 1 rfl) ?_
        refine y_if_ne (tgt := 47) hx hb d_M_isRoot_28 (by decide) ⟨by omega, by omega⟩ (fun hz => ?_) (fun hz => ?_)
        · skip
          refine lv_iconst (v := J (1)) hx hb d_M_isRoot_47 rfl ?_
          refine lv_goto (tgt := 52) hx hb d_M_isRoot_48 (by decide) ?_
          refine lv_istore_n (lv' := [(2, .int (J (1))), (3, .int (J (((n : Nat) : Int)))), (0, .ref (z + 0)), (1, .int (J (r)))]) hx hb d_M_isRoot_52 rfl hl (by decide) rfl (fun ls hl => ?_)
          refine lv_iinc (k := 1) (v := J (((n + 1 : Nat) : Int))) (lv' := [(3, .int (J (((n + 1 : Nat) : Int)))), (2, .int (J (1))), (0, .ref (z + 0)), (1, .int (J (r)))]) hx hb d_M_isRoot_53 hl rfl (by rw [Int.natCast_add n 1]; exact J_add _ _) (by decide) rfl (fun ls hl => ?_)
          refine lv_goto (tgt := 19) hx hb d_M_isRoot_56 (by decide) ?_
          refine ih (n + 1) (by omega) _ hF 1 (by omega) ?_ ?_ ls H locs hW hS hl
          · exact fun _ => rootM_mono (by omega) (hI1 (by omega))
          · exact fun e => absurd e (by decide)
        · skip
          refine lv_aload_n hx hb d_M_isRoot_31 rfl (lv_at hl 2 rfl) ?_
          refine lv_aload_n hx hb d_M_isRoot_32 rfl (lv_at hl 2 rfl) ?_
          refine y_getr hx hb hA in_M hown hK.1 hW 0 (by omega) laym_0 rfl 25 (by decide) (hA _ k_fl_M_67) rfl d_M_isRoot_33 ?_
          refine lv_iload_n hx hb d_M_isRoot_36 rfl (lv_at hl 0 rfl) ?_
          refine y_iald hx hb hK.1 hW 20 (by omega) laym_20 rfl (by decide) n rfl (by omega) d_M_isRoot_37 ?_
          rw [hF 20 (by omega)]
          rw [hu2]
          refine lv_iconst (v := J (4)) hx hb d_M_isRoot_38 rfl ?_
          refine lv_iconst (v := J (0)) hx hb d_M_isRoot_39 rfl ?_
          refine y_cg (y_runV (As := [.int (J ((up n : Int))), .int (J (4)), .int (J (0))]) (rest := []) ⟨hx, hb, hml, hown, hts⟩ (c_M_nodeOf l G z ρ (mTb_to hTb (hF 1 (by omega)) (hF 2 (by omega))) (up n) 4 0 hu1 (by decide) (by decide) (fun i hi => by rw [hF 23 (by omega)]; exact hu3 i hi)) 3 k_co_M_nodeOf k_ml_M_118 k_im_M_nodeOf k_se_M_nodeOf k_in_M rfl rfl (by decide +kernel) ⟨Nat.le_of_ble_eq_true rfl, Nat.le_of_ble_eq_true rfl⟩ (yPv (yK_bl G) (yK_mv G) hK hK.1 hW (by omega) laym_0 rfl (by omega) (by omega)) rfl hl.1 rfl (Nat.le_of_ble_eq_true rfl) d_M_isRoot_40 ⟨Nat.zero_le _, Nat.zero_le _⟩) hS hAr (fun v40 τ40 H locs hp40 hk40 hW hS => ?_)
          have e40 : v40 = nd (lfm τ (up n)) 4 0 := by rw [hp40.1, lfm_to (hF 23 (by omega))]
          have l1 : ∀ i, 0 ≤ lfm τ (up n) i ∧ lfm τ (up n) i < 10009 := by intro i; unfold lfm; split; exact hu3 i (by omega); decide
          have n40 := nd_rng l1 4 0
          rw [← e40] at n40
          refine lv_iload_n hx hb d_M_isRoot_43 rfl (lv_at hl 3 rfl) ?_
          refine y_icmp_ne (tgt := 51) hx hb d_M_isRoot_44 (by decide) ⟨by omega, by omega⟩ hr9 (fun hcm => ?_) (fun hcm => ?_)
          · skip
            refine lv_iconst (v := J (0)) hx hb d_M_isRoot_51 rfl ?_
            refine lv_istore_n (lv' := [(2, .int (J (0))), (3, .int (J (((n : Nat) : Int)))), (0, .ref (z + 0)), (1, .int (J (r)))]) hx hb d_M_isRoot_52 rfl hl (by decide) rfl (fun ls hl => ?_)
            refine lv_iinc (k := 1) (v := J (((n + 1 : Nat) : Int))) (lv' := [(3, .int (J (((n + 1 : Nat) : Int)))), (2, .int (J (0))), (0, .ref (z + 0)), (1, .int (J (r)))]) hx hb d_M_isRoot_53 hl rfl (by rw [Int.natCast_add n 1]; exact J_add _ _) (by decide) rfl (fun ls hl => ?_)
            refine lv_goto (tgt := 19) hx hb d_M_isRoot_56 (by decide) ?_
            refine ih (n + 1) (by omega) _ (fun d hd => (hp40.2 d hd).trans (hF d hd)) 0 (by omega) ?_ ?_ ls H locs hW hS hl
            · exact fun e => absurd e (by decide)
            · exact fun _ => rootM_no (hI0 hz) (fun e => hcm (e40.trans e))
          · skip
            refine lv_iconst (v := J (1)) hx hb d_M_isRoot_47 rfl ?_
            refine lv_goto (tgt := 52) hx hb d_M_isRoot_48 (by decide) ?_
            refine lv_istore_n (lv' := [(2, .int (J (1))), (3, .int (J (((n : Nat) : Int)))), (0, .ref (z + 0)), (1, .int (J (r)))]) hx hb d_M_isRoot_52 rfl hl (by decide) rfl (fun ls hl => ?_)
            refine lv_iinc (k := 1) (v := J (((n + 1 : Nat) : Int))) (lv' := [(3, .int (J (((n + 1 : Nat) : Int)))), (2, .int (J (1))), (0, .ref (z + 0)), (1, .int (J (r)))]) hx hb d_M_isRoot_53 hl rfl (by rw [Int.natCast_add n 1]; exact J_add _ _) (by decide) rfl (fun ls hl => ?_)
            refine lv_goto (tgt := 19) hx hb d_M_isRoot_56 (by decide) ?_
            refine ih (n + 1) (by omega) _ (fun d hd => (hp40.2 d hd).trans (hF d hd)) 1 (by omega) ?_ ?_ ls H locs hW hS hl
            · exact fun _ => Or.inr ⟨n, by omega, e40.symm.trans hcm⟩
            · exact fun e => absurd e (by decide)
    exact loop19 nb 0 (by omega) _ hp4.2 1 (by omega) (fun _ => Or.inl (hp4.1.symm.trans hce)) (fun e => absurd e (by decide)) ls _ _ hW hS hl
