def rootM (τ : yM) (up : Nat → Nat) (r : Int) (n : Nat) : Prop := nd (lfm τ 0) 4 0 = r ∨ ∃ b, b < n ∧ nd (lfm τ (up b)) 4 0 = r
theorem rootM_mono {τ : yM} {up : Nat → Nat} {r : Int} {n m : Nat} (h : n ≤ m) (hp : rootM τ up r n) : rootM τ up r m := by
  rcases hp with hp | ⟨i, h1, h2⟩
  · exact Or.inl hp
  · exact Or.inr ⟨i, by omega, h2⟩
theorem rootM_no {τ : yM} {up : Nat → Nat} {r : Int} {n : Nat} (hp : ¬ rootM τ up r n) (h : ¬ nd (lfm τ (up n)) 4 0 = r) : ¬ rootM τ up r (n + 1) := by
  rintro (h1 | ⟨i, h1, h2⟩)
  · exact hp (Or.inl h1)
  · by_cases e : i = n
    · subst e; exact h h2
    · exact hp (Or.inr ⟨i, by omega, h2⟩)
theorem lfm_to {τ ρ : yM} {f : Nat} (h : ρ 23 = τ 23) : lfm ρ f = lfm τ f := by unfold lfm; rw [h]
set_option maxHeartbeats 4000000 in
set_option maxRecDepth 100000 in
theorem c_M_node (l : Launch) (G : yG) (z : Nat) (τ : yM) (hTb : mTb τ) (nb : Nat) (hnbr : nb ≤ 12) (hnb : τ 0 24 = (nb : Int)) (fl : Nat) (hflr : fl ≤ 16) (hfl : (if nb = 0 then 0 else τ 20 (nb - 1)) = (fl : Int)) (hlr : ∀ i, i < fl → 0 ≤ τ 23 i ∧ τ 23 i < 10009) (a b : Int) (ha9 : jr a) (hb9 : jr b) : Met l y_M_node (Cond.code y_M_node b_M_node 3 (some .int) :: yT) ({ frames := 2, cells := 0, slots := 0, locals := 48 } : Room) (yP ycl G yLM 0 28 z τ (yK G) [.ref (z + 0), .int (J (a)), .int (J (b))]) (yQg ycl G yLM 0 28 z (fun v ρ => v = (if 0 ≤ a ∧ a ≤ 4 ∧ 0 ≤ b ∧ b < ((16 / 2 ^ a.toNat : Nat) : Int) then nd (lfm τ fl) a.toNat b.toNat else -1) ∧ ∀ d, d ≠ 27 → ρ d = τ d)) 0 0 (yA z 0 28) := by
  refine y_met (by decide +kernel) (Nat.le_of_ble_eq_true rfl) ?_
  intro p e s m below meth c ls hx hb hr hml hlocks hown hname hts hv hl
  have hA : ∀ w ∈ yT, w.before _ s = true := fun w h => hts w (List.mem_cons_of_mem _ h)
  have hl : lv_has ls 3 [(0, .ref (z + 0)), (1, .int (J (a))), (2, .int (J (b)))] := hl
  obtain ⟨hW, hK⟩ := hv
  have hS : va_S (yA z 0 28) s.heap s.heap [] := va_S.rf
  have hAr : ∀ d, 0 ≤ d ∧ d < 0 + 28 → yA z 0 28 (z + d) := yA_all
  refine lv_iload_n hx hb d_M_node_0 rfl (lv_at hl 1 rfl) ?_
  refine lv_iconst (v := J (0)) hx hb d_M_node_1 rfl ?_
  refine lv_iconst (v := J (4)) hx hb d_M_node_2 rfl ?_
  refine y_ci (y_runS (As := [.int (J (a)), .int (J (0)), .int (J (4))]) (rest := []) ⟨hx, hb, hml, hown, hts⟩ (c_M_in l G (a) (0) (4) ha9 ⟨by omega, by omega⟩ ⟨by omega, by omega⟩) 3 k_co_M_in k_ml_M_110 k_st_M_in k_in_M rfl rfl (by decide +kernel) ⟨Nat.le_of_ble_eq_true rfl, Nat.le_of_ble_eq_true rfl⟩ (yPs0 (yK_bl G) (yK_mv G) hK) rfl hl.1 rfl (Nat.le_of_ble_eq_true rfl) d_M_node_3 ⟨Nat.zero_le _, Nat.zero_le _⟩) hS hW (fun H locs hW hS => ?_)
  by_cases hq3 : 0 ≤ a ∧ a ≤ 4
  · skip
    rw [show (if 0 ≤ a ∧ a ≤ 4 then (1 : Int) else 0) = 1 from if_pos hq3]
    refine y_if_eq (tgt := 36) hx hb d_M_node_6 (by decide) ⟨by omega, by omega⟩ (fun hc1 => absurd hc1 (by decide)) (fun hc1 => ?_)
    obtain ⟨an, e_an⟩ : ∃ q : Nat, a = (q : Int) := ⟨(a).toNat, by omega⟩
    have hdv : (16 : Int) / 2 ^ an = ((16 / 2 ^ an : Nat) : Int) := by rw [Int.natCast_ediv, Int.natCast_pow]; rfl
    have hdl : 16 / 2 ^ an ≤ 16 := Nat.div_le_self _ _
    have hdn : (0 : Int) ≤ ((16 / 2 ^ an : Nat) : Int) := Int.natCast_nonneg _
    refine lv_iload_n hx hb d_M_node_9 rfl (lv_at hl 2 rfl) ?_
    refine lv_iconst (v := J (0)) hx hb d_M_node_10 rfl ?_
    refine lv_bipush (v := J (16)) hx hb d_M_node_11 (by decide) ?_
    refine lv_iload_n hx hb d_M_node_13 rfl (lv_at hl 1 rfl) ?_
    refine y_ishr hx hb d_M_node_14 an (by omega) (by omega) (by omega) (by omega) ?_
    refine lv_iconst (v := J (1)) hx hb d_M_node_15 rfl ?_
    refine y_isub hx hb d_M_node_16 ?_
    refine y_ci (y_runS (As := [.int (J (b)), .int (J (0)), .int (J ((16 / 2 ^ an) - 1))]) (rest := []) ⟨hx, hb, hml, hown, hts⟩ (c_M_in l G (b) (0) ((16 / 2 ^ an) - 1) hb9 ⟨by omega, by omega⟩ ⟨by rw [hdv]; omega, by rw [hdv]; omega⟩) 3 k_co_M_in k_ml_M_110 k_st_M_in k_in_M rfl rfl (by decide +kernel) ⟨Nat.le_of_ble_eq_true rfl, Nat.le_of_ble_eq_true rfl⟩ (yPs0 (yK_bl G) (yK_mv G) hK) rfl hl.1 rfl (Nat.le_of_ble_eq_true rfl) d_M_node_17 ⟨Nat.zero_le _, Nat.zero_le _⟩) hS hW (fun H locs hW hS => ?_)
    by_cases hq17 : 0 ≤ b ∧ b ≤ ((16 / 2 ^ an) - 1)
    · skip
      rw [show (if 0 ≤ b ∧ b ≤ ((16 / 2 ^ an) - 1) then (1 : Int) else 0) = 1 from if_pos hq17]
      refine y_if_eq (tgt := 36) hx hb d_M_node_20 (by decide) ⟨by omega, by omega⟩ (fun hc2 => absurd hc2 (by decide)) (fun hc2 => ?_)
      obtain ⟨bn, e_bn⟩ : ∃ q : Nat, b = (q : Int) := ⟨(b).toNat, by omega⟩
      rw [hdv] at hq17
      have hbn : bn < 16 / 2 ^ an := by omega
      refine lv_aload_n hx hb d_M_node_23 rfl (lv_at hl 0 rfl) ?_
      refine lv_aload_n hx hb d_M_node_24 rfl (lv_at hl 0 rfl) ?_
      refine y_ci (y_runV (As := []) (rest := [.ref (z + 0)]) ⟨hx, hb, hml, hown, hts⟩ (c_M_leaves l G z τ nb hnbr hnb) 0 k_co_M_leaves k_ml_M_114 k_im_M_leaves k_se_M_leaves k_in_M rfl rfl (by decide +kernel) ⟨Nat.le_of_ble_eq_true rfl, Nat.le_of_ble_eq_true rfl⟩ (yPv (yK_bl G) (yK_mv G) hK hK.1 hW (by omega) laym_0 rfl (by omega) (by omega)) rfl hl.1 rfl (Nat.le_of_ble_eq_true rfl) d_M_node_25 ⟨Nat.zero_le _, Nat.zero_le _⟩) hS hW (fun H locs hW hS => ?_)
      rw [hfl]
      refine lv_iload_n hx hb d_M_node_28 rfl (lv_at hl 1 rfl) ?_
      refine lv_iload_n hx hb d_M_node_29 rfl (lv_at hl 2 rfl) ?_
      refine W.eq (g2 := F0 m 30 ls [.int (J ((bn : Int))), .int (J ((an : Int))), .int (J ((fl : Int))), .ref (z + 0)]) (by rw [e_an, e_bn]) ?_
      refine y_cg (y_runV (As := [.int (J ((fl : Int))), .int (J ((an : Int))), .int (J ((bn : Int)))]) (rest := []) ⟨hx, hb, hml, hown, hts⟩ (c_M_nodeOf l G z τ hTb fl an bn hflr (by omega) hbn hlr) 3 k_co_M_nodeOf k_ml_M_118 k_im_M_nodeOf k_se_M_nodeOf k_in_M rfl rfl (by decide +kernel) ⟨Nat.le_of_ble_eq_true rfl, Nat.le_of_ble_eq_true rfl⟩ (yPv (yK_bl G) (yK_mv G) hK hK.1 hW (by omega) laym_0 rfl (by omega) (by omega)) rfl hl.1 rfl (Nat.le_of_ble_eq_true rfl) d_M_node_30 ⟨Nat.zero_le _, Nat.zero_le _⟩) hS hAr (fun v30 τ30 H locs hp30 hk30 hW hS => ?_)
      refine lv_goto (tgt := 37) hx hb d_M_node_33 (by decide) ?_
      exact y_retg hx hb hr hlocks hS hW ⟨hp30.1.trans ((if_pos (show 0 ≤ a ∧ a ≤ 4 ∧ 0 ≤ b ∧ b < ((16 / 2 ^ a.toNat : Nat) : Int) by rw [show a.toNat = an by omega]; omega)).trans (by rw [show a.toNat = an by omega, show b.toNat = bn by omega])).symm, hp30.2⟩ d_M_node_37
    · skip
      rw [show (if 0 ≤ b ∧ b ≤ ((16 / 2 ^ an) - 1) then (1 : Int) else 0) = 0 from if_neg hq17]
      refine y_if_eq (tgt := 36) hx hb d_M_node_20 (by decide) ⟨by omega, by omega⟩ (fun hc3 => ?_) (fun hc3 => absurd hc3 (by decide))
      refine lv_iconst (v := J (-1)) hx hb d_M_node_36 rfl ?_
      exact y_retg hx hb hr hlocks hS hW ⟨(if_neg (by first | omega | exact fun hh => by rw [show a.toNat = an by omega] at hh; rw [hdv] at hq17; omega)).symm, fun _ _ => rfl⟩ d_M_node_37
  · skip
    rw [show (if 0 ≤ a ∧ a ≤ 4 then (1 : Int) else 0) = 0 from if_neg hq3]
    refine y_if_eq (tgt := 36) hx hb d_M_node_6 (by decide) ⟨by omega, by omega⟩ (fun hc4 => ?_) (fun hc4 => absurd hc4 (by decide))
    refine lv_iconst (v := J (-1)) hx hb d_M_node_36 rfl ?_
    exact y_retg hx hb hr hlocks hS hW ⟨(if_neg (by first | omega | exact fun hh => by rw [show a.toNat = an by omega] at hh; rw [hdv] at hq17; omega)).symm, fun _ _ => rfl⟩ d_M_node_37
