/-! The connecting of a draft. -/
theorem jgo_rng (a b c : Nat → Prop) (n : Nat) : ∀ k, -5 ≤ jgo a b c n k ∧ jgo a b c n k ≤ 0
  | 0 => by show -5 ≤ (0 : Int) ∧ (0 : Int) ≤ 0; decide
  | k + 1 => by
    have ih := jgo_rng a b c n k
    show -5 ≤ cif _ (-3) (cif _ (-4) (cif _ (-5) (jgo a b c n k))) ∧ cif _ (-3) (cif _ (-4) (cif _ (-5) (jgo a b c n k))) ≤ 0
    by_cases h1 : a (n - (k + 1))
    · rw [cif_t h1]; decide
    · rw [cif_f h1]
      by_cases h2 : b (n - (k + 1))
      · rw [cif_t h2]; decide
      · rw [cif_f h2]
        by_cases h3 : c (n - (k + 1))
        · rw [cif_t h3]; decide
        · rw [cif_f h3]; exact ih
theorem cif_rng (p : Prop) : -4 ≤ cif p (-4) 0 ∧ cif p (-4) 0 ≤ 0 := by
  by_cases h : p
  · rw [cif_t h]; decide
  · rw [cif_f h]; decide
def cFault (ns no : Nat) (a b w : Int) : Int := if ns = 0 ∧ no = 0 then -2 else if a ≠ 0 then a else if b ≠ 0 then b else w
theorem cF_2 {ns no : Nat} {a b w : Int} (h : ns = 0 ∧ no = 0) : cFault ns no a b w = -2 := if_pos h
theorem cF_a {ns no : Nat} {a b w : Int} (h : ¬ (ns = 0 ∧ no = 0)) (ha : a ≠ 0) : cFault ns no a b w = a := (if_neg h).trans (if_pos ha)
theorem cF_b {ns no : Nat} {a b w : Int} (h : ¬ (ns = 0 ∧ no = 0)) (ha : a = 0) (hb : b ≠ 0) : cFault ns no a b w = b := (if_neg h).trans ((if_neg (fun q => q ha)).trans (if_pos hb))
theorem cF_w {ns no : Nat} {a b w : Int} (h : ¬ (ns = 0 ∧ no = 0)) (ha : a = 0) (hb : b = 0) : cFault ns no a b w = w := (if_neg h).trans ((if_neg (fun q => q ha)).trans (if_neg (fun q => q hb)))
/-- the leaves with j outputs of the draft behind them -/
def lap (σ : yM) (lf : Nat → Int) (fl : Nat) : Nat → Nat → Int
  | 0 => lz lf fl
  | j + 1 => lfu (lap σ lf fl j) (fl + j) (σ (50 + j) 3)
theorem lap_rng {σ : yM} {lf : Nat → Int} {fl : Nat} (h : ∀ i, 0 ≤ lf i ∧ lf i < 10009) {N : Nat} (hc : ∀ j, j < N → 0 ≤ σ (50 + j) 3 ∧ σ (50 + j) 3 < 10009) : ∀ j, j ≤ N → ∀ i, 0 ≤ lap σ lf fl j i ∧ lap σ lf fl j i < 10009
  | 0, _ => lz_rng h fl
  | j + 1, hj => lfu_rng (lap_rng h hc j (by omega)) (hc j (by omega))
/-- what stands when j outputs have been laid into the tree -/
def cI (σ τ : yM) (nk fl : Nat) (sec : Nat → Nat) (es lf : Nat → Int) (j : Nat) : Prop :=
  (∀ d, d < 53 → d ≠ 12 → d ≠ 13 → d ≠ 14 → d ≠ 15 → d ≠ 16 → τ d = σ d) ∧ (∀ k, τ (53 + 5 * k) = σ (53 + 5 * k)) ∧ (∀ d i, 53 ≤ d → i < fl → τ d i = σ d i) ∧ τ 12 5 = ((fl + j : Nat) : Int) ∧ yTr τ (lap σ lf fl j) ∧ (∀ i, i < fl → τ 14 i = σ 14 i ∧ τ 15 i = σ 15 i ∧ τ 16 i = σ 16 i) ∧ (∀ t, t < j → τ 14 (fl + t) = σ (50 + t) 5 ∧ τ 15 (fl + t) = σ (50 + t) 6 ∧ τ 16 (fl + t) = σ (50 + t) 4) ∧ ∀ k, k < nk → ∀ t, t < j → kSee τ (53 + 5 * k) (sec k : Int) (es t) (σ (50 + t) 5) (σ (50 + t) 6) (σ (50 + t) 3) (fl + t)
theorem cI_0 {σ : yM} {nk fl : Nat} {sec : Nat → Nat} {es lf : Nat → Int} (hf : σ 12 5 = (fl : Int)) (hT : yTr σ (lz lf fl)) : cI σ σ nk fl sec es lf 0 :=
  ⟨fun _ _ _ _ _ _ _ => rfl, fun _ => rfl, fun _ _ _ _ => rfl, hf, hT, fun _ _ => ⟨rfl, rfl, rfl⟩, fun t h => absurd h (Nat.not_lt_zero t), fun _ _ t h => absurd h (Nat.not_lt_zero t)⟩
theorem tr_leaf {τ : yM} {lf : Nat → Int} {i : Nat} (h : yTr τ lf) (hi : i < 16) : τ 13 i = lf i := by
  have h0 := h 0 i (by decide) (by simpa using hi)
  have e : tpl 0 i = i := by simp [tpl]
  rw [e] at h0
  exact h0
theorem kSee_tk {τ ρ : yM} {K : Nat} {s e f g c : Int} {i : Nat} (h : kSee τ K s e f g c i) (hr : ∀ d, K ≤ d → ρ d i = τ d i) : kSee ρ K s e f g c i := by
  unfold kSee
  rw [hr _ (by omega), hr _ (by omega), hr _ (by omega), hr _ (by omega)]
  exact h
theorem cI_step {σ τ τ1 τ2 : yM} {nk fl : Nat} {sec : Nat → Nat} {es lf : Nat → Int} {j : Nat} (hj : j < 2) (hfj : fl + j < 16) (h : cI σ τ nk fl sec es lf j) (ha : yApp τ τ1 (fl + j) j) (hT1 : yTr τ1 (lfu (lap σ lf fl j) (fl + j) (τ (50 + j) 3)))
    (hl1 : ∀ d, (d < 53 ∨ ∃ k, d = 53 + 5 * k) → τ2 d = τ1 d) (hl2 : ∀ d i, i ≠ fl + j → τ2 d i = τ1 d i) (hl3 : ∀ k, k < nk → kSee τ2 (53 + 5 * k) (sec k : Int) (es j) (τ1 14 (fl + j)) (τ1 15 (fl + j)) (τ1 13 (fl + j)) (fl + j)) : cI σ τ2 nk fl sec es lf (j + 1) := by
  obtain ⟨h1, h2, h3, h4, h5, h6, h7, h8⟩ := h
  obtain ⟨a1, a2, a3, a4, a5, a6⟩ := ha
  have o50 : τ (50 + j) = σ (50 + j) := h1 _ (by omega) (by omega) (by omega) (by omega) (by omega) (by omega)
  have l13 : τ1 13 (fl + j) = σ (50 + j) 3 := by rw [tr_leaf hT1 hfj, o50]; simp [lfu]
  rw [o50] at hT1 a4 a5 a6
  have n1 : ∀ d, 53 ≤ d → τ1 d = τ d := fun d hd => a1 d (by omega) (by omega) (by omega) (by omega) (by omega)
  refine ⟨fun d d1 d2 d3 d4 d5 d6 => ?_, fun k => ?_, fun d i hd hi => ?_, ?_, fun L k hL hk => ?_, fun i hi => ?_, fun t ht => ?_, fun k hk t ht => ?_⟩
  · rw [hl1 d (Or.inl d1), a1 d d2 d3 d4 d5 d6, h1 d d1 d2 d3 d4 d5 d6]
  · rw [hl1 _ (Or.inr ⟨k, rfl⟩), n1 _ (by omega), h2 k]
  · rw [hl2 d i (by omega), n1 d hd, h3 d i hd hi]
  · rw [hl1 12 (Or.inl (by decide)), a2]; omega
  · rw [hl1 13 (Or.inl (by decide))]; exact hT1 L k hL hk
  · obtain ⟨b1, b2, b3⟩ := a3 i (by omega)
    rw [hl1 14 (Or.inl (by decide)), hl1 15 (Or.inl (by decide)), hl1 16 (Or.inl (by decide)), b1, b2, b3]
    exact h6 i hi
  · rw [hl1 14 (Or.inl (by decide)), hl1 15 (Or.inl (by decide)), hl1 16 (Or.inl (by decide))]
    by_cases e : t = j
    · subst e; exact ⟨a4, a5, a6⟩
    · obtain ⟨b1, b2, b3⟩ := a3 (fl + t) (by omega)
      rw [b1, b2, b3]
      exact h7 t (by omega)
  · by_cases e : t = j
    · subst e
      have hh := hl3 k hk
      rw [a4, a5, l13] at hh
      exact hh
    · refine kSee_tk (h8 k hk t (by omega)) (fun d hd => ?_)
      rw [hl2 d _ (by omega), n1 d (by omega)]

theorem d_P_connect_0 : decode b_P_connect 0 = .ok (.aload_n 0, 1) := by decide +kernel
theorem d_P_connect_1 : decode b_P_connect 1 = .ok (.getfield 41, 3) := by decide +kernel
theorem d_P_connect_4 : decode b_P_connect 4 = .ok (.getfield 78, 3) := by decide +kernel
theorem d_P_connect_7 : decode b_P_connect 7 = .ok (.ifCond .ne 16, 3) := by decide +kernel
theorem d_P_connect_10 : decode b_P_connect 10 = .ok (.aload_n 0, 1) := by decide +kernel
theorem d_P_connect_11 : decode b_P_connect 11 = .ok (.getfield 41, 3) := by decide +kernel
theorem d_P_connect_14 : decode b_P_connect 14 = .ok (.getfield 97, 3) := by decide +kernel
theorem d_P_connect_17 : decode b_P_connect 17 = .ok (.ifCond .ne 6, 3) := by decide +kernel
theorem d_P_connect_20 : decode b_P_connect 20 = .ok (.bipush (-2), 2) := by decide +kernel
theorem d_P_connect_22 : decode b_P_connect 22 = .ok (.ireturn, 1) := by decide +kernel
theorem d_P_connect_23 : decode b_P_connect 23 = .ok (.aload_n 0, 1) := by decide +kernel
theorem d_P_connect_24 : decode b_P_connect 24 = .ok (.invokevirtual 128, 3) := by decide +kernel
theorem d_P_connect_27 : decode b_P_connect 27 = .ok (.istore_n 1, 1) := by decide +kernel
theorem d_P_connect_28 : decode b_P_connect 28 = .ok (.iload_n 1, 1) := by decide +kernel
theorem d_P_connect_29 : decode b_P_connect 29 = .ok (.ifCond .ne 8, 3) := by decide +kernel
theorem d_P_connect_32 : decode b_P_connect 32 = .ok (.aload_n 0, 1) := by decide +kernel
theorem d_P_connect_33 : decode b_P_connect 33 = .ok (.invokevirtual 131, 3) := by decide +kernel
theorem d_P_connect_36 : decode b_P_connect 36 = .ok (.istore_n 1, 1) := by decide +kernel
theorem d_P_connect_37 : decode b_P_connect 37 = .ok (.iload_n 1, 1) := by decide +kernel
theorem d_P_connect_38 : decode b_P_connect 38 = .ok (.ifCond .ne 8, 3) := by decide +kernel
theorem d_P_connect_41 : decode b_P_connect 41 = .ok (.aload_n 0, 1) := by decide +kernel
theorem d_P_connect_42 : decode b_P_connect 42 = .ok (.invokevirtual 134, 3) := by decide +kernel
theorem d_P_connect_45 : decode b_P_connect 45 = .ok (.istore_n 1, 1) := by decide +kernel
theorem d_P_connect_46 : decode b_P_connect 46 = .ok (.iload_n 1, 1) := by decide +kernel
theorem d_P_connect_47 : decode b_P_connect 47 = .ok (.ifCond .eq 5, 3) := by decide +kernel
theorem d_P_connect_50 : decode b_P_connect 50 = .ok (.iload_n 1, 1) := by decide +kernel
theorem d_P_connect_51 : decode b_P_connect 51 = .ok (.ireturn, 1) := by decide +kernel
theorem d_P_connect_52 : decode b_P_connect 52 = .ok (.iconst 0, 1) := by decide +kernel
theorem d_P_connect_53 : decode b_P_connect 53 = .ok (.istore_n 2, 1) := by decide +kernel
theorem d_P_connect_54 : decode b_P_connect 54 = .ok (.iload_n 2, 1) := by decide +kernel
theorem d_P_connect_55 : decode b_P_connect 55 = .ok (.aload_n 0, 1) := by decide +kernel
theorem d_P_connect_56 : decode b_P_connect 56 = .ok (.getfield 41, 3) := by decide +kernel
theorem d_P_connect_59 : decode b_P_connect 59 = .ok (.getfield 97, 3) := by decide +kernel
theorem d_P_connect_62 : decode b_P_connect 62 = .ok (.if_icmp .ge 29, 3) := by decide +kernel
theorem d_P_connect_65 : decode b_P_connect 65 = .ok (.aload_n 0, 1) := by decide +kernel
theorem d_P_connect_66 : decode b_P_connect 66 = .ok (.getfield 21, 3) := by decide +kernel
theorem d_P_connect_69 : decode b_P_connect 69 = .ok (.aload_n 0, 1) := by decide +kernel
theorem d_P_connect_70 : decode b_P_connect 70 = .ok (.getfield 41, 3) := by decide +kernel
theorem d_P_connect_73 : decode b_P_connect 73 = .ok (.getfield 100, 3) := by decide +kernel
theorem d_P_connect_76 : decode b_P_connect 76 = .ok (.iload_n 2, 1) := by decide +kernel
theorem d_P_connect_77 : decode b_P_connect 77 = .ok (.aaload, 1) := by decide +kernel
theorem d_P_connect_78 : decode b_P_connect 78 = .ok (.invokevirtual 137, 3) := by decide +kernel
theorem d_P_connect_81 : decode b_P_connect 81 = .ok (.aload_n 0, 1) := by decide +kernel
theorem d_P_connect_82 : decode b_P_connect 82 = .ok (.invokevirtual 141, 3) := by decide +kernel
theorem d_P_connect_85 : decode b_P_connect 85 = .ok (.iinc 2 1, 3) := by decide +kernel
theorem d_P_connect_88 : decode b_P_connect 88 = .ok (.goto (-34), 3) := by decide +kernel
theorem d_P_connect_91 : decode b_P_connect 91 = .ok (.aload_n 0, 1) := by decide +kernel
theorem d_P_connect_92 : decode b_P_connect 92 = .ok (.getfield 34, 3) := by decide +kernel
theorem d_P_connect_95 : decode b_P_connect 95 = .ok (.aload_n 0, 1) := by decide +kernel
theorem d_P_connect_96 : decode b_P_connect 96 = .ok (.getfield 41, 3) := by decide +kernel
theorem d_P_connect_99 : decode b_P_connect 99 = .ok (.aload_n 0, 1) := by decide +kernel
theorem d_P_connect_100 : decode b_P_connect 100 = .ok (.getfield 21, 3) := by decide +kernel
theorem d_P_connect_103 : decode b_P_connect 103 = .ok (.invokevirtual 27, 3) := by decide +kernel
theorem d_P_connect_106 : decode b_P_connect 106 = .ok (.invokevirtual 144, 3) := by decide +kernel
theorem d_P_connect_109 : decode b_P_connect 109 = .ok (.aload_n 0, 1) := by decide +kernel
theorem d_P_connect_110 : decode b_P_connect 110 = .ok (.getfield 41, 3) := by decide +kernel
theorem d_P_connect_113 : decode b_P_connect 113 = .ok (.invokevirtual 71, 3) := by decide +kernel
theorem d_P_connect_116 : decode b_P_connect 116 = .ok (.aload_n 0, 1) := by decide +kernel
theorem d_P_connect_117 : decode b_P_connect 117 = .ok (.getfield 34, 3) := by decide +kernel
theorem d_P_connect_120 : decode b_P_connect 120 = .ok (.getfield 147, 3) := by decide +kernel
theorem d_P_connect_123 : decode b_P_connect 123 = .ok (.ireturn, 1) := by decide +kernel

abbrev cW (σ : yM) (ns no nb fl : Nat) (cs co : Nat → Int) (b0 : Int) : Int := if (-(1281 * b0) + sm cs ns - sm co no) % 2473 = (1369 * ((σ 43 5 + sm (fun j => σ (46 + 2 * j) 5) ns - sm (fun j => σ (50 + j) 7) no) % 2473)) % 2473 then (if σ 17 3 - b0 < 0 then -7 else if nb = 12 ∨ (16 : Int) - (fl : Int) < (no : Int) then -8 else 0) else -6
theorem cW_rng (σ : yM) (ns no nb fl : Nat) (cs co : Nat → Int) (b0 : Int) : -8 ≤ cW σ ns no nb fl cs co b0 ∧ cW σ ns no nb fl cs co b0 ≤ 0 := by
  unfold cW
  split
  · split
    · decide
    · split <;> decide
  · decide
theorem cW_0 {σ : yM} {ns no nb fl : Nat} {cs co : Nat → Int} {b0 : Int} (h : cW σ ns no nb fl cs co b0 = 0) : nb ≠ 12 ∧ fl + no ≤ 16 := by
  unfold cW at h
  split at h
  · split at h
    · exact absurd h (by decide)
    · split at h
      · exact absurd h (by decide)
      · omega
  · exact absurd h (by decide)
set_option maxHeartbeats 4000000 in
set_option maxRecDepth 100000 in
theorem c_P_connect (l : Launch) (G : yG) (z : Nat) (σ : yM) (nk : Nat) (hnk : nk ≤ 4) (hk0 : σ 0 5 = (nk : Int)) (fl : Nat) (hflr : fl ≤ 16) (hfl : σ 12 5 = (fl : Int)) (nb : Nat) (hnbr : nb ≤ 12) (hnb : σ 17 2 = (nb : Int)) (sc : Nat → Nat) (hsc : ∀ i, i < nb → sc i ≤ 2 ∧ σ (19 + 2 * i) 1 = (sc i : Int)) (hnr : ∀ i, i < nb → ∀ j, j < sc i → jr (σ (19 + 2 * i + 1) j)) (ns no : Nat) (hns : ns ≤ 2) (hno : no ≤ 2) (hs : σ 43 2 = (ns : Int)) (ho : σ 43 3 = (no : Int)) (ht : 0 ≤ σ 43 5 ∧ σ 43 5 < 2473) (hsw : ∀ j, j < ns → 0 ≤ σ (46 + 2 * j) 5 ∧ σ (46 + 2 * j) 5 ≤ 2472) (how : ∀ j, j < no → 0 ≤ σ (50 + j) 7 ∧ σ (50 + j) 7 ≤ 2472) (hemp : jr (σ 17 1)) (hrt : ∀ i, i < nb → jr (σ (19 + 2 * i) 4)) (hBs : yBs σ) (hn2 : ∀ j, j < 2 → jr (σ (46 + 2 * j) 8)) (sa : Nat → Int) (spl : Nat → Nat) (hsd : ∀ j, j < ns → spl j < 16 ∧ σ (46 + 2 * j) 1 = eE (sa j) ∧ σ (46 + 2 * j) 0 = sa j ∧ jr (sa j) ∧ σ (46 + 2 * j) 2 = (spl j : Int) ∧ jr (σ (46 + 2 * j) 3) ∧ jr (σ (46 + 2 * j) 4) ∧ jr (σ (46 + 2 * j) 7) ∧ (∀ L, L < 4 → jr (σ (46 + 2 * j + 1) L)) ∧ jr (σ (46 + 2 * j) 8)) (oa : Nat → Int) (hoa : ∀ j, j < no → σ (50 + j) 0 = eE (oa j) ∧ jr (σ (50 + j) 1) ∧ jr (σ (50 + j) 2) ∧ jr (σ (50 + j) 3)) (b0 : Int) (hb0 : σ 43 4 = b0) (hb0r : -9999 ≤ b0 ∧ b0 ≤ 9999) (cs co es : Nat → Int) (hcs : ∀ j, j < ns → σ (46 + 2 * j) 9 = eE (cs j)) (hco : ∀ j, j < no → σ (50 + j) 8 = eE (co j)) (hes : ∀ j, j < no → σ (50 + j) 4 = eE (es j)) (hov : ∀ j, j < no → (0 ≤ σ (50 + j) 5 ∧ σ (50 + j) 5 < 1000) ∧ (0 ≤ σ (50 + j) 6 ∧ σ (50 + j) 6 < 2473) ∧ (0 ≤ σ (50 + j) 3 ∧ σ (50 + j) 3 < 10009)) (hct : -200000 ≤ σ 17 3 ∧ σ 17 3 ≤ 200000) (lf : Nat → Int) (hlf : ∀ i, 0 ≤ lf i ∧ lf i < 10009) (hT : yTr σ (lz lf fl)) (sec : Nat → Nat) (hsec : ∀ k, k < nk → sec k < 2473 ∧ σ (53 + 5 * k) 0 = (sec k : Int) ∧ σ (53 + 5 * k) 1 = eE (sec k : Int)) : Met l y_P_connect (Cond.code y_P_connect b_P_connect 3 (some .int) :: yT) ({ frames := 6, cells := 0, slots := 0, locals := 150 } : Room) (yP ycl G yLP 0 73 z σ (yK G) [.ref (z + 0)]) (yQg ycl G yLP 0 73 z (fun v τ => ((cFault ns no (jgo (jA σ nb) (jB σ sa spl) (jC σ sc nb) ns ns) (cif (∃ j, j < no ∧ ¬ σ (50 + j) 3 = cOf (oa j) (σ (50 + j) 1) (σ (50 + j) 2)) (-4) 0) (cW σ ns no nb fl cs co b0)) ≠ 0 → v = (cFault ns no (jgo (jA σ nb) (jB σ sa spl) (jC σ sc nb) ns ns) (cif (∃ j, j < no ∧ ¬ σ (50 + j) 3 = cOf (oa j) (σ (50 + j) 1) (σ (50 + j) 2)) (-4) 0) (cW σ ns no nb fl cs co b0)) ∧ τ = σ) ∧ ((cFault ns no (jgo (jA σ nb) (jB σ sa spl) (jC σ sc nb) ns ns) (cif (∃ j, j < no ∧ ¬ σ (50 + j) 3 = cOf (oa j) (σ (50 + j) 1) (σ (50 + j) 2)) (-4) 0) (cW σ ns no nb fl cs co b0)) = 0 → v = (nb : Int) + 1 ∧ (∀ d, d < 53 → d ≠ 12 → d ≠ 13 → d ≠ 14 → d ≠ 15 → d ≠ 16 → d ≠ 17 → d ≠ 43 → d ≠ (19 + 2 * nb) → d ≠ (19 + 2 * nb + 1) → τ d = σ d) ∧ (∀ k, τ (53 + 5 * k) = σ (53 + 5 * k)) ∧ (∀ d i, 53 ≤ d → i < fl → τ d i = σ d i) ∧ τ 12 5 = ((fl + no : Nat) : Int) ∧ yTr τ (lap σ lf fl no) ∧ (∀ i, i < fl → τ 14 i = σ 14 i ∧ τ 15 i = σ 15 i ∧ τ 16 i = σ 16 i) ∧ (∀ t, t < no → τ 14 (fl + t) = σ (50 + t) 5 ∧ τ 15 (fl + t) = σ (50 + t) 6 ∧ τ 16 (fl + t) = σ (50 + t) 4) ∧ (∀ k, k < nk → ∀ t, t < no → kSee τ (53 + 5 * k) (sec k : Int) (es t) (σ (50 + t) 5) (σ (50 + t) 6) (σ (50 + t) 3) (fl + t)) ∧ τ (19 + 2 * nb) 1 = (ns : Int) ∧ τ (19 + 2 * nb) 2 = (no : Int) ∧ τ (19 + 2 * nb) 3 = b0 ∧ τ (19 + 2 * nb) 4 = nd (lap σ lf fl no) 4 0 ∧ (∀ j, j < ns → τ (19 + 2 * nb + 1) j = σ (46 + 2 * j) 8) ∧ τ 17 1 = σ 17 1 ∧ τ 17 2 = (nb : Int) + 1 ∧ τ 17 3 = σ 17 3 - b0 ∧ τ 43 2 = 0 ∧ τ 43 3 = 0 ∧ τ 43 4 = 0 ∧ τ 43 5 = 0))) 0 0 (yA z 0 73) := by
  refine y_met (by decide +kernel) (Nat.le_of_ble_eq_true rfl) ?_
  intro p e s m below meth c ls hx hb hr hml hlocks hown hname hts hv hl
  have hA : ∀ w ∈ yT, w.before _ s = true := fun w h => hts w (List.mem_cons_of_mem _ h)
  have hl : lv_has ls 3 [(0, .ref (z + 0))] := hl
  obtain ⟨hW, hK⟩ := hv
  have hS : va_S (yA z 0 73) s.heap s.heap [] := va_S.rf
  have hAr : ∀ d, 0 ≤ d ∧ d < 0 + 73 → yA z 0 73 (z + d) := yA_all
  have main : ¬ (ns = 0 ∧ no = 0) → W p l e ({ frames := 6, cells := 0, slots := 0, locals := 150 } : Room) s m ([.ref (z + 0)] : List Value).toArray below meth c s.heap [] 0 0 (MQ below (yQg ycl G yLP 0 73 z (fun v τ => ((cFault ns no (jgo (jA σ nb) (jB σ sa spl) (jC σ sc nb) ns ns) (cif (∃ j, j < no ∧ ¬ σ (50 + j) 3 = cOf (oa j) (σ (50 + j) 1) (σ (50 + j) 2)) (-4) 0) (cW σ ns no nb fl cs co b0)) ≠ 0 → v = (cFault ns no (jgo (jA σ nb) (jB σ sa spl) (jC σ sc nb) ns ns) (cif (∃ j, j < no ∧ ¬ σ (50 + j) 3 = cOf (oa j) (σ (50 + j) 1) (σ (50 + j) 2)) (-4) 0) (cW σ ns no nb fl cs co b0)) ∧ τ = σ) ∧ ((cFault ns no (jgo (jA σ nb) (jB σ sa spl) (jC σ sc nb) ns ns) (cif (∃ j, j < no ∧ ¬ σ (50 + j) 3 = cOf (oa j) (σ (50 + j) 1) (σ (50 + j) 2)) (-4) 0) (cW σ ns no nb fl cs co b0)) = 0 → v = (nb : Int) + 1 ∧ (∀ d, d < 53 → d ≠ 12 → d ≠ 13 → d ≠ 14 → d ≠ 15 → d ≠ 16 → d ≠ 17 → d ≠ 43 → d ≠ (19 + 2 * nb) → d ≠ (19 + 2 * nb + 1) → τ d = σ d) ∧ (∀ k, τ (53 + 5 * k) = σ (53 + 5 * k)) ∧ (∀ d i, 53 ≤ d → i < fl → τ d i = σ d i) ∧ τ 12 5 = ((fl + no : Nat) : Int) ∧ yTr τ (lap σ lf fl no) ∧ (∀ i, i < fl → τ 14 i = σ 14 i ∧ τ 15 i = σ 15 i ∧ τ 16 i = σ 16 i) ∧ (∀ t, t < no → τ 14 (fl + t) = σ (50 + t) 5 ∧ τ 15 (fl + t) = σ (50 + t) 6 ∧ τ 16 (fl + t) = σ (50 + t) 4) ∧ (∀ k, k < nk → ∀ t, t < no → kSee τ (53 + 5 * k) (sec k : Int) (es t) (σ (50 + t) 5) (σ (50 + t) 6) (σ (50 + t) 3) (fl + t)) ∧ τ (19 + 2 * nb) 1 = (ns : Int) ∧ τ (19 + 2 * nb) 2 = (no : Int) ∧ τ (19 + 2 * nb) 3 = b0 ∧ τ (19 + 2 * nb) 4 = nd (lap σ lf fl no) 4 0 ∧ (∀ j, j < ns → τ (19 + 2 * nb + 1) j = σ (46 + 2 * j) 8) ∧ τ 17 1 = σ 17 1 ∧ τ 17 2 = (nb : Int) + 1 ∧ τ 17 3 = σ 17 3 - b0 ∧ τ 43 2 = 0 ∧ τ 43 3 = 0 ∧ τ 43 4 = 0 ∧ τ 43 5 = 0))) ([.ref (z + 0)] : List Value).toArray s 0 0 (yA z 0 73)) (F0 m 23 ls []) := by
    intro hne
    refine lv_aload_n hx hb d_P_connect_23 rfl (lv_at hl 0 rfl) ?_
    refine y_ci (y_runV (As := []) (rest := []) ⟨hx, hb, hml, hown, hts⟩ (c_P_judgeSpends l G z σ nb hnbr hnb sc hsc hnr hemp hrt hBs ns hns hs hn2 sa spl hsd) 0 k_co_P_judgeSpends k_ml_P_128 k_im_P_judgeSpends k_se_P_judgeSpends k_in_P rfl rfl (by decide +kernel) ⟨Nat.le_of_ble_eq_true rfl, Nat.le_of_ble_eq_true rfl⟩ (yPv (yK_bl G) (yK_mv G) hK hK.1 hW (by omega) lay_0 rfl (by omega) (by omega)) rfl hl.1 rfl (Nat.le_of_ble_eq_true rfl) d_P_connect_24 ⟨Nat.zero_le _, Nat.zero_le _⟩) hS hW (fun H locs hW hS => ?_)
    obtain ⟨ja, e_ja⟩ : ∃ q : Int, q = jgo (jA σ nb) (jB σ sa spl) (jC σ sc nb) ns ns := ⟨_, rfl⟩
    refine W.eq (g2 := F0 m 27 ls [.int (J (ja))]) (by rw [e_ja]) ?_
    have r_ja := jgo_rng (jA σ nb) (jB σ sa spl) (jC σ sc nb) ns ns
    rw [← e_ja] at r_ja
    refine lv_istore_n (lv' := [(1, .int (J (ja))), (0, .ref (z + 0))]) hx hb d_P_connect_27 rfl hl (by decide) rfl (fun ls hl => ?_)
    refine lv_iload_n hx hb d_P_connect_28 rfl (lv_at hl 0 rfl) ?_
    refine y_if_ne (tgt := 37) hx hb d_P_connect_29 (by decide) ⟨by omega, by omega⟩ (fun hja => ?_) (fun hja => ?_)
    · skip
      refine lv_iload_n hx hb d_P_connect_37 rfl (lv_at hl 0 rfl) ?_
      refine y_if_ne (tgt := 46) hx hb d_P_connect_38 (by decide) ⟨by omega, by omega⟩ (fun hx38 => ?_) (fun hx38 => absurd hx38 (by omega))
      refine lv_iload_n hx hb d_P_connect_46 rfl (lv_at hl 0 rfl) ?_
      refine y_if_eq (tgt := 52) hx hb d_P_connect_47 (by decide) ⟨by omega, by omega⟩ (fun hx47 => absurd hx47 (by omega)) (fun hx47 => ?_)
      refine lv_iload_n hx hb d_P_connect_50 rfl (lv_at hl 0 rfl) ?_
      exact y_retg hx hb hr hlocks hS hW ⟨fun _ => ⟨e_ja.trans (cF_a hne (fun h => hja (e_ja.trans h))).symm, rfl⟩, fun h => absurd (e_ja.trans ((cF_a hne (fun h => hja (e_ja.trans h))).symm.trans h)) hja⟩ d_P_connect_51
    · skip
      refine lv_aload_n hx hb d_P_connect_32 rfl (lv_at hl 1 rfl) ?_
      refine y_ci (y_runV (As := []) (rest := []) ⟨hx, hb, hml, hown, hts⟩ (c_P_judgeOutputs l G z σ hBs no hno ho oa hoa) 0 k_co_P_judgeOutputs k_ml_P_131 k_im_P_judgeOutputs k_se_P_judgeOutputs k_in_P rfl rfl (by decide +kernel) ⟨Nat.le_of_ble_eq_true rfl, Nat.le_of_ble_eq_true rfl⟩ (yPv (yK_bl G) (yK_mv G) hK hK.1 hW (by omega) lay_0 rfl (by omega) (by omega)) rfl hl.1 rfl (Nat.le_of_ble_eq_true rfl) d_P_connect_33 ⟨Nat.zero_le _, Nat.zero_le _⟩) hS hW (fun H locs hW hS => ?_)
      obtain ⟨jb, e_jb⟩ : ∃ q : Int, q = cif (∃ j, j < no ∧ ¬ σ (50 + j) 3 = cOf (oa j) (σ (50 + j) 1) (σ (50 + j) 2)) (-4) 0 := ⟨_, rfl⟩
      refine W.eq (g2 := F0 m 36 ls [.int (J (jb))]) (by rw [e_jb]) ?_
      have r_jb := cif_rng (∃ j, j < no ∧ ¬ σ (50 + j) 3 = cOf (oa j) (σ (50 + j) 1) (σ (50 + j) 2))
      rw [← e_jb] at r_jb
      refine lv_istore_n (lv' := [(1, .int (J (jb))), (0, .ref (z + 0))]) hx hb d_P_connect_36 rfl hl (by decide) rfl (fun ls hl => ?_)
      refine lv_iload_n hx hb d_P_connect_37 rfl (lv_at hl 0 rfl) ?_
      refine y_if_ne (tgt := 46) hx hb d_P_connect_38 (by decide) ⟨by omega, by omega⟩ (fun hjb => ?_) (fun hjb => ?_)
      · skip
        refine lv_iload_n hx hb d_P_connect_46 rfl (lv_at hl 0 rfl) ?_
        refine y_if_eq (tgt := 52) hx hb d_P_connect_47 (by decide) ⟨by omega, by omega⟩ (fun hx47 => absurd hx47 (by omega)) (fun hx47 => ?_)
        refine lv_iload_n hx hb d_P_connect_50 rfl (lv_at hl 0 rfl) ?_
        exact y_retg hx hb hr hlocks hS hW ⟨fun _ => ⟨e_jb.trans (cF_b hne (e_ja.symm.trans hja) (fun h => hjb (e_jb.trans h))).symm, rfl⟩, fun h => absurd (e_jb.trans ((cF_b hne (e_ja.symm.trans hja) (fun h => hjb (e_jb.trans h))).symm.trans h)) hjb⟩ d_P_connect_51
      · skip
        refine lv_aload_n hx hb d_P_connect_41 rfl (lv_at hl 1 rfl) ?_
        refine y_ci (y_runV (As := []) (rest := []) ⟨hx, hb, hml, hown, hts⟩ (c_P_judgeWhole l G z σ ns no hns hno hs ho ht hsw how hBs b0 hb0 hb0r cs co hcs hco hct nb hnbr hnb fl hflr hfl) 0 k_co_P_judgeWhole k_ml_P_134 k_im_P_judgeWhole k_se_P_judgeWhole k_in_P rfl rfl (by decide +kernel) ⟨Nat.le_of_ble_eq_true rfl, Nat.le_of_ble_eq_true rfl⟩ (yPv (yK_bl G) (yK_mv G) hK hK.1 hW (by omega) lay_0 rfl (by omega) (by omega)) rfl hl.1 rfl (Nat.le_of_ble_eq_true rfl) d_P_connect_42 ⟨Nat.zero_le _, Nat.zero_le _⟩) hS hW (fun H locs hW hS => ?_)
        obtain ⟨jw, e_jw⟩ : ∃ q : Int, q = cW σ ns no nb fl cs co b0 := ⟨_, rfl⟩
        refine W.eq (g2 := F0 m 45 ls [.int (J (jw))]) (by rw [e_jw]) ?_
        have r_jw := cW_rng σ ns no nb fl cs co b0
        rw [← e_jw] at r_jw
        refine lv_istore_n (lv' := [(1, .int (J (jw))), (0, .ref (z + 0))]) hx hb d_P_connect_45 rfl hl (by decide) rfl (fun ls hl => ?_)
        refine lv_iload_n hx hb d_P_connect_46 rfl (lv_at hl 0 rfl) ?_
        refine y_if_eq (tgt := 52) hx hb d_P_connect_47 (by decide) ⟨by omega, by omega⟩ (fun hjw => ?_) (fun hjw => ?_)
        · skip
          refine lv_iconst (v := J (0)) hx hb d_P_connect_52 rfl ?_
          refine lv_istore_n (lv' := [(2, .int (J (0))), (1, .int (J (jw))), (0, .ref (z + 0))]) hx hb d_P_connect_53 rfl hl (by decide) rfl (fun ls hl => ?_)
          have hF0 : (cFault ns no (jgo (jA σ nb) (jB σ sa spl) (jC σ sc nb) ns ns) (cif (∃ j, j < no ∧ ¬ σ (50 + j) 3 = cOf (oa j) (σ (50 + j) 1) (σ (50 + j) 2)) (-4) 0) (cW σ ns no nb fl cs co b0)) = 0 := (cF_w hne (e_ja.symm.trans hja) (e_jb.symm.trans hjb)).trans (e_jw.symm.trans hjw)
          obtain ⟨hn12, hfn⟩ := cW_0 (e_jw.symm.trans hjw)
          replace hF0 : hid ((cFault ns no (jgo (jA σ nb) (jB σ sa spl) (jC σ sc nb) ns ns) (cif (∃ j, j < no ∧ ¬ σ (50 + j) 3 = cOf (oa j) (σ (50 + j) 1) (σ (50 + j) 2)) (-4) 0) (cW σ ns no nb fl cs co b0)) = 0) := hF0
          clear e_ja e_jb e_jw
          have loop54 : ∀ (q9 j : Nat), j + q9 = no → ∀ (τ : yM), cI σ τ nk fl sec es lf j → ∀ (ls : Array Slot) (H : Heap) (locs : List Loc), yW ycl G yLP 0 73 z τ H → va_S (yA z 0 73) s.heap H locs → lv_has ls 3 [(2, .int (J (((j : Nat) : Int)))), (0, .ref (z + 0))] → W p l e ({ frames := 6, cells := 0, slots := 0, locals := 150 } : Room) s m ([.ref (z + 0)] : List Value).toArray below meth c H locs 0 0 (MQ below (yQg ycl G yLP 0 73 z (fun v τ => ((cFault ns no (jgo (jA σ nb) (jB σ sa spl) (jC σ sc nb) ns ns) (cif (∃ j, j < no ∧ ¬ σ (50 + j) 3 = cOf (oa j) (σ (50 + j) 1) (σ (50 + j) 2)) (-4) 0) (cW σ ns no nb fl cs co b0)) ≠ 0 → v = (cFault ns no (jgo (jA σ nb) (jB σ sa spl) (jC σ sc nb) ns ns) (cif (∃ j, j < no ∧ ¬ σ (50 + j) 3 = cOf (oa j) (σ (50 + j) 1) (σ (50 + j) 2)) (-4) 0) (cW σ ns no nb fl cs co b0)) ∧ τ = σ) ∧ ((cFault ns no (jgo (jA σ nb) (jB σ sa spl) (jC σ sc nb) ns ns) (cif (∃ j, j < no ∧ ¬ σ (50 + j) 3 = cOf (oa j) (σ (50 + j) 1) (σ (50 + j) 2)) (-4) 0) (cW σ ns no nb fl cs co b0)) = 0 → v = (nb : Int) + 1 ∧ (∀ d, d < 53 → d ≠ 12 → d ≠ 13 → d ≠ 14 → d ≠ 15 → d ≠ 16 → d ≠ 17 → d ≠ 43 → d ≠ (19 + 2 * nb) → d ≠ (19 + 2 * nb + 1) → τ d = σ d) ∧ (∀ k, τ (53 + 5 * k) = σ (53 + 5 * k)) ∧ (∀ d i, 53 ≤ d → i < fl → τ d i = σ d i) ∧ τ 12 5 = ((fl + no : Nat) : Int) ∧ yTr τ (lap σ lf fl no) ∧ (∀ i, i < fl → τ 14 i = σ 14 i ∧ τ 15 i = σ 15 i ∧ τ 16 i = σ 16 i) ∧ (∀ t, t < no → τ 14 (fl + t) = σ (50 + t) 5 ∧ τ 15 (fl + t) = σ (50 + t) 6 ∧ τ 16 (fl + t) = σ (50 + t) 4) ∧ (∀ k, k < nk → ∀ t, t < no → kSee τ (53 + 5 * k) (sec k : Int) (es t) (σ (50 + t) 5) (σ (50 + t) 6) (σ (50 + t) 3) (fl + t)) ∧ τ (19 + 2 * nb) 1 = (ns : Int) ∧ τ (19 + 2 * nb) 2 = (no : Int) ∧ τ (19 + 2 * nb) 3 = b0 ∧ τ (19 + 2 * nb) 4 = nd (lap σ lf fl no) 4 0 ∧ (∀ j, j < ns → τ (19 + 2 * nb + 1) j = σ (46 + 2 * j) 8) ∧ τ 17 1 = σ 17 1 ∧ τ 17 2 = (nb : Int) + 1 ∧ τ 17 3 = σ 17 3 - b0 ∧ τ 43 2 = 0 ∧ τ 43 3 = 0 ∧ τ 43 4 = 0 ∧ τ 43 5 = 0))) ([.ref (z + 0)] : List Value).toArray s 0 0 (yA z 0 73)) (F0 m 54 ls []) := by
            intro q9
            induction q9 with
            | zero =>
              intro j hjk τ hcI ls H locs hW hS hl
              have hjN : no = j := by omega
              subst hjN
              refine lv_iload_n hx hb d_P_connect_54 rfl (lv_at hl 0 rfl) ?_
              refine lv_aload_n hx hb d_P_connect_55 rfl (lv_at hl 1 rfl) ?_
              refine y_getr hx hb hA in_P hown hK.1 hW 0 (by omega) lay_0 rfl 3 (by decide) (hA _ k_fl_P_41) rfl d_P_connect_56 ?_
              refine y_geti hx hb hA in_Draft hown hK.1 hW 43 (by omega) lay_43 rfl 3 (by decide) (hA _ k_fl_P_97) rfl d_P_connect_59 ?_
              rw [hcI.1 43 (by omega) (by omega) (by omega) (by omega) (by omega) (by omega)]
              rw [ho]
              refine y_icmp_ge (tgt := 91) hx hb d_P_connect_62 (by decide) ⟨by omega, by omega⟩ ⟨by omega, by omega⟩ (fun hc7 => ?_) (fun hc7 => absurd hc7 (by omega))
              refine lv_aload_n hx hb d_P_connect_91 rfl (lv_at hl 1 rfl) ?_
              refine y_getr hx hb hA in_P hown hK.1 hW 0 (by omega) lay_0 rfl 2 (by decide) (hA _ k_fl_P_34) rfl d_P_connect_92 ?_
              refine lv_aload_n hx hb d_P_connect_95 rfl (lv_at hl 1 rfl) ?_
              refine y_getr hx hb hA in_P hown hK.1 hW 0 (by omega) lay_0 rfl 3 (by decide) (hA _ k_fl_P_41) rfl d_P_connect_96 ?_
              refine lv_aload_n hx hb d_P_connect_99 rfl (lv_at hl 1 rfl) ?_
              refine y_getr hx hb hA in_P hown hK.1 hW 0 (by omega) lay_0 rfl 1 (by decide) (hA _ k_fl_P_21) rfl d_P_connect_100 ?_
              refine y_ci (y_runV (As := []) (rest := [.ref (z + 43), .ref (z + 17)]) ⟨hx, hb, hml, hown, hts⟩ (c_Tree_root l G z τ) 0 k_co_Tree_root k_ml_P_27 k_im_Tree_root k_se_Tree_root k_in_Tree rfl rfl (by decide +kernel) ⟨Nat.le_of_ble_eq_true rfl, Nat.le_of_ble_eq_true rfl⟩ (yPv (yK_bl G) (yK_mv G) hK hK.1 hW (by omega) lay_12 rfl (by omega) (by omega)) rfl hl.1 rfl (Nat.le_of_ble_eq_true rfl) d_P_connect_103 ⟨Nat.zero_le _, Nat.zero_le _⟩) hS hW (fun H locs hW hS => ?_)
              refine y_ch (y_runV (As := [.ref (z + 43), .int (J (τ 13 30))]) (rest := []) ⟨hx, hb, hml, hown, hts⟩ (c_Chain_append l G z τ nb (by omega) (by rw [hcI.1 17 (by omega) (by omega) (by omega) (by omega) (by omega) (by omega)]; exact hnb) ns hns (by rw [hcI.1 43 (by omega) (by omega) (by omega) (by omega) (by omega) (by omega)]; exact hs) (τ 13 30)) 2 k_co_Chain_append k_ml_P_144 k_im_Chain_append k_se_Chain_append k_in_Chain rfl rfl (by decide +kernel) ⟨Nat.le_of_ble_eq_true rfl, Nat.le_of_ble_eq_true rfl⟩ (yPv (yK_bl G) (yK_mv G) hK hK.1 hW (by omega) lay_17 rfl (by omega) (by omega)) rfl hl.1 rfl (Nat.le_of_ble_eq_true rfl) d_P_connect_106 ⟨Nat.zero_le _, Nat.zero_le _⟩) hS hAr (fun τ106 H locs hp106 hk106 hW hS => ?_)
              refine lv_aload_n hx hb d_P_connect_109 rfl (lv_at hl 1 rfl) ?_
              refine y_getr hx hb hA in_P hown hK.1 hW 0 (by omega) lay_0 rfl 3 (by decide) (hA _ k_fl_P_41) rfl d_P_connect_110 ?_
              refine y_ch (y_runV (As := []) (rest := []) ⟨hx, hb, hml, hown, hts⟩ (c_Draft_empty l G z τ106) 0 k_co_Draft_empty k_ml_P_71 k_im_Draft_empty k_se_Draft_empty k_in_Draft rfl rfl (by decide +kernel) ⟨Nat.le_of_ble_eq_true rfl, Nat.le_of_ble_eq_true rfl⟩ (yPv (yK_bl G) (yK_mv G) hK hK.1 hW (by omega) lay_43 rfl (by omega) (by omega)) rfl hl.1 rfl (Nat.le_of_ble_eq_true rfl) d_P_connect_113 ⟨Nat.zero_le _, Nat.zero_le _⟩) hS hAr (fun τ113 H locs hp113 hk113 hW hS => ?_)
              refine lv_aload_n hx hb d_P_connect_116 rfl (lv_at hl 1 rfl) ?_
              refine y_getr hx hb hA in_P hown hK.1 hW 0 (by omega) lay_0 rfl 2 (by decide) (hA _ k_fl_P_34) rfl d_P_connect_117 ?_
              refine y_geti hx hb hA in_Chain hown hK.1 hW 17 (by omega) lay_17 rfl 2 (by decide) (hA _ k_fl_P_147) rfl d_P_connect_120 ?_
              rw [hp113.1 17 (by omega)]
              rw [hp106.2.2.2.2.2.2.2.1]
              exact y_retg hx hb hr hlocks hS hW (by
                                        obtain ⟨q1, q2, q3, q4, q5, q6, q7, q8⟩ := hcI
                                        obtain ⟨a1, a2, a3, a4, a5, a6, a7, a8, a9⟩ := hp106
                                        obtain ⟨x1, x2, x3, x4, x5⟩ := hp113
                                        have f53 : ∀ d, 53 ≤ d → τ113 d = τ d := fun d hd => (x1 d (by omega)).trans (a1 d (by omega) (by omega) (by omega))
                                        have f12 : ∀ d, 12 ≤ d → d ≤ 16 → τ113 d = τ d := fun d h1 h2 => (x1 d (by omega)).trans (a1 d (by omega) (by omega) (by omega))
                                        have o43 : τ 43 = σ 43 := q1 43 (by omega) (by omega) (by omega) (by omega) (by omega) (by omega)
                                        have o17 : τ 17 = σ 17 := q1 17 (by omega) (by omega) (by omega) (by omega) (by omega) (by omega)
                                        refine ⟨fun h => absurd (hid_out hF0) h, fun _ => ⟨rfl, fun d d1 d2 d3 d4 d5 d6 d7 d8 d9 d10 => ?_, fun k => ?_, fun d i hd hi => ?_, ?_, fun L k hL hk => ?_, fun i hi => ?_, fun t ht => ?_, fun k hk t ht => ?_, ?_, ?_, ?_, ?_, fun j hj => ?_, ?_, ?_, ?_, x2, x3, x4, x5⟩⟩
                                        · rw [x1 d d8, a1 d d7 d9 d10, q1 d d1 d2 d3 d4 d5 d6]
                                        · rw [f53 _ (by omega), q2 k]
                                        · rw [f53 d hd, q3 d i hd hi]
                                        · rw [f12 12 (by decide) (by decide), q4]
                                        · rw [f12 13 (by decide) (by decide)]; exact q5 L k hL hk
                                        · rw [f12 14 (by decide) (by decide), f12 15 (by decide) (by decide), f12 16 (by decide) (by decide)]; exact q6 i hi
                                        · rw [f12 14 (by decide) (by decide), f12 15 (by decide) (by decide), f12 16 (by decide) (by decide)]; exact q7 t ht
                                        · exact kSee_tk (q8 k hk t ht) (fun d hd => by rw [f53 d (by omega)])
                                        · rw [x1 (19 + 2 * nb) (by omega), a2]
                                        · rw [x1 (19 + 2 * nb) (by omega), a3, o43]; exact ho
                                        · rw [x1 (19 + 2 * nb) (by omega), a4, o43]; exact hb0
                                        · rw [x1 (19 + 2 * nb) (by omega), a5]; exact q5 4 0 (by decide) (by decide)
                                        · rw [x1 (19 + 2 * nb + 1) (by omega), a6 j hj, q1 (46 + 2 * j) (by omega) (by omega) (by omega) (by omega) (by omega) (by omega)]
                                        · rw [x1 17 (by decide), a7, o17]
                                        · rw [x1 17 (by decide), a8]
                                        · rw [x1 17 (by decide), a9, o17, o43, hb0]) d_P_connect_123
            | succ q9 ih =>
              intro j hjk τ hcI ls H locs hW hS hl
              have g50 : τ (50 + j) = σ (50 + j) := hcI.1 _ (by omega) (by omega) (by omega) (by omega) (by omega) (by omega)
              refine lv_iload_n hx hb d_P_connect_54 rfl (lv_at hl 0 rfl) ?_
              refine lv_aload_n hx hb d_P_connect_55 rfl (lv_at hl 1 rfl) ?_
              refine y_getr hx hb hA in_P hown hK.1 hW 0 (by omega) lay_0 rfl 3 (by decide) (hA _ k_fl_P_41) rfl d_P_connect_56 ?_
              refine y_geti hx hb hA in_Draft hown hK.1 hW 43 (by omega) lay_43 rfl 3 (by decide) (hA _ k_fl_P_97) rfl d_P_connect_59 ?_
              rw [hcI.1 43 (by omega) (by omega) (by omega) (by omega) (by omega) (by omega)]
              rw [ho]
              refine y_icmp_ge (tgt := 91) hx hb d_P_connect_62 (by decide) ⟨by omega, by omega⟩ ⟨by omega, by omega⟩ (fun hc8 => absurd hc8 (by omega)) (fun hc8 => ?_)
              refine lv_aload_n hx hb d_P_connect_65 rfl (lv_at hl 1 rfl) ?_
              refine y_getr hx hb hA in_P hown hK.1 hW 0 (by omega) lay_0 rfl 1 (by decide) (hA _ k_fl_P_21) rfl d_P_connect_66 ?_
              refine lv_aload_n hx hb d_P_connect_69 rfl (lv_at hl 1 rfl) ?_
              refine y_getr hx hb hA in_P hown hK.1 hW 0 (by omega) lay_0 rfl 3 (by decide) (hA _ k_fl_P_41) rfl d_P_connect_70 ?_
              refine y_getr hx hb hA in_Draft hown hK.1 hW 43 (by omega) lay_43 rfl 1 (by decide) (hA _ k_fl_P_100) rfl d_P_connect_73 ?_
              refine lv_iload_n hx hb d_P_connect_76 rfl (lv_at hl 0 rfl) ?_
              refine y_aald hx hb hK.1 hW 45 (by omega) lay_45 rfl (by decide) j rfl (by omega) d_P_connect_77 ?_
              refine y_ch (y_runV (As := [.ref (z + (50 + j))]) (rest := []) ⟨hx, hb, hml, hown, hts⟩ (c_Tree_append l G z τ (yBs_to hBs (hcI.1 3 (by omega) (by omega) (by omega) (by omega) (by omega) (by omega)) (hcI.1 5 (by omega) (by omega) (by omega) (by omega) (by omega) (by omega)) (hcI.1 7 (by omega) (by omega) (by omega) (by omega) (by omega) (by omega)) (hcI.1 9 (by omega) (by omega) (by omega) (by omega) (by omega) (by omega)) (hcI.1 11 (by omega) (by omega) (by omega) (by omega) (by omega) (by omega))) (lap σ lf fl j) hcI.2.2.2.2.1 (lap_rng hlf (fun t ht => (hov t ht).2.2) j (by omega)) (fl + j) j (by omega) (by omega) hcI.2.2.2.1 (by rw [g50]; exact (hov j (by omega)).2.2)) 1 k_co_Tree_append k_ml_P_137 k_im_Tree_append k_se_Tree_append k_in_Tree rfl rfl (by decide +kernel) ⟨Nat.le_of_ble_eq_true rfl, Nat.le_of_ble_eq_true rfl⟩ (yPv (yK_bl G) (yK_mv G) hK hK.1 hW (by omega) lay_12 rfl (by omega) (by omega)) rfl hl.1 rfl (Nat.le_of_ble_eq_true rfl) d_P_connect_78 ⟨Nat.zero_le _, Nat.zero_le _⟩) hS hAr (fun τ78 H locs hp78 hk78 hW hS => ?_)
              refine lv_aload_n hx hb d_P_connect_81 rfl (lv_at hl 1 rfl) ?_
              refine y_ch (y_runV (As := []) (rest := []) ⟨hx, hb, hml, hown, hts⟩ (c_P_look l G z τ78 nk hnk (by rw [hp78.1.1 0 (by omega) (by omega) (by omega) (by omega) (by omega), hcI.1 0 (by omega) (by omega) (by omega) (by omega) (by omega) (by omega)]; exact hk0) (yBs_to (yBs_to hBs (hcI.1 3 (by omega) (by omega) (by omega) (by omega) (by omega) (by omega)) (hcI.1 5 (by omega) (by omega) (by omega) (by omega) (by omega) (by omega)) (hcI.1 7 (by omega) (by omega) (by omega) (by omega) (by omega) (by omega)) (hcI.1 9 (by omega) (by omega) (by omega) (by omega) (by omega) (by omega)) (hcI.1 11 (by omega) (by omega) (by omega) (by omega) (by omega) (by omega))) (hp78.1.1 3 (by omega) (by omega) (by omega) (by omega) (by omega)) (hp78.1.1 5 (by omega) (by omega) (by omega) (by omega) (by omega)) (hp78.1.1 7 (by omega) (by omega) (by omega) (by omega) (by omega)) (hp78.1.1 9 (by omega) (by omega) (by omega) (by omega) (by omega)) (hp78.1.1 11 (by omega) (by omega) (by omega) (by omega) (by omega))) (fl + j) (by omega) hp78.1.2.1 sec (fun k hk => by rw [hp78.1.1 (53 + 5 * k) (by omega) (by omega) (by omega) (by omega) (by omega), hcI.2.1 k]; exact hsec k hk) (es j) (by rw [hp78.1.2.2.2.2.2, g50]; exact hes j (by omega)) (by rw [hp78.1.2.2.2.1, g50]; exact (hov j (by omega)).1) (by rw [hp78.1.2.2.2.2.1, g50]; exact (hov j (by omega)).2.1) (by rw [tr_leaf hp78.2 (by omega), g50]; simp [lfu]; exact (hov j (by omega)).2.2)) 0 k_co_P_lookAtLatestLeaf k_ml_P_141 k_im_P_lookAtLatestLeaf k_se_P_lookAtLatestLeaf k_in_P rfl rfl (by decide +kernel) ⟨Nat.le_of_ble_eq_true rfl, Nat.le_of_ble_eq_true rfl⟩ (yPv (yK_bl G) (yK_mv G) hK hK.1 hW (by omega) lay_0 rfl (by omega) (by omega)) rfl hl.1 rfl (Nat.le_of_ble_eq_true rfl) d_P_connect_82 ⟨Nat.zero_le _, Nat.zero_le _⟩) hS hAr (fun τ82 H locs hp82 hk82 hW hS => ?_)
              refine lv_iinc (k := 0) (v := J (((j + 1 : Nat) : Int))) (lv' := [(2, .int (J (((j + 1 : Nat) : Int)))), (0, .ref (z + 0))]) hx hb d_P_connect_85 hl rfl (by rw [Int.natCast_add j 1]; exact J_add _ _) (by decide) rfl (fun ls hl => ?_)
              refine lv_goto (tgt := 54) hx hb d_P_connect_88 (by decide) ?_
              refine ih (j + 1) (by omega) _ (cI_step (by omega) (by omega) hcI hp78.1 hp78.2 hp82.1 hp82.2.1 hp82.2.2) ls H locs hW hS hl
          exact loop54 no 0 (by omega) σ (cI_0 hfl hT) ls _ _ hW hS (lv_sub hl [0, 2] rfl)
        · skip
          refine lv_iload_n hx hb d_P_connect_50 rfl (lv_at hl 0 rfl) ?_
          exact y_retg hx hb hr hlocks hS hW ⟨fun _ => ⟨e_jw.trans (cF_w hne (e_ja.symm.trans hja) (e_jb.symm.trans hjb)).symm, rfl⟩, fun h => absurd (e_jw.trans ((cF_w hne (e_ja.symm.trans hja) (e_jb.symm.trans hjb)).symm.trans h)) hjw⟩ d_P_connect_51
  refine lv_aload_n hx hb d_P_connect_0 rfl (lv_at hl 0 rfl) ?_
  refine y_getr hx hb hA in_P hown hK.1 hW 0 (by omega) lay_0 rfl 3 (by decide) (hA _ k_fl_P_41) rfl d_P_connect_1 ?_
  refine y_geti hx hb hA in_Draft hown hK.1 hW 43 (by omega) lay_43 rfl 2 (by decide) (hA _ k_fl_P_78) rfl d_P_connect_4 ?_
  rw [hs]
  refine y_if_ne (tgt := 23) hx hb d_P_connect_7 (by decide) ⟨by omega, by omega⟩ (fun hc9 => ?_) (fun hc9 => ?_)
  · skip
    exact main (by omega)
  · skip
    refine lv_aload_n hx hb d_P_connect_10 rfl (lv_at hl 0 rfl) ?_
    refine y_getr hx hb hA in_P hown hK.1 hW 0 (by omega) lay_0 rfl 3 (by decide) (hA _ k_fl_P_41) rfl d_P_connect_11 ?_
    refine y_geti hx hb hA in_Draft hown hK.1 hW 43 (by omega) lay_43 rfl 3 (by decide) (hA _ k_fl_P_97) rfl d_P_connect_14 ?_
    rw [ho]
    refine y_if_ne (tgt := 23) hx hb d_P_connect_17 (by decide) ⟨by omega, by omega⟩ (fun hc10 => ?_) (fun hc10 => ?_)
    · skip
      exact main (by omega)
    · skip
      refine lv_bipush (v := J (-2)) hx hb d_P_connect_20 (by decide) ?_
      exact y_retg hx hb hr hlocks hS hW ⟨fun _ => ⟨(cF_2 ⟨by omega, by omega⟩).symm, rfl⟩, fun h => absurd (h.symm.trans (cF_2 ⟨by omega, by omega⟩)) (by decide)⟩ d_P_connect_22
