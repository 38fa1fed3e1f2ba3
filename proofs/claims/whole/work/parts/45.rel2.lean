/-! What changes, on both sides. -/
def RX (σ τ : yM) : Prop := ∃ (nk nb fl ns no : Nat) (up sc : Nat → Nat), RC σ τ nk nb fl ns no up sc
section RU
variable {σ τ σ' τ' : yM} {nk nk' nb fl ns no : Nat} {up sc : Nat → Nat}
theorem rK_cg (h : rK σ τ nk) (a : σ' 0 5 = σ 0 5) (b : τ' 0 2 = τ 0 2) (c : τ' 3 = τ 3) (d : ∀ k, k < nk → σ' (53 + 5 * k) = σ (53 + 5 * k)) : rK σ' τ' nk :=
  ⟨h.n, a.trans h.a, b.trans h.b, by rw [c]; exact h.sec, fun k hk => by rw [c, d k hk]; exact h.s0 k hk, fun k hk => by rw [c, d k hk]; exact h.s1 k hk⟩
theorem rB_cg (h : rB σ τ nb fl up sc) (h17 : σ' 17 = σ 17) (h12 : σ' 12 5 = σ 12 5) (hb : ∀ b, b < nb → σ' (19 + 2 * b) = σ (19 + 2 * b) ∧ σ' (19 + 2 * b + 1) = σ (19 + 2 * b + 1)) (t24 : τ' 0 24 = τ 0 24) (t20 : τ' 20 = τ 20) (t21 : τ' 21 = τ 21) (t22 : τ' 22 = τ 22) (t23 : τ' 23 = τ 23) : rB σ' τ' nb fl up sc :=
  ⟨h.n, by rw [h17]; exact h.a, t24.trans h.b, h.fl16, h12.trans h.fla, h.flb, by rw [t20]; exact h.u, h.mono, h.ufl, fun b k => by rw [(hb b k).1]; exact h.oc b k, fun b k => by rw [(hb b k).1, t21]; exact h.bal b k, by rw [t21]; exact h.balr, by rw [h17, t21]; exact h.con, fun b k => by rw [(hb b k).1]; exact h.s b k, fun b k => by rw [(hb b k).2, t22]; exact h.nu b k, by rw [t22]; exact h.nn, by rw [h17]; exact h.r0, fun b k => by rw [(hb b k).1, lfm_to t23]; exact h.r b k⟩
theorem rT_cg (h : rT σ τ fl) (h13 : σ' 13 = σ 13) (h14 : σ' 14 = σ 14) (h15 : σ' 15 = σ 15) (h16 : σ' 16 = σ 16) (t23 : τ' 23 = τ 23) (t24 : τ' 24 = τ 24) (t25 : τ' 25 = τ 25) (t26 : τ' 26 = τ 26) : rT σ' τ' fl :=
  ⟨by rw [lfm_to t23]; intro L k h1 h2; rw [h13]; exact h.t L k h1 h2, by rw [t23]; exact h.lr, by rw [h16, t24]; exact h.op, by rw [h14, t25]; exact h.f, by rw [h15, t26]; exact h.g, by rw [t24, t25, t26]; exact h.ld⟩
theorem rS_cg (h : rS σ τ nk fl) (hs : ∀ k, k < nk → ∀ d, 1 ≤ d → d ≤ 4 → σ' (53 + 5 * k + d) = σ (53 + 5 * k + d)) (t3 : τ' 3 = τ 3) (t23 : τ' 23 = τ 23) (t24 : τ' 24 = τ 24) (t25 : τ' 25 = τ 25) (t26 : τ' 26 = τ 26) : rS σ' τ' nk fl := fun k hk i hi => by
  have h1 := h k hk i hi
  rw [t3, t23, t24, t25, t26]
  unfold kSee at h1 ⊢
  rw [hs k hk 1 (by decide) (by decide), hs k hk 2 (by decide) (by decide), hs k hk 3 (by decide) (by decide), hs k hk 4 (by decide) (by decide)]
  exact h1
theorem rSp_cg {j : Nat} (h : rSp σ τ nk j) (hn : nk ≤ nk') (c6 : σ' (46 + 2 * j) = σ (46 + 2 * j)) (c7 : σ' (46 + 2 * j + 1) = σ (46 + 2 * j + 1)) (t3 : ∀ k, k < nk → τ' 3 k = τ 3 k) (t4 : τ' 4 j = τ 4 j) (t5 : τ' 5 j = τ 5 j) (t6 : τ' 6 j = τ 6 j) (t7 : τ' 7 j = τ 7 j) (t8 : τ' 8 j = τ 8 j) (t9 : τ' 9 j = τ 9 j) (t10 : τ' 10 j = τ 10 j) (t11 : ∀ L, L < 4 → τ' 11 (4 * j + L) = τ 11 (4 * j + L)) : rSp σ' τ' nk' j := by
  obtain ⟨⟨k, k1, k2, k3, k4⟩, ⟨i, i1, i2, i3⟩, v, vr, t, tr, w, wr, a, ar, nl, cv, p, pr⟩ := h
  exact ⟨⟨k, by omega, by rw [t4]; exact k2, by rw [c6, t3 k k1]; exact k3, by rw [c6, t3 k k1]; exact k4⟩, ⟨i, i1, by rw [t5]; exact i2, by rw [c6]; exact i3⟩, by rw [c6, t6]; exact v, by rw [t6]; exact vr, by rw [c6, t7]; exact t, by rw [t7]; exact tr, by rw [c6, t8]; exact w, by rw [t8]; exact wr, by rw [c6, t9]; exact a, by rw [t9]; exact ar, by rw [c6, t10]; exact nl, by rw [c6, t6, t8]; exact cv, fun L hL => by rw [c7, t11 L hL]; exact p L hL, fun L hL => by rw [t11 L hL]; exact pr L hL⟩
theorem rOu_cg {j : Nat} (h : rOu σ τ nk j) (hn : nk ≤ nk') (c5 : σ' (50 + j) = σ (50 + j)) (t3 : ∀ k, k < nk → τ' 3 k = τ 3 k) (tt : ∀ c, 12 ≤ c → c ≤ 19 → τ' c j = τ c j) : rOu σ' τ' nk' j := by
  obtain ⟨⟨k, k1, k2, k3⟩, v, vr, t, tr, c, cr, e, er, f, fr, g, gr, w, wr, cv⟩ := h
  have a12 := tt 12 (by decide) (by decide)
  have a13 := tt 13 (by decide) (by decide)
  have a14 := tt 14 (by decide) (by decide)
  have a15 := tt 15 (by decide) (by decide)
  have a16 := tt 16 (by decide) (by decide)
  have a17 := tt 17 (by decide) (by decide)
  have a18 := tt 18 (by decide) (by decide)
  have a19 := tt 19 (by decide) (by decide)
  exact ⟨⟨k, by omega, by rw [a12]; exact k2, by rw [c5, t3 k k1]; exact k3⟩, by rw [c5, a13]; exact v, by rw [a13]; exact vr, by rw [c5, a14]; exact t, by rw [a14]; exact tr, by rw [c5, a16]; exact c, by rw [a16]; exact cr, by rw [c5, a17]; exact e, by rw [a17]; exact er, by rw [c5, a18]; exact f, by rw [a18]; exact fr, by rw [c5, a19]; exact g, by rw [a19]; exact gr, by rw [c5, a15]; exact w, by rw [a15]; exact wr, by rw [c5, a13, a15]; exact cv⟩
theorem rD_cg (h : rD σ τ nk ns no) (hn : nk ≤ nk') (h43 : σ' 43 = σ 43) (hc : ∀ c, 46 ≤ c → c ≤ 51 → σ' c = σ c) (t4 : τ' 0 4 = τ 0 4) (t13 : τ' 0 13 = τ 0 13) (t22 : τ' 0 22 = τ 0 22) (t23 : τ' 0 23 = τ 0 23) (t3 : ∀ k, k < nk → τ' 3 k = τ 3 k) (tc : ∀ c, 4 ≤ c → c ≤ 19 → τ' c = τ c) : rD σ' τ' nk' ns no := by
  have hn2 := h.n2
  have ho2 := h.o2
  exact ⟨h.n2, h.o2, by rw [h43]; exact h.a, t4.trans h.b, by rw [h43]; exact h.c, t13.trans h.d, by rw [h43, t22]; exact h.bal, by rw [t22]; exact h.balr, by rw [h43, t23]; exact h.tu, by rw [t23]; exact h.tur,
    fun j hj => rSp_cg (h.sp j hj) hn (hc _ (by omega) (by omega)) (hc _ (by omega) (by omega)) t3 (by rw [tc 4 (by decide) (by decide)]) (by rw [tc 5 (by decide) (by decide)]) (by rw [tc 6 (by decide) (by decide)]) (by rw [tc 7 (by decide) (by decide)]) (by rw [tc 8 (by decide) (by decide)]) (by rw [tc 9 (by decide) (by decide)]) (by rw [tc 10 (by decide) (by decide)]) (fun L _ => by rw [tc 11 (by decide) (by decide)]),
    fun j hj => rOu_cg (h.ou j hj) hn (hc _ (by omega) (by omega)) t3 (fun c h1 h2 => by rw [tc c (by omega) h2]),
    fun j hj => by rw [hc (46 + 2 * j) (by omega) (by omega)]; exact h.s8 j hj, fun j hj => by rw [hc (46 + 2 * j) (by omega) (by omega)]; exact h.s5 j hj, fun j hj => by rw [tc 10 (by decide) (by decide)]; exact h.m10 j hj⟩
/-- key -/
theorem RC.u_key (h : RC σ τ nk nb fl ns no up sc) {s9 v v' : Int}
    (p : ((nk ≠ 4 ∧ 1 ≤ s9 ∧ s9 ≤ 2472) → v = (nk : Int) ∧ (∀ d, d ≠ 0 → d ≠ (53 + 5 * nk) → d ≠ (53 + 5 * nk + 1) → d ≠ (53 + 5 * nk + 2) → d ≠ (53 + 5 * nk + 3) → d ≠ (53 + 5 * nk + 4) → σ' d = σ d) ∧ σ' 0 5 = (nk : Int) + 1 ∧ σ' (53 + 5 * nk) 0 = s9 ∧ σ' (53 + 5 * nk) 1 = eE s9 ∧ ∀ i, i < fl → kSee σ' (53 + 5 * nk) s9 (τ 24 i) (σ 14 i) (σ 15 i) (σ 13 i) i) ∧ (¬ (nk ≠ 4 ∧ 1 ≤ s9 ∧ s9 ≤ 2472) → v = -1 ∧ σ' = σ))
    (q : ((nk ≠ 4 ∧ 1 ≤ s9 ∧ s9 ≤ 2472) → v' = (nk : Int) ∧ τ' = y2 (y2 τ 3 nk s9) 0 2 ((nk : Int) + 1)) ∧ (¬ (nk ≠ 4 ∧ 1 ≤ s9 ∧ s9 ≤ 2472) → v' = -1 ∧ τ' = τ)) : v = v' ∧ RX σ' τ' := by
  by_cases hc : nk ≠ 4 ∧ 1 ≤ s9 ∧ s9 ≤ 2472
  · obtain ⟨p1, p2, p3, p4, p5, p6⟩ := p.1 hc
    obtain ⟨q1, q2⟩ := q.1 hc
    subst q2
    have hn := h.K.n
    have hfl := h.B.fl16
    have lo : ∀ d, 0 < d → d < 53 → σ' d = σ d := fun d h1 h2 => p2 d (by omega) (by omega) (by omega) (by omega) (by omega) (by omega)
    have ol : ∀ k, k < nk → ∀ e, e ≤ 4 → σ' (53 + 5 * k + e) = σ (53 + 5 * k + e) := fun k h1 e h2 => p2 _ (by omega) (by omega) (by omega) (by omega) (by omega) (by omega)
    have o0 : ∀ k, k < nk → σ' (53 + 5 * k) = σ (53 + 5 * k) := fun k h1 => ol k h1 0 (by decide)
    have t3 : ∀ k, k < nk → y2 (y2 τ 3 nk s9) 0 2 ((nk : Int) + 1) 3 k = τ 3 k := fun k hk => by rw [y2_cl (by decide), y2_ot (by omega)]
    have t3n : y2 (y2 τ 3 nk s9) 0 2 ((nk : Int) + 1) 3 nk = s9 := by rw [y2_cl (by decide), y2_at]
    have tc : ∀ c, c ≠ 0 → c ≠ 3 → y2 (y2 τ 3 nk s9) 0 2 ((nk : Int) + 1) c = τ c := fun c h1 h2 => by rw [y2_ne h1, y2_ne h2]
    have t0 : ∀ j, j ≠ 2 → y2 (y2 τ 3 nk s9) 0 2 ((nk : Int) + 1) 0 j = τ 0 j := fun j hj => by rw [y2_ot hj, y2_cl (by decide)]
    refine ⟨by omega, nk + 1, nb, fl, ns, no, up, sc, yBs_to h.hBs (lo 3 (by decide) (by decide)) (lo 5 (by decide) (by decide)) (lo 7 (by decide) (by decide)) (lo 9 (by decide) (by decide)) (lo 11 (by decide) (by decide)), mTb_to h.hTb (tc 1 (by decide) (by decide)) (tc 2 (by decide) (by decide)), ⟨by omega, by rw [p3]; omega, by rw [y2_at]; omega, fun k hk => ?_, fun k hk => ?_, fun k hk => ?_⟩, ?_, ?_, fun k hk i hi => ?_, ?_⟩
    · by_cases e : k = nk
      · subst e; rw [t3n]; omega
      · rw [t3 k (by omega)]; exact h.K.sec k (by omega)
    · by_cases e : k = nk
      · subst e; rw [t3n]; exact p4
      · rw [t3 k (by omega), o0 k (by omega)]; exact h.K.s0 k (by omega)
    · by_cases e : k = nk
      · subst e; rw [t3n]; exact p5
      · rw [t3 k (by omega), o0 k (by omega)]; exact h.K.s1 k (by omega)
    · have hb := h.B.n
      exact rB_cg h.B (lo 17 (by decide) (by decide)) (by rw [lo 12 (by decide) (by decide)]) (fun b hb => ⟨lo _ (by omega) (by omega), lo _ (by omega) (by omega)⟩) (t0 24 (by decide)) (tc 20 (by decide) (by decide)) (tc 21 (by decide) (by decide)) (tc 22 (by decide) (by decide)) (tc 23 (by decide) (by decide))
    · exact rT_cg h.T (lo 13 (by decide) (by decide)) (lo 14 (by decide) (by decide)) (lo 15 (by decide) (by decide)) (lo 16 (by decide) (by decide)) (tc 23 (by decide) (by decide)) (tc 24 (by decide) (by decide)) (tc 25 (by decide) (by decide)) (tc 26 (by decide) (by decide))
    · rw [tc 23 (by decide) (by decide), tc 24 (by decide) (by decide), tc 25 (by decide) (by decide), tc 26 (by decide) (by decide)]
      by_cases e : k = nk
      · subst e
        rw [t3n]
        have := p6 i hi
        rw [h.T.f i hi, h.T.g i hi, tr_leaf h.T.t (by omega)] at this
        unfold lfm at this
        rw [if_pos hi] at this
        exact this
      · rw [t3 k (by omega)]
        have h1 := h.S k (by omega) i hi
        unfold kSee at h1 ⊢
        rw [ol k (by omega) 1 (by decide), ol k (by omega) 2 (by decide), ol k (by omega) 3 (by decide), ol k (by omega) 4 (by decide)]
        exact h1
    · exact rD_cg h.D (by omega) (lo 43 (by decide) (by decide)) (fun c h1 h2 => lo c (by omega) (by omega)) (t0 4 (by decide)) (t0 13 (by decide)) (t0 22 (by decide)) (t0 23 (by decide)) t3 (fun c h1 h2 => tc c (by omega) (by omega))
  · obtain ⟨p1, p2⟩ := p.2 hc
    obtain ⟨q1, q2⟩ := q.2 hc
    subst p2; subst q2
    exact ⟨by omega, _, _, _, _, _, _, _, h⟩
/-- what changes the draft alone -/
theorem RC.u_dr (h : RC σ τ nk nb fl ns no up sc) (hs : ∀ d, d < 43 ∨ 52 ≤ d → σ' d = σ d) (h2 : τ' 0 2 = τ 0 2) (h24 : τ' 0 24 = τ 0 24) (ht : ∀ c, c = 1 ∨ c = 2 ∨ c = 3 ∨ (20 ≤ c ∧ c ≤ 26) → τ' c = τ c) {ns' no' : Nat} (hD : rD σ' τ' nk ns' no') : RC σ' τ' nk nb fl ns' no' up sc := by
  have hb := h.B.n
  exact ⟨yBs_to h.hBs (hs 3 (by omega)) (hs 5 (by omega)) (hs 7 (by omega)) (hs 9 (by omega)) (hs 11 (by omega)), mTb_to h.hTb (ht 1 (by omega)) (ht 2 (by omega)), rK_cg h.K (by rw [hs 0 (by omega)]) h2 (ht 3 (by omega)) (fun k _ => hs _ (by omega)),
    rB_cg h.B (hs 17 (by omega)) (by rw [hs 12 (by omega)]) (fun b hb => ⟨hs _ (by omega), hs _ (by omega)⟩) h24 (ht 20 (by omega)) (ht 21 (by omega)) (ht 22 (by omega)) (ht 23 (by omega)), rT_cg h.T (hs 13 (by omega)) (hs 14 (by omega)) (hs 15 (by omega)) (hs 16 (by omega)) (ht 23 (by omega)) (ht 24 (by omega)) (ht 25 (by omega)) (ht 26 (by omega)),
    rS_cg h.S (fun k _ d _ _ => hs _ (by omega)) (ht 3 (by omega)) (ht 23 (by omega)) (ht 24 (by omega)) (ht 25 (by omega)) (ht 26 (by omega)), hD⟩
/-- clear -/
theorem RC.u_clear (h : RC σ τ nk nb fl ns no up sc) (p : (∀ d, d ≠ 43 → σ' d = σ d) ∧ σ' 43 2 = 0 ∧ σ' 43 3 = 0 ∧ σ' 43 4 = 0 ∧ σ' 43 5 = 0) (q : τ' = y2 (y2 (y2 (y2 τ 0 4 0) 0 13 0) 0 22 0) 0 23 0) : RX σ' τ' := by
  obtain ⟨p1, p2, p3, p4, p5⟩ := p
  subst q
  have tc : ∀ c, c ≠ 0 → y2 (y2 (y2 (y2 τ 0 4 0) 0 13 0) 0 22 0) 0 23 0 c = τ c := fun c h1 => by rw [y2_ne h1, y2_ne h1, y2_ne h1, y2_ne h1]
  refine ⟨nk, nb, fl, 0, 0, up, sc, h.u_dr (τ' := y2 (y2 (y2 (y2 τ 0 4 0) 0 13 0) 0 22 0) 0 23 0) (fun d hd => p1 d (by omega)) rfl rfl (fun c hc => tc c (by omega)) ⟨by decide, by decide, p2, rfl, p3, rfl, p4, (show (-9999 : Int) ≤ 0 ∧ (0 : Int) ≤ 9999 by decide), p5, (show (0 : Int) ≤ 0 ∧ (0 : Int) < 2473 by decide), fun j hj => absurd hj (Nat.not_lt_zero j), fun j hj => absurd hj (Nat.not_lt_zero j), fun j hj => ?_, fun j hj => ?_, fun j hj => ?_⟩⟩
  · rw [p1 _ (by omega)]; exact h.D.s8 j hj
  · rw [p1 _ (by omega)]; exact h.D.s5 j hj
  · rw [tc 10 (by decide)]; exact h.D.m10 j hj
/-- balance -/
theorem RC.u_balance (h : RC σ τ nk nb fl ns no up sc) {b v v' : Int} (p : (-9999 ≤ b ∧ b ≤ 9999 → v = 1 ∧ σ' = y2 σ 43 4 b) ∧ (¬ (-9999 ≤ b ∧ b ≤ 9999) → v = 0 ∧ σ' = σ)) (q : (-9999 ≤ b ∧ b ≤ 9999 → v' = 1 ∧ τ' = y2 τ 0 22 b) ∧ (¬ (-9999 ≤ b ∧ b ≤ 9999) → v' = 0 ∧ τ' = τ)) : v = v' ∧ RX σ' τ' := by
  by_cases hc : -9999 ≤ b ∧ b ≤ 9999
  · obtain ⟨p1, p2⟩ := p.1 hc
    obtain ⟨q1, q2⟩ := q.1 hc
    subst p2; subst q2
    refine ⟨by omega, nk, nb, fl, ns, no, up, sc, h.u_dr (σ' := y2 σ 43 4 b) (τ' := y2 τ 0 22 b) (fun d hd => y2_ne (by omega)) rfl rfl (fun c hc => y2_ne (by omega)) ?_⟩
    have hD := h.D
    have hn2 := h.D.n2
    have ho2 := h.D.o2
    exact ⟨hD.n2, hD.o2, hD.a, hD.b, hD.c, hD.d, rfl, hc, hD.tu, hD.tur, fun j hj => rSp_cg (hD.sp j hj) (Nat.le_refl _) (y2_ne (by omega)) (y2_ne (by omega)) (fun _ _ => rfl) rfl rfl rfl rfl rfl rfl rfl (fun _ _ => rfl), fun j hj => rOu_cg (hD.ou j hj) (Nat.le_refl _) (y2_ne (by omega)) (fun _ _ => rfl) (fun c h1 _ => y2_cl (by omega)), fun j hj => by rw [y2_cl (by omega)]; exact hD.s8 j hj, fun j hj => by rw [y2_cl (by omega)]; exact hD.s5 j hj, hD.m10⟩
  · obtain ⟨p1, p2⟩ := p.2 hc
    obtain ⟨q1, q2⟩ := q.2 hc
    subst p2; subst q2
    exact ⟨by omega, _, _, _, _, _, _, _, h⟩
end RU
