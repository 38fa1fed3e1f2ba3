section RU
variable {σ τ σ' τ' : yM} {nk nk' nb fl ns no : Nat} {up sc : Nat → Nat}
theorem co_1 {r : Nat → Int} {c : Nat} (h0 : c ≠ 0) (h : c < 20 ∨ 22 < c) : coM τ ns no nb fl r c = cpM τ fl no r c := by
  unfold coM
  rw [y2_ne h0, y2_ne h0, y2_ne h0, y2_ne h0, y2_ne h0, y2_ne (by omega), y2_ne (by omega), y2_ne (by omega), y2_ne (by omega)]
theorem co_o {r : Nat → Int} {c : Nat} (h0 : c ≠ 0) (h : c < 20) : coM τ ns no nb fl r c = τ c := by rw [co_1 h0 (by omega), cp_o (by omega)]
theorem co_0 {r : Nat → Int} {j : Nat} (h4 : j ≠ 4) (h13 : j ≠ 13) (h22 : j ≠ 22) (h23 : j ≠ 23) (h24 : j ≠ 24) : coM τ ns no nb fl r 0 j = τ 0 j := by
  unfold coM
  rw [y2_ot h23, y2_ot h22, y2_ot h13, y2_ot h4, y2_ot h24, y2_cl (by decide), y2_cl (by decide), y2_cl (by decide), y2_cl (by decide), cp_o (by decide)]
theorem co_20 {r : Nat → Int} {b : Nat} : coM τ ns no nb fl r 20 b = if b = nb then (fl : Int) + (no : Int) else τ 20 b := by
  unfold coM
  rw [y2_cl (by decide), y2_cl (by decide), y2_cl (by decide), y2_cl (by decide), y2_cl (by decide), y2_cl (by decide), y2_cl (by decide), y2_cl (by decide), y2_cc, cp_o (by decide)]
theorem co_21 {r : Nat → Int} {b : Nat} : coM τ ns no nb fl r 21 b = if b = nb then τ 0 22 else τ 21 b := by
  unfold coM
  rw [y2_cl (by decide), y2_cl (by decide), y2_cl (by decide), y2_cl (by decide), y2_cl (by decide), y2_cl (by decide), y2_cl (by decide), y2_cc, y2_ne (by decide), cp_o (by decide)]
theorem co_22 {r : Nat → Int} {i : Nat} : coM τ ns no nb fl r 22 i = if i = 2 * nb + 1 then (if 1 < ns then τ 10 1 else -1) else if i = 2 * nb then (if 0 < ns then τ 10 0 else -1) else τ 22 i := by
  unfold coM
  rw [y2_cl (by decide), y2_cl (by decide), y2_cl (by decide), y2_cl (by decide), y2_cl (by decide), y2_cc, y2_cc, y2_ne (by decide), y2_ne (by decide), cp_o (by decide)]
theorem ins1_lt {f g : Nat → Int} {m i : Nat} (h : i < fl) : ins1 f g fl m i = g i := by unfold ins1; rw [if_neg (by omega)]
theorem ins1_ge {f g : Nat → Int} {m t : Nat} (h : t < m) : ins1 f g fl m (fl + t) = f t := by unfold ins1; rw [if_pos (by omega), show fl + t - fl = t by omega]
theorem lap_eq (hc : ∀ j, j < no → σ (50 + j) 3 = τ 16 j) : ∀ j, j ≤ no → lap σ (lfm τ fl) fl j = fun i => if i < fl then τ 23 i else if i < fl + j then τ 16 (i - fl) else 0
  | 0, _ => by
    show lz (lfm τ fl) fl = _
    rw [lz_lfm (Nat.le_refl _)]
    funext i
    unfold lfm
    by_cases e : i < fl
    · rw [if_pos e, if_pos e]
    · rw [if_neg e, if_neg e, if_neg (by omega)]
  | j + 1, hj => by
    show lfu (lap σ (lfm τ fl) fl j) (fl + j) (σ (50 + j) 3) = _
    rw [lap_eq hc j (by omega), hc j (by omega)]
    funext i
    unfold lfu
    by_cases e : i = fl + j
    · subst e
      rw [if_pos rfl, if_neg (by omega), if_pos (by omega), show fl + j - fl = j by omega]
    · rw [if_neg e]
      show (if i < fl then τ 23 i else if i < fl + j then τ 16 (i - fl) else 0) = _
      by_cases e1 : i < fl
      · rw [if_pos e1, if_pos e1]
      · rw [if_neg e1, if_neg e1]
        by_cases e2 : i < fl + j
        · rw [if_pos e2, if_pos (by omega)]
        · rw [if_neg e2, if_neg (by omega)]
theorem lap_co {r : Nat → Int} (hc : ∀ j, j < no → σ (50 + j) 3 = τ 16 j) : lap σ (lfm τ fl) fl no = lfm (coM τ ns no nb fl r) (fl + no) := by
  rw [lap_eq hc no (Nat.le_refl _)]
  funext i
  unfold lfm
  rw [co_1 (by decide) (by decide)]
  show _ = if i < fl + no then ins1 (τ 16) (τ 23) fl no i else 0
  by_cases e1 : i < fl
  · rw [if_pos e1, if_pos (by omega), ins1_lt e1]
  · rw [if_neg e1]
    by_cases e2 : i < fl + no
    · have e3 := ins1_ge (fl := fl) (f := τ 16) (g := τ 23) (m := no) (t := i - fl) (by omega)
      rw [show fl + (i - fl) = i by omega] at e3
      rw [if_pos e2, if_pos e2, e3]
    · rw [if_neg e2, if_neg e2]
theorem lfm_co {r : Nat → Int} {g : Nat} (hg : g ≤ fl) : lfm (coM τ ns no nb fl r) g = lfm τ g := by
  funext i
  unfold lfm
  rw [co_1 (by decide) (by decide)]
  show (if i < g then ins1 (τ 16) (τ 23) fl no i else 0) = _
  by_cases e : i < g
  · rw [if_pos e, if_pos e, ins1_lt (by omega)]
  · rw [if_neg e, if_neg e]
theorem RC.co_leaf (h : RC σ τ nk nb fl ns no up sc) {r : Nat → Int} {i : Nat} (hi : i < fl) : coM τ ns no nb fl r 23 i = τ 23 i ∧ coM τ ns no nb fl r 24 i = τ 24 i ∧ coM τ ns no nb fl r 25 i = τ 25 i ∧ coM τ ns no nb fl r 26 i = τ 26 i := by
  rw [co_1 (by decide) (by decide), co_1 (by decide) (by decide), co_1 (by decide) (by decide), co_1 (by decide) (by decide)]
  exact ⟨ins1_lt hi, ins1_lt hi, ins1_lt hi, ins1_lt hi⟩
theorem RC.co_new {r : Nat → Int} {t : Nat} (ht : t < no) : coM τ ns no nb fl r 23 (fl + t) = τ 16 t ∧ coM τ ns no nb fl r 24 (fl + t) = τ 17 t ∧ coM τ ns no nb fl r 25 (fl + t) = τ 18 t ∧ coM τ ns no nb fl r 26 (fl + t) = τ 19 t := by
  rw [co_1 (by decide) (by decide), co_1 (by decide) (by decide), co_1 (by decide) (by decide), co_1 (by decide) (by decide)]
  exact ⟨ins1_ge ht, ins1_ge ht, ins1_ge ht, ins1_ge ht⟩
set_option maxHeartbeats 2000000 in
theorem RC.u_con0 (h : RC σ τ nk nb fl ns no up sc) {v : Int} (hnb : nb ≠ 12) (hfn : fl + no ≤ 16) {r : Nat → Int} (p : v = (nb : Int) + 1 ∧ (∀ d, d < 53 → d ≠ 12 → d ≠ 13 → d ≠ 14 → d ≠ 15 → d ≠ 16 → d ≠ 17 → d ≠ 43 → d ≠ (19 + 2 * nb) → d ≠ (19 + 2 * nb + 1) → σ' d = σ d) ∧ (∀ k, σ' (53 + 5 * k) = σ (53 + 5 * k)) ∧ (∀ d i, 53 ≤ d → i < fl → σ' d i = σ d i) ∧ σ' 12 5 = ((fl + no : Nat) : Int) ∧ yTr σ' (lap σ (lfm τ fl) fl no) ∧ (∀ i, i < fl → σ' 14 i = σ 14 i ∧ σ' 15 i = σ 15 i ∧ σ' 16 i = σ 16 i) ∧ (∀ t, t < no → σ' 14 (fl + t) = σ (50 + t) 5 ∧ σ' 15 (fl + t) = σ (50 + t) 6 ∧ σ' 16 (fl + t) = σ (50 + t) 4) ∧ (∀ k, k < nk → ∀ t, t < no → kSee σ' (53 + 5 * k) (((fun k => (τ 3 k).toNat) k : Nat) : Int) (τ 17 t) (σ (50 + t) 5) (σ (50 + t) 6) (σ (50 + t) 3) (fl + t)) ∧ σ' (19 + 2 * nb) 1 = (ns : Int) ∧ σ' (19 + 2 * nb) 2 = (no : Int) ∧ σ' (19 + 2 * nb) 3 = τ 0 22 ∧ σ' (19 + 2 * nb) 4 = nd (lap σ (lfm τ fl) fl no) 4 0 ∧ (∀ j, j < ns → σ' (19 + 2 * nb + 1) j = σ (46 + 2 * j) 8) ∧ σ' 17 1 = σ 17 1 ∧ σ' 17 2 = (nb : Int) + 1 ∧ σ' 17 3 = σ 17 3 - τ 0 22 ∧ σ' 43 2 = 0 ∧ σ' 43 3 = 0 ∧ σ' 43 4 = 0 ∧ σ' 43 5 = 0) : RX σ' (coM τ ns no nb fl r) := by
  obtain ⟨p1, f0, fk, fd, f12, fT, f14, f15, fS, b1, b2, b3, b4, b5, f171, f172, f173, d2, d3, d4, d5⟩ := p
  have hB := h.B
  have hD := h.D
  have hn := hB.n
  have hn2 := hD.n2
  have ho2 := hD.o2
  have hflb := hB.flb
  have hou : ∀ j, j < no → σ (50 + j) 3 = τ 16 j := fun j hj => (hD.ou j hj).c
  have eL := lap_co (σ := σ) (τ := τ) (ns := ns) (no := no) (nb := nb) (fl := fl) (r := r) hou
  rw [eL] at fT b4
  have lo : ∀ d, d < 12 → σ' d = σ d := fun d hd => f0 d (by omega) (by omega) (by omega) (by omega) (by omega) (by omega) (by omega) (by omega) (by omega) (by omega)
  have mid : ∀ d, 43 < d → d < 53 → σ' d = σ d := fun d h1 h2 => f0 d (by omega) (by omega) (by omega) (by omega) (by omega) (by omega) (by omega) (by omega) (by omega) (by omega)
  have blk : ∀ b, b < nb → σ' (19 + 2 * b) = σ (19 + 2 * b) ∧ σ' (19 + 2 * b + 1) = σ (19 + 2 * b + 1) := fun b hb => ⟨f0 _ (by omega) (by omega) (by omega) (by omega) (by omega) (by omega) (by omega) (by omega) (by omega) (by omega), f0 _ (by omega) (by omega) (by omega) (by omega) (by omega) (by omega) (by omega) (by omega) (by omega) (by omega)⟩
  refine ⟨nk, nb + 1, fl + no, 0, 0, fun b => if b = nb then fl + no else up b, fun b => if b = nb then ns else sc b, yBs_to h.hBs (lo 3 (by decide)) (lo 5 (by decide)) (lo 7 (by decide)) (lo 9 (by decide)) (lo 11 (by decide)), mTb_to h.hTb (co_o (by decide) (by decide)) (co_o (by decide) (by decide)), rK_cg h.K (by rw [lo 0 (by decide)]) (co_0 (by decide) (by decide) (by decide) (by decide) (by decide)) (co_o (by decide) (by decide)) (fun k _ => fk k), ?_, ?_, ?_, ?_⟩
  · refine ⟨by omega, by rw [f172]; omega, ?_, hfn, f12, ?_, fun b hb => ?_, fun b hb => ?_, fun b hb => ?_, fun b hb => ?_, fun b hb => ?_, fun b hb => ?_, ?_, fun b hb => ?_, fun b hb j hj => ?_, fun b hb j h1 h2 => ?_, f171.trans hB.r0, fun b hb => ?_⟩
    · show (nb : Int) + 1 = _; omega
    · rw [if_neg (by omega), show nb + 1 - 1 = nb by omega]; show fl + no = if nb = nb then fl + no else up nb; rw [if_pos rfl]
    · rw [co_20]
      by_cases e : b = nb
      · rw [if_pos e]; show _ = (((if b = nb then fl + no else up b) : Nat) : Int); rw [if_pos e]; omega
      · rw [if_neg e]; show _ = (((if b = nb then fl + no else up b) : Nat) : Int); rw [if_neg e]; exact hB.u b (by omega)
    · show (if b = nb then fl + no else up b) ≤ (if b + 1 = nb then fl + no else up (b + 1))
      rw [if_neg (by omega)]
      by_cases e : b + 1 = nb
      · rw [if_pos e]; have := hB.ufl b (by omega); omega
      · rw [if_neg e]; exact hB.mono b (by omega)
    · show (if b = nb then fl + no else up b) ≤ fl + no
      by_cases e : b = nb
      · rw [if_pos e]; exact Nat.le_refl _
      · rw [if_neg e]; have := hB.ufl b (by omega); omega
    · show σ' (19 + 2 * b) 2 = (((if b = nb then fl + no else up b) - (if b = 0 then 0 else if b - 1 = nb then fl + no else up (b - 1)) : Nat) : Int)
      by_cases e : b = nb
      · subst e
        rw [if_pos rfl, b2]
        have e2 : (if b = 0 then 0 else if b - 1 = b then fl + no else up (b - 1)) = fl := by
          by_cases e0 : b = 0
          · rw [if_pos e0]; rw [if_pos e0] at hflb; exact hflb.symm
          · rw [if_neg e0, if_neg (by omega)]; rw [if_neg e0] at hflb; exact hflb.symm
        rw [e2]
        omega
      · rw [if_neg e, (blk b (by omega)).1, show (if b = 0 then 0 else if b - 1 = nb then fl + no else up (b - 1)) = (if b = 0 then 0 else up (b - 1)) from by split; rfl; rw [if_neg (by omega)]]
        exact hB.oc b (by omega)
    · rw [co_21]
      by_cases e : b = nb
      · subst e; rw [if_pos rfl]; exact b3
      · rw [if_neg e, (blk b (by omega)).1]; exact hB.bal b (by omega)
    · rw [co_21]
      by_cases e : b = nb
      · rw [if_pos e]; exact hD.balr
      · rw [if_neg e]; exact hB.balr b (by omega)
    · rw [f173, hB.con]
      show _ = -(sm (coM τ ns no nb fl r 21) nb + coM τ ns no nb fl r 21 nb)
      rw [co_21, if_pos rfl, sm_cg (f := coM τ ns no nb fl r 21) (g := τ 21) (fun j hj => by rw [co_21, if_neg (by omega)])]
      omega
    · show (if b = nb then ns else sc b) ≤ 2 ∧ σ' (19 + 2 * b) 1 = (((if b = nb then ns else sc b) : Nat) : Int)
      by_cases e : b = nb
      · subst e; rw [if_pos rfl]; exact ⟨hn2, b1⟩
      · rw [if_neg e, (blk b (by omega)).1]; exact hB.s b (by omega)
    · have hj : j < (if b = nb then ns else sc b) := hj
      rw [co_22]
      by_cases e : b = nb
      · subst e
        rw [if_pos rfl] at hj
        have hm := hD.m10 j (by omega)
        rw [b5 j hj, (hD.sp j hj).nl]
        rcases (show j = 0 ∨ j = 1 by omega) with e0 | e1
        · subst e0
          rw [if_neg (by omega), if_pos (by omega), if_pos hj]
          exact ⟨rfl, hm⟩
        · subst e1
          rw [if_pos rfl, if_pos hj]
          exact ⟨rfl, hm⟩
      · rw [if_neg e] at hj
        have hs2 := (hB.s b (by omega)).1
        rw [if_neg (by omega), if_neg (by omega), (blk b (by omega)).2]
        exact hB.nu b (by omega) j hj
    · have h1 : (if b = nb then ns else sc b) ≤ j := h1
      rw [co_22]
      by_cases e : b = nb
      · subst e
        rw [if_pos rfl] at h1
        rcases (show j = 0 ∨ j = 1 by omega) with e0 | e1
        · subst e0
          rw [if_neg (by omega), if_pos (by omega), if_neg (by omega)]
        · subst e1
          rw [if_pos rfl, if_neg (by omega)]
      · rw [if_neg e] at h1
        rw [if_neg (by omega), if_neg (by omega)]
        exact hB.nn b (by omega) j h1 h2
    · show σ' (19 + 2 * b) 4 = nd (lfm (coM τ ns no nb fl r) (if b = nb then fl + no else up b)) 4 0
      by_cases e : b = nb
      · subst e; rw [if_pos rfl]; exact b4
      · rw [if_neg e, (blk b (by omega)).1, lfm_co (hB.ufl b (by omega))]; exact hB.r b (by omega)
  · refine ⟨fT, fun i hi => ?_, fun i hi => ?_, fun i hi => ?_, fun i hi => ?_, fun i hi => ?_⟩
    · by_cases e : i < fl
      · rw [(h.co_leaf e).1]; exact h.T.lr i e
      · obtain ⟨t, rfl⟩ : ∃ t, i = fl + t := ⟨i - fl, by omega⟩
        rw [(RC.co_new (by omega)).1]; exact (hD.ou t (by omega)).cr
    · by_cases e : i < fl
      · rw [(h.co_leaf e).2.1, (f14 i e).2.2]; exact h.T.op i e
      · obtain ⟨t, rfl⟩ : ∃ t, i = fl + t := ⟨i - fl, by omega⟩
        rw [(RC.co_new (by omega)).2.1, (f15 t (by omega)).2.2]; exact (hD.ou t (by omega)).e
    · by_cases e : i < fl
      · rw [(h.co_leaf e).2.2.1, (f14 i e).1]; exact h.T.f i e
      · obtain ⟨t, rfl⟩ : ∃ t, i = fl + t := ⟨i - fl, by omega⟩
        rw [(RC.co_new (by omega)).2.2.1, (f15 t (by omega)).1]; exact (hD.ou t (by omega)).f
    · by_cases e : i < fl
      · rw [(h.co_leaf e).2.2.2, (f14 i e).2.1]; exact h.T.g i e
      · obtain ⟨t, rfl⟩ : ∃ t, i = fl + t := ⟨i - fl, by omega⟩
        rw [(RC.co_new (by omega)).2.2.2, (f15 t (by omega)).2.1]; exact (hD.ou t (by omega)).g
    · by_cases e : i < fl
      · rw [(h.co_leaf e).2.1, (h.co_leaf e).2.2.1, (h.co_leaf e).2.2.2]; exact h.T.ld i e
      · obtain ⟨t, rfl⟩ : ∃ t, i = fl + t := ⟨i - fl, by omega⟩
        have hq := hD.ou t (by omega)
        rw [(RC.co_new (by omega)).2.1, (RC.co_new (by omega)).2.2.1, (RC.co_new (by omega)).2.2.2]
        exact ⟨hq.er, hq.fr, hq.gr⟩
  · intro k hk i hi
    rw [co_o (c := 3) (by decide) (by decide)]
    by_cases e : i < fl
    · rw [(h.co_leaf e).1, (h.co_leaf e).2.1, (h.co_leaf e).2.2.1, (h.co_leaf e).2.2.2]
      exact kSee_tk (h.S k hk i e) (fun d hd => fd d i (by omega) e)
    · obtain ⟨t, rfl⟩ : ∃ t, i = fl + t := ⟨i - fl, by omega⟩
      have hq := hD.ou t (by omega)
      have hs := h.K.sec k hk
      have h1 := fS k hk t (by omega)
      rw [(RC.co_new (by omega)).1, (RC.co_new (by omega)).2.1, (RC.co_new (by omega)).2.2.1, (RC.co_new (by omega)).2.2.2]
      rw [hq.f, hq.g, hq.c, show ((((τ 3 k).toNat : Nat)) : Int) = τ 3 k by omega] at h1
      exact h1
  · exact ⟨by decide, by decide, d2, rfl, d3, rfl, d4, (show (-9999 : Int) ≤ 0 ∧ (0 : Int) ≤ 9999 by decide), d5, (show (0 : Int) ≤ 0 ∧ (0 : Int) < 2473 by decide), fun j hj => absurd hj (Nat.not_lt_zero j), fun j hj => absurd hj (Nat.not_lt_zero j), fun j hj => by rw [mid _ (by omega) (by omega)]; exact hD.s8 j hj, fun j hj => by rw [mid _ (by omega) (by omega)]; exact hD.s5 j hj, fun j hj => by rw [co_o (by decide) (by decide)]; exact hD.m10 j hj⟩
theorem RC.u_connect (h : RC σ τ nk nb fl ns no up sc) {v v' : Int} (p : ((cFault ns no (jgo (jA σ nb) (jB σ (fun j => τ 3 (τ 4 j).toNat) (fun j => (τ 5 j).toNat)) (jC σ sc nb) ns ns) (cif (∃ j, j < no ∧ ¬ σ (50 + j) 3 = cOf ((fun j => τ 3 (τ 12 j).toNat) j) (σ (50 + j) 1) (σ (50 + j) 2)) (-4) 0) (cW σ ns no nb fl (fun j => 1281 * τ 6 j + 1369 * τ 8 j) (fun j => 1281 * τ 13 j + 1369 * τ 15 j) (τ 0 22))) ≠ 0 → v = (cFault ns no (jgo (jA σ nb) (jB σ (fun j => τ 3 (τ 4 j).toNat) (fun j => (τ 5 j).toNat)) (jC σ sc nb) ns ns) (cif (∃ j, j < no ∧ ¬ σ (50 + j) 3 = cOf ((fun j => τ 3 (τ 12 j).toNat) j) (σ (50 + j) 1) (σ (50 + j) 2)) (-4) 0) (cW σ ns no nb fl (fun j => 1281 * τ 6 j + 1369 * τ 8 j) (fun j => 1281 * τ 13 j + 1369 * τ 15 j) (τ 0 22))) ∧ σ' = σ) ∧ ((cFault ns no (jgo (jA σ nb) (jB σ (fun j => τ 3 (τ 4 j).toNat) (fun j => (τ 5 j).toNat)) (jC σ sc nb) ns ns) (cif (∃ j, j < no ∧ ¬ σ (50 + j) 3 = cOf ((fun j => τ 3 (τ 12 j).toNat) j) (σ (50 + j) 1) (σ (50 + j) 2)) (-4) 0) (cW σ ns no nb fl (fun j => 1281 * τ 6 j + 1369 * τ 8 j) (fun j => 1281 * τ 13 j + 1369 * τ 15 j) (τ 0 22))) = 0 → v = (nb : Int) + 1 ∧ (∀ d, d < 53 → d ≠ 12 → d ≠ 13 → d ≠ 14 → d ≠ 15 → d ≠ 16 → d ≠ 17 → d ≠ 43 → d ≠ (19 + 2 * nb) → d ≠ (19 + 2 * nb + 1) → σ' d = σ d) ∧ (∀ k, σ' (53 + 5 * k) = σ (53 + 5 * k)) ∧ (∀ d i, 53 ≤ d → i < fl → σ' d i = σ d i) ∧ σ' 12 5 = ((fl + no : Nat) : Int) ∧ yTr σ' (lap σ (lfm τ fl) fl no) ∧ (∀ i, i < fl → σ' 14 i = σ 14 i ∧ σ' 15 i = σ 15 i ∧ σ' 16 i = σ 16 i) ∧ (∀ t, t < no → σ' 14 (fl + t) = σ (50 + t) 5 ∧ σ' 15 (fl + t) = σ (50 + t) 6 ∧ σ' 16 (fl + t) = σ (50 + t) 4) ∧ (∀ k, k < nk → ∀ t, t < no → kSee σ' (53 + 5 * k) (((fun k => (τ 3 k).toNat) k : Nat) : Int) (τ 17 t) (σ (50 + t) 5) (σ (50 + t) 6) (σ (50 + t) 3) (fl + t)) ∧ σ' (19 + 2 * nb) 1 = (ns : Int) ∧ σ' (19 + 2 * nb) 2 = (no : Int) ∧ σ' (19 + 2 * nb) 3 = τ 0 22 ∧ σ' (19 + 2 * nb) 4 = nd (lap σ (lfm τ fl) fl no) 4 0 ∧ (∀ j, j < ns → σ' (19 + 2 * nb + 1) j = σ (46 + 2 * j) 8) ∧ σ' 17 1 = σ 17 1 ∧ σ' 17 2 = (nb : Int) + 1 ∧ σ' 17 3 = σ 17 3 - τ 0 22 ∧ σ' 43 2 = 0 ∧ σ' 43 3 = 0 ∧ σ' 43 4 = 0 ∧ σ' 43 5 = 0)) (q : ((cFault ns no (jgo (mA τ up nb) (mB τ (fun j => (τ 4 j).toNat) (fun j => (τ 5 j).toNat)) (mC τ nb) ns ns) (cif (∃ j, j < no ∧ ¬ τ 16 j = cOf (τ 3 ((fun j => (τ 12 j).toNat) j)) (τ 13 j) (τ 14 j)) (-4) 0) (mW τ ns no nb fl)) ≠ 0 → v' = (cFault ns no (jgo (mA τ up nb) (mB τ (fun j => (τ 4 j).toNat) (fun j => (τ 5 j).toNat)) (mC τ nb) ns ns) (cif (∃ j, j < no ∧ ¬ τ 16 j = cOf (τ 3 ((fun j => (τ 12 j).toNat) j)) (τ 13 j) (τ 14 j)) (-4) 0) (mW τ ns no nb fl)) ∧ ∀ d, d ≠ 27 → τ' d = τ d) ∧ ((cFault ns no (jgo (mA τ up nb) (mB τ (fun j => (τ 4 j).toNat) (fun j => (τ 5 j).toNat)) (mC τ nb) ns ns) (cif (∃ j, j < no ∧ ¬ τ 16 j = cOf (τ 3 ((fun j => (τ 12 j).toNat) j)) (τ 13 j) (τ 14 j)) (-4) 0) (mW τ ns no nb fl)) = 0 → v' = (nb : Int) + 1 ∧ ∃ r, τ' = coM τ ns no nb fl r)) : v = v' ∧ RX σ' τ' := by
  rw [h.flt] at p
  by_cases hc : (cFault ns no (jgo (mA τ up nb) (mB τ (fun j => (τ 4 j).toNat) (fun j => (τ 5 j).toNat)) (mC τ nb) ns ns) (cif (∃ j, j < no ∧ ¬ τ 16 j = cOf (τ 3 ((fun j => (τ 12 j).toNat) j)) (τ 13 j) (τ 14 j)) (-4) 0) (mW τ ns no nb fl)) = 0
  · have p2 := p.2 hc
    obtain ⟨q1, r, q2⟩ := q.2 hc
    subst q2
    have hw := mW_0 (cF_0 hc)
    exact ⟨p2.1.trans q1.symm, h.u_con0 hw.1 hw.2 p2⟩
  · obtain ⟨p1, p2⟩ := p.1 hc
    obtain ⟨q1, q2⟩ := q.1 hc
    subst p2
    exact ⟨p1.trans q1.symm, _, _, _, _, _, _, _, h.row q2⟩
end RU
