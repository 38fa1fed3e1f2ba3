theorem y2_oj {σ : yM} {c i d j : Nat} {v : Int} (h : j ≠ i) : y2 σ c i v d j = σ d j := by
  unfold y2
  rw [if_neg h]
  split <;> rfl
section RU
variable {σ τ σ' τ' : yM} {nk nk' nb fl ns no : Nat} {up sc : Nat → Nat}
theorem RC.u_al0 (h : RC σ τ nk nb fl ns no up sc) {x9 v v' : Int} (p : (0 < ns ∧ 0 ≤ x9 ∧ x9 < 10009 → v = 1 ∧ σ' = y2 σ 46 7 x9) ∧ (¬ (0 < ns ∧ 0 ≤ x9 ∧ x9 < 10009) → v = 0 ∧ σ' = σ)) (q : (0 < ns ∧ 0 ≤ x9 ∧ x9 < 10009 → v' = 1 ∧ τ' = y2 τ 9 0 x9) ∧ (¬ (0 < ns ∧ 0 ≤ x9 ∧ x9 < 10009) → v' = 0 ∧ τ' = τ)) : v = v' ∧ RX σ' τ' := by
  by_cases hc : 0 < ns ∧ 0 ≤ x9 ∧ x9 < 10009
  · obtain ⟨p1, p2⟩ := p.1 hc
    obtain ⟨q1, q2⟩ := q.1 hc
    subst p2; subst q2
    have hx : 0 ≤ x9 ∧ x9 < 10009 := by omega
    have hD := h.D
    have hn2 := h.D.n2
    have ho2 := h.D.o2
    refine ⟨by omega, nk, nb, fl, ns, no, up, sc, h.u_dr (σ' := y2 σ 46 7 x9) (τ' := y2 τ 9 0 x9) (fun d hd => (y2_ne (by omega))) rfl rfl (fun c hc => y2_ne (by omega)) ⟨hD.n2, hD.o2, hD.a, hD.b, hD.c, hD.d, hD.bal, hD.balr, hD.tu, hD.tur, fun j hj => ?_, fun j hj => ?_, fun j hj => ?_, fun j hj => ?_, fun j hj => ?_⟩⟩
    · by_cases e : j = 0
      · subst e
        have hs := hD.sp 0 hj
        exact ⟨hs.kk, hs.ll, hs.v, hs.vr, hs.t, hs.tr, hs.w, hs.wr, rfl, hx, hs.nl, hs.cv, hs.p, hs.pr⟩
      · exact rSp_cg (hD.sp j hj) (Nat.le_refl _) (y2_ne (by omega)) (y2_ne (by omega)) (fun _ _ => rfl) rfl rfl rfl rfl rfl (y2_ot e) rfl (fun _ _ => rfl)
    · exact rOu_cg (hD.ou j hj) (Nat.le_refl _) (y2_ne (by omega)) (fun _ _ => rfl) (fun c h1 _ => y2_cl (by omega))
    · rw [y2_oj (by decide)]; exact hD.s8 j hj
    · rw [y2_oj (by decide)]; exact hD.s5 j hj
    · exact hD.m10 j hj
  · obtain ⟨p1, p2⟩ := p.2 hc
    obtain ⟨q1, q2⟩ := q.2 hc
    subst p2; subst q2
    exact ⟨by omega, _, _, _, _, _, _, _, h⟩
theorem RC.u_al1 (h : RC σ τ nk nb fl ns no up sc) {x9 v v' : Int} (p : (0 < ns ∧ 0 ≤ x9 ∧ x9 < 10009 → v = 1 ∧ σ' = y2 σ 46 8 x9) ∧ (¬ (0 < ns ∧ 0 ≤ x9 ∧ x9 < 10009) → v = 0 ∧ σ' = σ)) (q : (0 < ns ∧ 0 ≤ x9 ∧ x9 < 10009 → v' = 1 ∧ τ' = y2 τ 10 0 x9) ∧ (¬ (0 < ns ∧ 0 ≤ x9 ∧ x9 < 10009) → v' = 0 ∧ τ' = τ)) : v = v' ∧ RX σ' τ' := by
  by_cases hc : 0 < ns ∧ 0 ≤ x9 ∧ x9 < 10009
  · obtain ⟨p1, p2⟩ := p.1 hc
    obtain ⟨q1, q2⟩ := q.1 hc
    subst p2; subst q2
    have hx : 0 ≤ x9 ∧ x9 < 10009 := by omega
    have hD := h.D
    have hn2 := h.D.n2
    have ho2 := h.D.o2
    refine ⟨by omega, nk, nb, fl, ns, no, up, sc, h.u_dr (σ' := y2 σ 46 8 x9) (τ' := y2 τ 10 0 x9) (fun d hd => (y2_ne (by omega))) rfl rfl (fun c hc => y2_ne (by omega)) ⟨hD.n2, hD.o2, hD.a, hD.b, hD.c, hD.d, hD.bal, hD.balr, hD.tu, hD.tur, fun j hj => ?_, fun j hj => ?_, fun j hj => ?_, fun j hj => ?_, fun j hj => ?_⟩⟩
    · by_cases e : j = 0
      · subst e
        have hs := hD.sp 0 hj
        exact ⟨hs.kk, hs.ll, hs.v, hs.vr, hs.t, hs.tr, hs.w, hs.wr, hs.a, hs.ar, rfl, hs.cv, hs.p, hs.pr⟩
      · exact rSp_cg (hD.sp j hj) (Nat.le_refl _) (y2_ne (by omega)) (y2_ne (by omega)) (fun _ _ => rfl) rfl rfl rfl rfl rfl rfl (y2_ot e) (fun _ _ => rfl)
    · exact rOu_cg (hD.ou j hj) (Nat.le_refl _) (y2_ne (by omega)) (fun _ _ => rfl) (fun c h1 _ => y2_cl (by omega))
    · by_cases e : j = 0
      · subst e; exact hx
      · rw [y2_cl (by omega)]; exact hD.s8 j hj
    · rw [y2_oj (by decide)]; exact hD.s5 j hj
    · by_cases e : j = 0
      · subst e; exact hx
      · rw [y2_ot e]; exact hD.m10 j hj
  · obtain ⟨p1, p2⟩ := p.2 hc
    obtain ⟨q1, q2⟩ := q.2 hc
    subst p2; subst q2
    exact ⟨by omega, _, _, _, _, _, _, _, h⟩
theorem RC.u_al2 (h : RC σ τ nk nb fl ns no up sc) {x9 v v' : Int} (p : (0 < ns ∧ 0 ≤ x9 ∧ x9 < 1000 → v = 1 ∧ σ' = y2 (y2 σ 46 3 x9) 46 9 (eE (1281 * x9 + 1369 * σ 46 5))) ∧ (¬ (0 < ns ∧ 0 ≤ x9 ∧ x9 < 1000) → v = 0 ∧ σ' = σ)) (q : (0 < ns ∧ 0 ≤ x9 ∧ x9 < 1000 → v' = 1 ∧ τ' = y2 τ 6 0 x9) ∧ (¬ (0 < ns ∧ 0 ≤ x9 ∧ x9 < 1000) → v' = 0 ∧ τ' = τ)) : v = v' ∧ RX σ' τ' := by
  by_cases hc : 0 < ns ∧ 0 ≤ x9 ∧ x9 < 1000
  · obtain ⟨p1, p2⟩ := p.1 hc
    obtain ⟨q1, q2⟩ := q.1 hc
    subst p2; subst q2
    have hx : 0 ≤ x9 ∧ x9 < 1000 := by omega
    have hD := h.D
    have hn2 := h.D.n2
    have ho2 := h.D.o2
    refine ⟨by omega, nk, nb, fl, ns, no, up, sc, h.u_dr (σ' := y2 (y2 σ 46 3 x9) 46 9 (eE (1281 * x9 + 1369 * σ 46 5))) (τ' := y2 τ 6 0 x9) (fun d hd => ((y2_ne (by omega)).trans (y2_ne (by omega)))) rfl rfl (fun c hc => y2_ne (by omega)) ⟨hD.n2, hD.o2, hD.a, hD.b, hD.c, hD.d, hD.bal, hD.balr, hD.tu, hD.tur, fun j hj => ?_, fun j hj => ?_, fun j hj => ?_, fun j hj => ?_, fun j hj => ?_⟩⟩
    · by_cases e : j = 0
      · subst e
        have hs := hD.sp 0 hj
        exact ⟨hs.kk, hs.ll, rfl, hx, hs.t, hs.tr, hs.w, hs.wr, hs.a, hs.ar, hs.nl, (congrArg (fun q => eE (1281 * x9 + 1369 * q)) hs.w), hs.p, hs.pr⟩
      · exact rSp_cg (hD.sp j hj) (Nat.le_refl _) ((y2_ne (by omega)).trans (y2_ne (by omega))) ((y2_ne (by omega)).trans (y2_ne (by omega))) (fun _ _ => rfl) rfl rfl (y2_ot e) rfl rfl rfl rfl (fun _ _ => rfl)
    · exact rOu_cg (hD.ou j hj) (Nat.le_refl _) ((y2_ne (by omega)).trans (y2_ne (by omega))) (fun _ _ => rfl) (fun c h1 _ => y2_cl (by omega))
    · rw [y2_oj (by decide), y2_oj (by decide)]; exact hD.s8 j hj
    · rw [y2_oj (by decide), y2_oj (by decide)]; exact hD.s5 j hj
    · exact hD.m10 j hj
  · obtain ⟨p1, p2⟩ := p.2 hc
    obtain ⟨q1, q2⟩ := q.2 hc
    subst p2; subst q2
    exact ⟨by omega, _, _, _, _, _, _, _, h⟩
theorem RC.u_al3 (h : RC σ τ nk nb fl ns no up sc) {x9 v v' : Int} (p : (0 < no ∧ 0 ≤ x9 ∧ x9 < 10009 → v = 1 ∧ σ' = y2 σ 50 3 x9) ∧ (¬ (0 < no ∧ 0 ≤ x9 ∧ x9 < 10009) → v = 0 ∧ σ' = σ)) (q : (0 < no ∧ 0 ≤ x9 ∧ x9 < 10009 → v' = 1 ∧ τ' = y2 τ 16 0 x9) ∧ (¬ (0 < no ∧ 0 ≤ x9 ∧ x9 < 10009) → v' = 0 ∧ τ' = τ)) : v = v' ∧ RX σ' τ' := by
  by_cases hc : 0 < no ∧ 0 ≤ x9 ∧ x9 < 10009
  · obtain ⟨p1, p2⟩ := p.1 hc
    obtain ⟨q1, q2⟩ := q.1 hc
    subst p2; subst q2
    have hx : 0 ≤ x9 ∧ x9 < 10009 := by omega
    have hD := h.D
    have hn2 := h.D.n2
    have ho2 := h.D.o2
    refine ⟨by omega, nk, nb, fl, ns, no, up, sc, h.u_dr (σ' := y2 σ 50 3 x9) (τ' := y2 τ 16 0 x9) (fun d hd => (y2_ne (by omega))) rfl rfl (fun c hc => y2_ne (by omega)) ⟨hD.n2, hD.o2, hD.a, hD.b, hD.c, hD.d, hD.bal, hD.balr, hD.tu, hD.tur, fun j hj => ?_, fun j hj => ?_, fun j hj => ?_, fun j hj => ?_, fun j hj => ?_⟩⟩
    · exact rSp_cg (hD.sp j hj) (Nat.le_refl _) (y2_ne (by omega)) (y2_ne (by omega)) (fun _ _ => rfl) rfl rfl rfl rfl rfl rfl rfl (fun _ _ => rfl)
    · by_cases e : j = 0
      · subst e
        have hs := hD.ou 0 hj
        exact ⟨hs.kk, hs.v, hs.vr, hs.t, hs.tr, rfl, hx, hs.e, hs.er, hs.f, hs.fr, hs.g, hs.gr, hs.w, hs.wr, hs.cv⟩
      · exact rOu_cg (hD.ou j hj) (Nat.le_refl _) (y2_ne (by omega)) (fun _ _ => rfl) (fun c h1 _ => y2_oj e)
    · rw [y2_oj (by decide)]; exact hD.s8 j hj
    · rw [y2_oj (by decide)]; exact hD.s5 j hj
    · exact hD.m10 j hj
  · obtain ⟨p1, p2⟩ := p.2 hc
    obtain ⟨q1, q2⟩ := q.2 hc
    subst p2; subst q2
    exact ⟨by omega, _, _, _, _, _, _, _, h⟩
theorem RC.u_al4 (h : RC σ τ nk nb fl ns no up sc) {x9 v v' : Int} (p : (0 < no ∧ 0 ≤ x9 ∧ x9 < 1000 → v = 1 ∧ σ' = y2 σ 50 5 x9) ∧ (¬ (0 < no ∧ 0 ≤ x9 ∧ x9 < 1000) → v = 0 ∧ σ' = σ)) (q : (0 < no ∧ 0 ≤ x9 ∧ x9 < 1000 → v' = 1 ∧ τ' = y2 τ 18 0 x9) ∧ (¬ (0 < no ∧ 0 ≤ x9 ∧ x9 < 1000) → v' = 0 ∧ τ' = τ)) : v = v' ∧ RX σ' τ' := by
  by_cases hc : 0 < no ∧ 0 ≤ x9 ∧ x9 < 1000
  · obtain ⟨p1, p2⟩ := p.1 hc
    obtain ⟨q1, q2⟩ := q.1 hc
    subst p2; subst q2
    have hx : 0 ≤ x9 ∧ x9 < 1000 := by omega
    have hD := h.D
    have hn2 := h.D.n2
    have ho2 := h.D.o2
    refine ⟨by omega, nk, nb, fl, ns, no, up, sc, h.u_dr (σ' := y2 σ 50 5 x9) (τ' := y2 τ 18 0 x9) (fun d hd => (y2_ne (by omega))) rfl rfl (fun c hc => y2_ne (by omega)) ⟨hD.n2, hD.o2, hD.a, hD.b, hD.c, hD.d, hD.bal, hD.balr, hD.tu, hD.tur, fun j hj => ?_, fun j hj => ?_, fun j hj => ?_, fun j hj => ?_, fun j hj => ?_⟩⟩
    · exact rSp_cg (hD.sp j hj) (Nat.le_refl _) (y2_ne (by omega)) (y2_ne (by omega)) (fun _ _ => rfl) rfl rfl rfl rfl rfl rfl rfl (fun _ _ => rfl)
    · by_cases e : j = 0
      · subst e
        have hs := hD.ou 0 hj
        exact ⟨hs.kk, hs.v, hs.vr, hs.t, hs.tr, hs.c, hs.cr, hs.e, hs.er, rfl, hx, hs.g, hs.gr, hs.w, hs.wr, hs.cv⟩
      · exact rOu_cg (hD.ou j hj) (Nat.le_refl _) (y2_ne (by omega)) (fun _ _ => rfl) (fun c h1 _ => y2_oj e)
    · rw [y2_oj (by decide)]; exact hD.s8 j hj
    · rw [y2_cl (by omega)]; exact hD.s5 j hj
    · exact hD.m10 j hj
  · obtain ⟨p1, p2⟩ := p.2 hc
    obtain ⟨q1, q2⟩ := q.2 hc
    subst p2; subst q2
    exact ⟨by omega, _, _, _, _, _, _, _, h⟩
theorem RC.u_al5 (h : RC σ τ nk nb fl ns no up sc) {x9 v v' : Int} (p : (0 ≤ x9 ∧ x9 < 2473 → v = 1 ∧ σ' = y2 σ 43 5 x9) ∧ (¬ (0 ≤ x9 ∧ x9 < 2473) → v = 0 ∧ σ' = σ)) (q : (0 ≤ x9 ∧ x9 < 2473 → v' = 1 ∧ τ' = y2 τ 0 23 x9) ∧ (¬ (0 ≤ x9 ∧ x9 < 2473) → v' = 0 ∧ τ' = τ)) : v = v' ∧ RX σ' τ' := by
  by_cases hc : 0 ≤ x9 ∧ x9 < 2473
  · obtain ⟨p1, p2⟩ := p.1 hc
    obtain ⟨q1, q2⟩ := q.1 hc
    subst p2; subst q2
    have hx : 0 ≤ x9 ∧ x9 < 2473 := by omega
    have hD := h.D
    have hn2 := h.D.n2
    have ho2 := h.D.o2
    refine ⟨by omega, nk, nb, fl, ns, no, up, sc, h.u_dr (σ' := y2 σ 43 5 x9) (τ' := y2 τ 0 23 x9) (fun d hd => (y2_ne (by omega))) rfl rfl (fun c hc => y2_ne (by omega)) ⟨hD.n2, hD.o2, hD.a, hD.b, hD.c, hD.d, hD.bal, hD.balr, rfl, hx, fun j hj => ?_, fun j hj => ?_, fun j hj => ?_, fun j hj => ?_, fun j hj => ?_⟩⟩
    · exact rSp_cg (hD.sp j hj) (Nat.le_refl _) (y2_ne (by omega)) (y2_ne (by omega)) (fun _ _ => rfl) rfl rfl rfl rfl rfl rfl rfl (fun _ _ => rfl)
    · exact rOu_cg (hD.ou j hj) (Nat.le_refl _) (y2_ne (by omega)) (fun _ _ => rfl) (fun c h1 _ => y2_cl (by omega))
    · rw [y2_cl (by omega)]; exact hD.s8 j hj
    · rw [y2_cl (by omega)]; exact hD.s5 j hj
    · exact hD.m10 j hj
  · obtain ⟨p1, p2⟩ := p.2 hc
    obtain ⟨q1, q2⟩ := q.2 hc
    subst p2; subst q2
    exact ⟨by omega, _, _, _, _, _, _, _, h⟩
theorem RC.u_alter (h : RC σ τ nk nb fl ns no up sc) {w9 x9 v v' : Int} (p : (w9 = 0 → (0 < ns ∧ 0 ≤ x9 ∧ x9 < 10009 → v = 1 ∧ σ' = y2 σ 46 7 x9) ∧ (¬ (0 < ns ∧ 0 ≤ x9 ∧ x9 < 10009) → v = 0 ∧ σ' = σ)) ∧ (w9 = 1 → (0 < ns ∧ 0 ≤ x9 ∧ x9 < 10009 → v = 1 ∧ σ' = y2 σ 46 8 x9) ∧ (¬ (0 < ns ∧ 0 ≤ x9 ∧ x9 < 10009) → v = 0 ∧ σ' = σ)) ∧ (w9 = 2 → (0 < ns ∧ 0 ≤ x9 ∧ x9 < 1000 → v = 1 ∧ σ' = y2 (y2 σ 46 3 x9) 46 9 (eE (1281 * x9 + 1369 * σ 46 5))) ∧ (¬ (0 < ns ∧ 0 ≤ x9 ∧ x9 < 1000) → v = 0 ∧ σ' = σ)) ∧ (w9 = 3 → (0 < no ∧ 0 ≤ x9 ∧ x9 < 10009 → v = 1 ∧ σ' = y2 σ 50 3 x9) ∧ (¬ (0 < no ∧ 0 ≤ x9 ∧ x9 < 10009) → v = 0 ∧ σ' = σ)) ∧ (w9 = 4 → (0 < no ∧ 0 ≤ x9 ∧ x9 < 1000 → v = 1 ∧ σ' = y2 σ 50 5 x9) ∧ (¬ (0 < no ∧ 0 ≤ x9 ∧ x9 < 1000) → v = 0 ∧ σ' = σ)) ∧ (w9 = 5 → (0 ≤ x9 ∧ x9 < 2473 → v = 1 ∧ σ' = y2 σ 43 5 x9) ∧ (¬ (0 ≤ x9 ∧ x9 < 2473) → v = 0 ∧ σ' = σ)) ∧ (w9 < 0 ∨ 5 < w9 → v = 0 ∧ σ' = σ)) (q : (w9 = 0 → (0 < ns ∧ 0 ≤ x9 ∧ x9 < 10009 → v' = 1 ∧ τ' = y2 τ 9 0 x9) ∧ (¬ (0 < ns ∧ 0 ≤ x9 ∧ x9 < 10009) → v' = 0 ∧ τ' = τ)) ∧ (w9 = 1 → (0 < ns ∧ 0 ≤ x9 ∧ x9 < 10009 → v' = 1 ∧ τ' = y2 τ 10 0 x9) ∧ (¬ (0 < ns ∧ 0 ≤ x9 ∧ x9 < 10009) → v' = 0 ∧ τ' = τ)) ∧ (w9 = 2 → (0 < ns ∧ 0 ≤ x9 ∧ x9 < 1000 → v' = 1 ∧ τ' = y2 τ 6 0 x9) ∧ (¬ (0 < ns ∧ 0 ≤ x9 ∧ x9 < 1000) → v' = 0 ∧ τ' = τ)) ∧ (w9 = 3 → (0 < no ∧ 0 ≤ x9 ∧ x9 < 10009 → v' = 1 ∧ τ' = y2 τ 16 0 x9) ∧ (¬ (0 < no ∧ 0 ≤ x9 ∧ x9 < 10009) → v' = 0 ∧ τ' = τ)) ∧ (w9 = 4 → (0 < no ∧ 0 ≤ x9 ∧ x9 < 1000 → v' = 1 ∧ τ' = y2 τ 18 0 x9) ∧ (¬ (0 < no ∧ 0 ≤ x9 ∧ x9 < 1000) → v' = 0 ∧ τ' = τ)) ∧ (w9 = 5 → (0 ≤ x9 ∧ x9 < 2473 → v' = 1 ∧ τ' = y2 τ 0 23 x9) ∧ (¬ (0 ≤ x9 ∧ x9 < 2473) → v' = 0 ∧ τ' = τ)) ∧ (w9 < 0 ∨ 5 < w9 → v' = 0 ∧ τ' = τ)) : v = v' ∧ RX σ' τ' := by
  obtain ⟨p0, p1, p2, p3, p4, p5, p6⟩ := p
  obtain ⟨q0, q1, q2, q3, q4, q5, q6⟩ := q
  by_cases e0 : w9 = 0
  · exact h.u_al0 (p0 e0) (q0 e0)
  by_cases e1 : w9 = 1
  · exact h.u_al1 (p1 e1) (q1 e1)
  by_cases e2 : w9 = 2
  · exact h.u_al2 (p2 e2) (q2 e2)
  by_cases e3 : w9 = 3
  · exact h.u_al3 (p3 e3) (q3 e3)
  by_cases e4 : w9 = 4
  · exact h.u_al4 (p4 e4) (q4 e4)
  by_cases e5 : w9 = 5
  · exact h.u_al5 (p5 e5) (q5 e5)
  obtain ⟨a1, a2⟩ := p6 (by omega)
  obtain ⟨b1, b2⟩ := q6 (by omega)
  subst a2; subst b2
  exact ⟨by omega, _, _, _, _, _, _, _, h⟩
theorem ouM_12 {kn : Nat} {k v9 t9 e9 w9 : Int} : ouM τ no kn k v9 t9 e9 w9 12 no = k := by unfold ouM; rw [y2_cl (by decide), y2_cl (by decide), y2_cl (by decide), y2_cl (by decide), y2_cl (by decide), y2_cl (by decide), y2_cl (by decide), y2_cl (by decide), y2_at]
theorem ouM_13 {kn : Nat} {k v9 t9 e9 w9 : Int} : ouM τ no kn k v9 t9 e9 w9 13 no = v9 := by unfold ouM; rw [y2_cl (by decide), y2_cl (by decide), y2_cl (by decide), y2_cl (by decide), y2_cl (by decide), y2_cl (by decide), y2_cl (by decide), y2_at]
theorem ouM_14 {kn : Nat} {k v9 t9 e9 w9 : Int} : ouM τ no kn k v9 t9 e9 w9 14 no = t9 := by unfold ouM; rw [y2_cl (by decide), y2_cl (by decide), y2_cl (by decide), y2_cl (by decide), y2_cl (by decide), y2_cl (by decide), y2_at]
theorem ouM_15 {kn : Nat} {k v9 t9 e9 w9 : Int} : ouM τ no kn k v9 t9 e9 w9 15 no = w9 := by unfold ouM; rw [y2_cl (by decide), y2_cl (by decide), y2_cl (by decide), y2_cl (by decide), y2_cl (by decide), y2_at]
theorem ouM_16 {kn : Nat} {k v9 t9 e9 w9 : Int} : ouM τ no kn k v9 t9 e9 w9 16 no = cOf (τ 3 kn) v9 t9 := by unfold ouM; rw [y2_cl (by decide), y2_cl (by decide), y2_cl (by decide), y2_cl (by decide), y2_at]
theorem ouM_17 {kn : Nat} {k v9 t9 e9 w9 : Int} : ouM τ no kn k v9 t9 e9 w9 17 no = e9 := by unfold ouM; rw [y2_cl (by decide), y2_cl (by decide), y2_cl (by decide), y2_at]
theorem ouM_18 {kn : Nat} {k v9 t9 e9 w9 : Int} : ouM τ no kn k v9 t9 e9 w9 18 no = (v9 + eX (τ 3 kn * e9)) % 1000 := by unfold ouM; rw [y2_cl (by decide), y2_cl (by decide), y2_at]
theorem ouM_19 {kn : Nat} {k v9 t9 e9 w9 : Int} : ouM τ no kn k v9 t9 e9 w9 19 no = (t9 + eY (τ 3 kn * e9)) % 2473 := by unfold ouM; rw [y2_cl (by decide), y2_at]
theorem ouM_o {kn c : Nat} {k v9 t9 e9 w9 : Int} (h0 : c ≠ 0) (h : c < 12 ∨ 19 < c) : ouM τ no kn k v9 t9 e9 w9 c = τ c := by
  unfold ouM
  rw [y2_ne h0, y2_ne (by omega), y2_ne (by omega), y2_ne (by omega), y2_ne (by omega), y2_ne (by omega), y2_ne (by omega), y2_ne (by omega), y2_ne (by omega)]
theorem ouM_j {kn c j : Nat} {k v9 t9 e9 w9 : Int} (h0 : c ≠ 0) (h : j ≠ no) : ouM τ no kn k v9 t9 e9 w9 c j = τ c j := by
  unfold ouM
  rw [y2_cl h0, y2_oj h, y2_oj h, y2_oj h, y2_oj h, y2_oj h, y2_oj h, y2_oj h, y2_oj h]
theorem ouM_0 {kn j : Nat} {k v9 t9 e9 w9 : Int} (h : j ≠ 13) : ouM τ no kn k v9 t9 e9 w9 0 j = τ 0 j := by
  unfold ouM
  rw [y2_ot h, y2_cl (by decide), y2_cl (by decide), y2_cl (by decide), y2_cl (by decide), y2_cl (by decide), y2_cl (by decide), y2_cl (by decide), y2_cl (by decide)]
theorem ouM_n {kn : Nat} {k v9 t9 e9 w9 : Int} : ouM τ no kn k v9 t9 e9 w9 0 13 = (no : Int) + 1 := by unfold ouM; rw [y2_at]
theorem RC.u_output (h : RC σ τ nk nb fl ns no up sc) {k v9 t9 e9 w9 v v' : Int} (p : (((0 ≤ k ∧ k < (nk : Int)) ∧ (0 ≤ v9 ∧ v9 < 1000) ∧ (0 ≤ t9 ∧ t9 < 2473) ∧ (0 ≤ e9 ∧ e9 < 2473) ∧ (0 ≤ w9 ∧ w9 < 2473) ∧ no ≠ 2) → v = 1 ∧ ouF σ σ' no (τ 3 k.toNat) v9 t9 e9 w9) ∧ (¬ ((0 ≤ k ∧ k < (nk : Int)) ∧ (0 ≤ v9 ∧ v9 < 1000) ∧ (0 ≤ t9 ∧ t9 < 2473) ∧ (0 ≤ e9 ∧ e9 < 2473) ∧ (0 ≤ w9 ∧ w9 < 2473) ∧ no ≠ 2) → v = 0 ∧ σ' = σ)) (q : (((0 ≤ k ∧ k < (nk : Int)) ∧ (0 ≤ v9 ∧ v9 < 1000) ∧ (0 ≤ t9 ∧ t9 < 2473) ∧ (0 ≤ e9 ∧ e9 < 2473) ∧ (0 ≤ w9 ∧ w9 < 2473) ∧ no ≠ 2) → v' = 1 ∧ τ' = ouM τ no k.toNat k v9 t9 e9 w9) ∧ (¬ ((0 ≤ k ∧ k < (nk : Int)) ∧ (0 ≤ v9 ∧ v9 < 1000) ∧ (0 ≤ t9 ∧ t9 < 2473) ∧ (0 ≤ e9 ∧ e9 < 2473) ∧ (0 ≤ w9 ∧ w9 < 2473) ∧ no ≠ 2) → v' = 0 ∧ τ' = τ)) : v = v' ∧ RX σ' τ' := by
  by_cases hc : ((0 ≤ k ∧ k < (nk : Int)) ∧ (0 ≤ v9 ∧ v9 < 1000) ∧ (0 ≤ t9 ∧ t9 < 2473) ∧ (0 ≤ e9 ∧ e9 < 2473) ∧ (0 ≤ w9 ∧ w9 < 2473) ∧ no ≠ 2)
  · obtain ⟨p1, p2⟩ := p.1 hc
    obtain ⟨q1, q2⟩ := q.1 hc
    subst q2
    obtain ⟨f0, f43, f3, c0, c1, c2, c3, c4, c5, c6, c7, c8⟩ := p2
    have hD := h.D
    have hn2 := h.D.n2
    have ho2 := h.D.o2
    have r1 := cOf_rng (τ 3 k.toNat) v9 t9
    refine ⟨by omega, nk, nb, fl, ns, no + 1, up, sc, h.u_dr (fun d hd => f0 d (by omega) (by omega)) (ouM_0 (by decide)) (ouM_0 (by decide)) (fun c hc => ouM_o (by omega) (by omega)) ⟨hD.n2, by omega, by rw [f43 2 (by decide)]; exact hD.a, (ouM_0 (by decide)).trans hD.b, by rw [f3]; omega, by rw [ouM_n]; omega, by rw [f43 4 (by decide), ouM_0 (by decide)]; exact hD.bal, by rw [ouM_0 (by decide)]; exact hD.balr, by rw [f43 5 (by decide), ouM_0 (by decide)]; exact hD.tu, by rw [ouM_0 (by decide)]; exact hD.tur, fun j hj => ?_, fun j hj => ?_, fun j hj => ?_, fun j hj => ?_, fun j hj => ?_⟩⟩
    · exact rSp_cg (hD.sp j hj) (Nat.le_refl _) (f0 _ (by omega) (by omega)) (f0 _ (by omega) (by omega)) (fun _ _ => by rw [ouM_o (by decide) (by decide)]) (by rw [ouM_o (by decide) (by decide)]) (by rw [ouM_o (by decide) (by decide)]) (by rw [ouM_o (by decide) (by decide)]) (by rw [ouM_o (by decide) (by decide)]) (by rw [ouM_o (by decide) (by decide)]) (by rw [ouM_o (by decide) (by decide)]) (by rw [ouM_o (by decide) (by decide)]) (fun _ _ => by rw [ouM_o (by decide) (by decide)])
    · by_cases e : j = no
      · subst e
        refine ⟨⟨k.toNat, by omega, by rw [ouM_12]; omega, by rw [ouM_o (by decide) (by decide)]; exact c0⟩, by rw [ouM_13]; exact c1, by rw [ouM_13]; omega, by rw [ouM_14]; exact c2, by rw [ouM_14]; omega, by rw [ouM_16]; exact c3, by rw [ouM_16]; exact r1, by rw [ouM_17]; exact c4, by rw [ouM_17]; omega, by rw [ouM_18, c5, Int.mul_comm], by rw [ouM_18]; omega, by rw [ouM_19, c6, Int.mul_comm], by rw [ouM_19]; omega, by rw [ouM_15]; exact c7, by rw [ouM_15]; omega, by rw [ouM_13, ouM_15]; exact c8⟩
      · exact rOu_cg (hD.ou j (by omega)) (Nat.le_refl _) (f0 _ (by omega) (by omega)) (fun _ _ => by rw [ouM_o (by decide) (by decide)]) (fun c h1 _ => ouM_j (by omega) e)
    · rw [f0 _ (by omega) (by omega)]; exact hD.s8 j hj
    · rw [f0 _ (by omega) (by omega)]; exact hD.s5 j hj
    · rw [ouM_o (by decide) (by decide)]; exact hD.m10 j hj
  · obtain ⟨p1, p2⟩ := p.2 hc
    obtain ⟨q1, q2⟩ := q.2 hc
    subst p2; subst q2
    exact ⟨by omega, _, _, _, _, _, _, _, h⟩
theorem spM_4 {kn jn : Nat} {k i w : Int} (h : spM τ τ' ns kn jn fl k i w) : τ' 4 ns = k := by rw [h.1 4 (by decide) (by decide), y2_cl (by decide), y2_cl (by decide), y2_cl (by decide), y2_cl (by decide), y2_cl (by decide), y2_cl (by decide), y2_cl (by decide), y2_at]
theorem spM_5 {kn jn : Nat} {k i w : Int} (h : spM τ τ' ns kn jn fl k i w) : τ' 5 ns = i := by rw [h.1 5 (by decide) (by decide), y2_cl (by decide), y2_cl (by decide), y2_cl (by decide), y2_cl (by decide), y2_cl (by decide), y2_cl (by decide), y2_at]
theorem spM_6 {kn jn : Nat} {k i w : Int} (h : spM τ τ' ns kn jn fl k i w) : τ' 6 ns = vOf (τ 3 kn) (τ 24 jn) (τ 25 jn) := by rw [h.1 6 (by decide) (by decide), y2_cl (by decide), y2_cl (by decide), y2_cl (by decide), y2_cl (by decide), y2_cl (by decide), y2_at]
theorem spM_7 {kn jn : Nat} {k i w : Int} (h : spM τ τ' ns kn jn fl k i w) : τ' 7 ns = tOf (τ 3 kn) (τ 24 jn) (τ 26 jn) := by rw [h.1 7 (by decide) (by decide), y2_cl (by decide), y2_cl (by decide), y2_cl (by decide), y2_cl (by decide), y2_at]
theorem spM_8 {kn jn : Nat} {k i w : Int} (h : spM τ τ' ns kn jn fl k i w) : τ' 8 ns = w := by rw [h.1 8 (by decide) (by decide), y2_cl (by decide), y2_cl (by decide), y2_cl (by decide), y2_at]
theorem spM_9 {kn jn : Nat} {k i w : Int} (h : spM τ τ' ns kn jn fl k i w) : τ' 9 ns = nd (lfm τ fl) 4 0 := by rw [h.1 9 (by decide) (by decide), y2_cl (by decide), y2_cl (by decide), y2_at]
theorem spM_10 {kn jn : Nat} {k i w : Int} (h : spM τ τ' ns kn jn fl k i w) : τ' 10 ns = nOf (τ 3 kn) i := by rw [h.1 10 (by decide) (by decide), y2_cl (by decide), y2_at]
theorem spM_o {kn jn c : Nat} {k i w : Int} (h : spM τ τ' ns kn jn fl k i w) (h0 : c ≠ 0) (hc : c < 4 ∨ 11 < c) (h27 : c ≠ 27) : τ' c = τ c := by
  rw [h.1 c (by omega) h27, y2_ne h0, y2_ne (by omega), y2_ne (by omega), y2_ne (by omega), y2_ne (by omega), y2_ne (by omega), y2_ne (by omega), y2_ne (by omega)]
theorem spM_j {kn jn c j : Nat} {k i w : Int} (h : spM τ τ' ns kn jn fl k i w) (h0 : c ≠ 0) (hc : c < 11) (hj : j ≠ ns) : τ' c j = τ c j := by
  rw [h.1 c (by omega) (by omega), y2_cl h0, y2_oj hj, y2_oj hj, y2_oj hj, y2_oj hj, y2_oj hj, y2_oj hj, y2_oj hj]
theorem spM_0 {kn jn j : Nat} {k i w : Int} (h : spM τ τ' ns kn jn fl k i w) (hj : j ≠ 4) : τ' 0 j = τ 0 j := by
  rw [h.1 0 (by decide) (by decide), y2_ot hj, y2_cl (by decide), y2_cl (by decide), y2_cl (by decide), y2_cl (by decide), y2_cl (by decide), y2_cl (by decide), y2_cl (by decide)]
theorem spM_n {kn jn : Nat} {k i w : Int} (h : spM τ τ' ns kn jn fl k i w) : τ' 0 4 = (ns : Int) + 1 := by rw [h.1 0 (by decide) (by decide), y2_at]
theorem lfm_rng {f : Nat} (h : ∀ i, i < f → 0 ≤ τ 23 i ∧ τ 23 i < 10009) : ∀ i, 0 ≤ lfm τ f i ∧ lfm τ f i < 10009 := by
  intro i
  unfold lfm
  split
  · exact h i (by assumption)
  · decide
theorem RC.u_spend (h : RC σ τ nk nb fl ns no up sc) {k i w9 v v' : Int} (p : ((finP σ nk fl k i ∧ ns ≠ 2 ∧ 0 ≤ w9 ∧ w9 < 2473) → v = 1 ∧ spF σ σ' ns k.toNat i.toNat w9) ∧ (¬ (finP σ nk fl k i ∧ ns ≠ 2 ∧ 0 ≤ w9 ∧ w9 < 2473) → v = 0 ∧ σ' = σ)) (q : ((finM τ nk fl k i ∧ ns ≠ 2 ∧ 0 ≤ w9 ∧ w9 < 2473) → v' = 1 ∧ spM τ τ' ns k.toNat i.toNat fl k i w9) ∧ (¬ (finM τ nk fl k i ∧ ns ≠ 2 ∧ 0 ≤ w9 ∧ w9 < 2473) → v' = 0 ∧ τ' = τ)) : v = v' ∧ RX σ' τ' := by
  rw [← h.fin] at q
  by_cases hc : (finP σ nk fl k i ∧ ns ≠ 2 ∧ 0 ≤ w9 ∧ w9 < 2473)
  · obtain ⟨p1, f0, f43, f2, c0, c1, c2, c3, c4, c5, c7, c8, c9, cp⟩ := p.1 hc
    obtain ⟨q1, q2⟩ := q.1 hc
    obtain ⟨⟨g1, g2, g3⟩, hc2⟩ := hc
    have hD := h.D
    have hn2 := h.D.n2
    have ho2 := h.D.o2
    have hfl := h.B.fl16
    obtain ⟨s1, s2, s3, s4⟩ := h.S k.toNat (by omega) i.toNat (by omega)
    rw [show ((i.toNat : Nat) : Int) = i by omega] at s4
    have rv := vOf_rng (τ 3 k.toNat) (τ 24 i.toNat) (τ 25 i.toNat)
    have rt := tOf_rng (τ 3 k.toNat) (τ 24 i.toNat) (τ 26 i.toNat)
    have rn := nOf_rng (τ 3 k.toNat) i
    have rl := nd_rng (lfm_rng h.T.lr)
    refine ⟨by omega, nk, nb, fl, ns + 1, no, up, sc, h.u_dr (fun d hd => f0 d (by omega) (by omega) (by omega)) (spM_0 q2 (by decide)) (spM_0 q2 (by decide)) (fun c hc => spM_o q2 (by omega) (by omega) (by omega)) ⟨by omega, hD.o2, by rw [f2]; omega, by rw [spM_n q2]; omega, by rw [f43 3 (by decide)]; exact hD.c, (spM_0 q2 (by decide)).trans hD.d, by rw [f43 4 (by decide), spM_0 q2 (by decide)]; exact hD.bal, by rw [spM_0 q2 (by decide)]; exact hD.balr, by rw [f43 5 (by decide), spM_0 q2 (by decide)]; exact hD.tu, by rw [spM_0 q2 (by decide)]; exact hD.tur, fun j hj => ?_, fun j hj => ?_, fun j hj => ?_, fun j hj => ?_, fun j hj => ?_⟩⟩
    · by_cases e : j = ns
      · subst e
        refine ⟨⟨k.toNat, by omega, by rw [spM_4 q2]; omega, by rw [spM_o q2 (by decide) (by decide) (by decide), c0]; exact h.K.s0 _ (by omega), by rw [spM_o q2 (by decide) (by decide) (by decide), c1]; exact h.K.s1 _ (by omega)⟩, ⟨i.toNat, by omega, by rw [spM_5 q2]; omega, c2⟩, by rw [spM_6 q2, c3]; exact s2, by rw [spM_6 q2]; exact rv, by rw [spM_7 q2, c4]; exact s3, by rw [spM_7 q2]; exact rt, by rw [spM_8 q2]; exact c5, by rw [spM_8 q2]; omega, by rw [spM_9 q2, c7]; exact h.T.t 4 0 (by decide) (by decide), by rw [spM_9 q2]; exact rl 4 0, by rw [spM_10 q2, c8]; exact s4, by rw [spM_6 q2, spM_8 q2, c9, s2], fun L hL => ?_, fun L hL => ?_⟩
        · rw [cp L hL, q2.2.1 L hL]; exact h.T.t L _ (by omega) (xq_lt (by omega) hL)
        · rw [q2.2.1 L hL]; exact rl _ _
      · exact rSp_cg (hD.sp j (by omega)) (Nat.le_refl _) (f0 _ (by omega) (by omega) (by omega)) (f0 _ (by omega) (by omega) (by omega)) (fun _ _ => by rw [spM_o q2 (by decide) (by decide) (by decide)]) (spM_j q2 (by decide) (by decide) e) (spM_j q2 (by decide) (by decide) e) (spM_j q2 (by decide) (by decide) e) (spM_j q2 (by decide) (by decide) e) (spM_j q2 (by decide) (by decide) e) (spM_j q2 (by decide) (by decide) e) (spM_j q2 (by decide) (by decide) e) (fun L hL => q2.2.2 _ (by omega))
    · exact rOu_cg (hD.ou j hj) (Nat.le_refl _) (f0 _ (by omega) (by omega) (by omega)) (fun _ _ => by rw [spM_o q2 (by decide) (by decide) (by decide)]) (fun c h1 _ => by rw [spM_o q2 (by omega) (by omega) (by omega)])
    · by_cases e : j = ns
      · subst e; rw [c8, s4]; exact rn
      · rw [f0 _ (by omega) (by omega) (by omega)]; exact hD.s8 j hj
    · by_cases e : j = ns
      · subst e; rw [c5]; omega
      · rw [f0 _ (by omega) (by omega) (by omega)]; exact hD.s5 j hj
    · by_cases e : j = ns
      · subst e; rw [spM_10 q2]; exact rn
      · rw [spM_j q2 (by decide) (by decide) e]; exact hD.m10 j hj
  · obtain ⟨p1, p2⟩ := p.2 hc
    obtain ⟨q1, q2⟩ := q.2 hc
    subst p2; subst q2
    exact ⟨by omega, _, _, _, _, _, _, _, h⟩
theorem RC.up_le (h : RC σ τ nk nb fl ns no up sc) : ∀ (n b : Nat), b + n < nb → up b ≤ up (b + n)
  | 0, b, _ => Nat.le_refl _
  | n + 1, b, hb => Nat.le_trans (h.up_le n b (by omega)) (h.B.mono (b + n) (by omega))
theorem lz_lfm {f g : Nat} (h : g ≤ f) : lz (lfm τ f) g = lfm τ g := by
  funext i
  unfold lz lfm
  by_cases e : g ≤ i
  · rw [if_pos e, if_neg (by omega)]
  · rw [if_neg e, if_pos (by omega), if_pos (by omega)]
theorem RC.u_disconnect (h : RC σ τ nk nb fl ns no up sc) {v v' : Int} (p : (nb = 0 → v = -1 ∧ σ' = σ) ∧ ∀ m, nb = m + 1 → v = (m : Int) ∧ (∀ d, d ≠ 12 → d ≠ 13 → d ≠ 17 → σ' d = σ d) ∧ σ' 12 5 = ((fl - (up m - (if m = 0 then 0 else up (m - 1))) : Nat) : Int) ∧ yTr σ' (lz (lfm τ fl) (fl - (up m - (if m = 0 then 0 else up (m - 1))))) ∧ σ' 17 1 = σ 17 1 ∧ σ' 17 2 = (m : Int) ∧ σ' 17 3 = σ 17 3 + σ (19 + 2 * m) 3) (q : (nb = 0 → v' = -1 ∧ τ' = τ) ∧ (nb ≠ 0 → v' = (nb : Int) - 1 ∧ τ' = y2 τ 0 24 ((nb : Int) - 1))) : v = v' ∧ RX σ' τ' := by
  by_cases hc : nb = 0
  · obtain ⟨p1, p2⟩ := p.1 hc
    obtain ⟨q1, q2⟩ := q.1 hc
    subst p2; subst q2
    exact ⟨by omega, _, _, _, _, _, _, _, h⟩
  · obtain ⟨m, rfl⟩ : ∃ m, nb = m + 1 := ⟨nb - 1, by omega⟩
    obtain ⟨p1, f0, f12, fT, f171, f172, f173⟩ := p.2 m rfl
    obtain ⟨q1, q2⟩ := q.2 hc
    subst q2
    have hB := h.B
    have hn := hB.n
    have hflb := hB.flb
    rw [if_neg hc, show m + 1 - 1 = m by omega] at hflb
    have hpl : (if m = 0 then 0 else up (m - 1)) ≤ up m := by
      split
      · omega
      · have := hB.mono (m - 1) (by omega)
        rw [show m - 1 + 1 = m by omega] at this
        exact this
    have e1 : fl - (up m - (if m = 0 then 0 else up (m - 1))) = (if m = 0 then 0 else up (m - 1)) := by omega
    rw [e1] at f12 fT
    obtain ⟨g, hg⟩ : ∃ g, g = (if m = 0 then 0 else up (m - 1)) := ⟨_, rfl⟩
    rw [← hg] at f12 fT hpl
    have hgf : g ≤ fl := by omega
    rw [lz_lfm hgf] at fT
    have hug : ∀ b, b < m → up b ≤ g := fun b hb => by
      rw [hg, if_neg (by omega)]
      have := h.up_le (m - 1 - b) b (by omega)
      rw [show b + (m - 1 - b) = m - 1 by omega] at this
      exact this
    refine ⟨by omega, nk, m, g, ns, no, up, sc, yBs_to h.hBs (f0 3 (by decide) (by decide) (by decide)) (f0 5 (by decide) (by decide) (by decide)) (f0 7 (by decide) (by decide) (by decide)) (f0 9 (by decide) (by decide) (by decide)) (f0 11 (by decide) (by decide) (by decide)), mTb_to h.hTb (y2_ne (by decide)) (y2_ne (by decide)), rK_cg h.K (by rw [f0 0 (by decide) (by decide) (by decide)]) (y2_ot (by decide)) (y2_ne (by decide)) (fun k _ => f0 _ (by omega) (by omega) (by omega)), ⟨by omega, f172, by rw [y2_at]; omega, by omega, f12, hg, fun b hb => by rw [y2_cl (by decide)]; exact hB.u b (by omega), fun b hb => hB.mono b (by omega), hug, fun b hb => by rw [f0 _ (by omega) (by omega) (by omega)]; exact hB.oc b (by omega), fun b hb => by rw [f0 _ (by omega) (by omega) (by omega), y2_cl (by decide)]; exact hB.bal b (by omega), fun b hb => by rw [y2_cl (by decide)]; exact hB.balr b (by omega), ?_, fun b hb => by rw [f0 _ (by omega) (by omega) (by omega)]; exact hB.s b (by omega), fun b hb j hj => by rw [f0 _ (by omega) (by omega) (by omega), y2_cl (by decide)]; exact hB.nu b (by omega) j hj, fun b hb j h1 h2 => by rw [y2_cl (by decide)]; exact hB.nn b (by omega) j h1 h2, f171.trans hB.r0, fun b hb => by rw [f0 _ (by omega) (by omega) (by omega), lfm_to (y2_ne (by decide))]; exact hB.r b (by omega)⟩, ⟨by rw [lfm_to (y2_ne (by decide))]; exact fT, fun i hi => by rw [y2_cl (by decide)]; exact h.T.lr i (by omega), fun i hi => by rw [f0 16 (by decide) (by decide) (by decide), y2_cl (by decide)]; exact h.T.op i (by omega), fun i hi => by rw [f0 14 (by decide) (by decide) (by decide), y2_cl (by decide)]; exact h.T.f i (by omega), fun i hi => by rw [f0 15 (by decide) (by decide) (by decide), y2_cl (by decide)]; exact h.T.g i (by omega), fun i hi => by rw [y2_cl (by decide), y2_cl (by decide), y2_cl (by decide)]; exact h.T.ld i (by omega)⟩, rS_cg (fun k hk i hi => h.S k hk i (by omega)) (fun k _ d _ _ => f0 _ (by omega) (by omega) (by omega)) (y2_ne (by decide)) (y2_ne (by decide)) (y2_ne (by decide)) (y2_ne (by decide)) (y2_ne (by decide)), rD_cg h.D (Nat.le_refl _) (f0 43 (by decide) (by decide) (by decide)) (fun c h1 h2 => f0 c (by omega) (by omega) (by omega)) (y2_ot (by decide)) (y2_ot (by decide)) (y2_ot (by decide)) (y2_ot (by decide)) (fun k _ => y2_cl (by decide)) (fun c h1 h2 => y2_ne (by omega))⟩
    rw [f173, hB.con, hB.bal m (by omega), y2_ne (by decide)]
    show -(sm (τ 21) m + τ 21 m) + τ 21 m = _
    omega
end RU
