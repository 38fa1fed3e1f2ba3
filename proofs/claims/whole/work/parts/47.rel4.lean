section RU
variable {σ τ σ' τ' : yM} {nk nk' nb fl ns no : Nat} {up sc : Nat → Nat}
theorem RC.q_draft (h : RC σ τ nk nb fl ns no up sc) (c9 : Int) : (if 0 ≤ c9 ∧ c9 ≤ 25 then (if c9 < 4 then (if c9 = 0 then σ 43 2 else if c9 = 1 then σ 43 3 else if c9 = 2 then σ 43 4 else (σ 43 5 + sm (fun j => σ (46 + 2 * j) 5) ns - sm (fun j => σ (50 + j) 7) no) % 2473) else if c9 < 8 then (if ((c9 - 4) / 2).toNat < ns then (if (c9 - 4) % 2 = 0 then eX (τ 6 ((c9 - 4) / 2).toNat * 1281 + τ 8 ((c9 - 4) / 2).toNat * 1369) else eY (τ 6 ((c9 - 4) / 2).toNat * 1281 + τ 8 ((c9 - 4) / 2).toNat * 1369)) else -10000) else if c9 < 22 then (if ((c9 - 8) / 7).toNat < no then (if (c9 - 8) % 7 = 0 then σ (50 + ((c9 - 8) / 7).toNat) 3 else if (c9 - 8) % 7 = 1 then eX (τ 17 ((c9 - 8) / 7).toNat) else if (c9 - 8) % 7 = 2 then eY (τ 17 ((c9 - 8) / 7).toNat) else if (c9 - 8) % 7 = 3 then σ (50 + ((c9 - 8) / 7).toNat) 5 else if (c9 - 8) % 7 = 4 then σ (50 + ((c9 - 8) / 7).toNat) 6 else if (c9 - 8) % 7 = 5 then eX (τ 13 ((c9 - 8) / 7).toNat * 1281 + τ 15 ((c9 - 8) / 7).toNat * 1369) else eY (τ 13 ((c9 - 8) / 7).toNat * 1281 + τ 15 ((c9 - 8) / 7).toNat * 1369)) else -10000) else (if ((c9 - 22) / 2).toNat < ns then (if (c9 - 22) % 2 = 0 then σ (46 + 2 * ((c9 - 22) / 2).toNat) 7 else σ (46 + 2 * ((c9 - 22) / 2).toNat) 8) else -10000)) else -10000) = (if 0 ≤ c9 ∧ c9 ≤ 25 then (if c9 < 4 then (if c9 = 0 then τ 0 4 else if c9 = 1 then τ 0 13 else if c9 = 2 then τ 0 22 else (τ 0 23 + sm (τ 8) ns - sm (τ 15) no) % 2473) else if c9 < 8 then (if ((c9 - 4) / 2).toNat < ns then (if (c9 - 4) % 2 = 0 then eX (τ 6 ((c9 - 4) / 2).toNat * 1281 + τ 8 ((c9 - 4) / 2).toNat * 1369) else eY (τ 6 ((c9 - 4) / 2).toNat * 1281 + τ 8 ((c9 - 4) / 2).toNat * 1369)) else -10000) else if c9 < 22 then (if ((c9 - 8) / 7).toNat < no then (if (c9 - 8) % 7 = 0 then τ 16 ((c9 - 8) / 7).toNat else if (c9 - 8) % 7 = 1 then eX (τ 17 ((c9 - 8) / 7).toNat) else if (c9 - 8) % 7 = 2 then eY (τ 17 ((c9 - 8) / 7).toNat) else if (c9 - 8) % 7 = 3 then τ 18 ((c9 - 8) / 7).toNat else if (c9 - 8) % 7 = 4 then τ 19 ((c9 - 8) / 7).toNat else if (c9 - 8) % 7 = 5 then eX (τ 13 ((c9 - 8) / 7).toNat * 1281 + τ 15 ((c9 - 8) / 7).toNat * 1369) else eY (τ 13 ((c9 - 8) / 7).toNat * 1281 + τ 15 ((c9 - 8) / 7).toNat * 1369)) else -10000) else (if ((c9 - 22) / 2).toNat < ns then (if (c9 - 22) % 2 = 0 then τ 9 ((c9 - 22) / 2).toNat else τ 10 ((c9 - 22) / 2).toNat) else -10000)) else -10000) := by
  have hD := h.D
  rw [hD.a.trans hD.b.symm, hD.c.trans hD.d.symm, hD.bal, hD.tu, sm_cg (fun j hj => (hD.sp j hj).w : ∀ j, j < ns → (fun j => σ (46 + 2 * j) 5) j = τ 8 j), sm_cg (fun j hj => (hD.ou j hj).w : ∀ j, j < no → (fun j => σ (50 + j) 7) j = τ 15 j)]
  by_cases hO : ((c9 - 8) / 7).toNat < no
  · rw [(hD.ou _ hO).c, (hD.ou _ hO).f, (hD.ou _ hO).g]
    by_cases hS : ((c9 - 22) / 2).toNat < ns
    · rw [(hD.sp _ hS).a, (hD.sp _ hS).nl]
    · rw [if_neg hS, if_neg hS]
  · rw [if_neg hO, if_neg hO]
    by_cases hS : ((c9 - 22) / 2).toNat < ns
    · rw [(hD.sp _ hS).a, (hD.sp _ hS).nl]
    · rw [if_neg hS, if_neg hS]
/-! What the two calls of connect ask. -/
theorem sm_abs {f : Nat → Int} {B : Int} : ∀ {n : Nat}, (∀ j, j < n → -B ≤ f j ∧ f j ≤ B) → -((n : Int) * B) ≤ sm f n ∧ sm f n ≤ (n : Int) * B
  | 0, _ => by simp [sm]
  | n + 1, h => by
    have h1 := sm_abs (n := n) (fun j hj => h j (by omega))
    have h2 := h n (by omega)
    show _ ≤ sm f n + f n ∧ sm f n + f n ≤ _
    rw [Int.natCast_add, Int.add_mul, Int.cast_ofNat_Int, Int.one_mul]
    omega
theorem RC.con_r (h : RC σ τ nk nb fl ns no up sc) : -200000 ≤ σ 17 3 ∧ σ 17 3 ≤ 200000 := by
  have h1 := sm_abs (f := τ 21) (B := 9999) h.B.balr
  have h2 := h.B.n
  rw [h.B.con]
  omega
theorem RC.pl (h : RC σ τ nk nb fl ns no up sc) : jr (-(sm (τ 21) nb)) := by
  have := h.con_r
  rw [h.B.con] at this
  exact ⟨by omega, by omega⟩
theorem RC.ht (h : RC σ τ nk nb fl ns no up sc) : 0 ≤ σ 43 5 ∧ σ 43 5 < 2473 := by rw [h.D.tu]; exact h.D.tur
theorem RC.hsw (h : RC σ τ nk nb fl ns no up sc) : ∀ j, j < ns → 0 ≤ σ (46 + 2 * j) 5 ∧ σ (46 + 2 * j) 5 ≤ 2472 := fun j hj => by rw [(h.D.sp j hj).w]; exact (h.D.sp j hj).wr
theorem RC.how (h : RC σ τ nk nb fl ns no up sc) : ∀ j, j < no → 0 ≤ σ (50 + j) 7 ∧ σ (50 + j) 7 ≤ 2472 := fun j hj => by rw [(h.D.ou j hj).w]; exact (h.D.ou j hj).wr
theorem RC.hemp (h : RC σ τ nk nb fl ns no up sc) : jr (σ 17 1) := by rw [h.B.r0]; exact jr_of (nd_rng (fun _ => by decide) 4 0) (by decide)
theorem RC.lru (h : RC σ τ nk nb fl ns no up sc) : ∀ b, b < nb → ∀ i, i < up b → 0 ≤ τ 23 i ∧ τ 23 i < 10009 := fun b hb i hi => h.T.lr i (by have := h.B.ufl b hb; omega)
theorem RC.hrt (h : RC σ τ nk nb fl ns no up sc) : ∀ i, i < nb → jr (σ (19 + 2 * i) 4) := fun i hi => by rw [h.B.r i hi]; exact jr_of (nd_rng (lfm_rng (h.lru i hi)) 4 0) (by decide)
theorem RC.hn2 (h : RC σ τ nk nb fl ns no up sc) : ∀ j, j < 2 → jr (σ (46 + 2 * j) 8) := fun j hj => jr_of (h.D.s8 j hj) (by decide)
theorem RC.sk_ (h : RC σ τ nk nb fl ns no up sc) : ∀ j, j < ns → (τ 4 j).toNat < nk ∧ τ 4 j = (((τ 4 j).toNat : Nat) : Int) ∧ σ (46 + 2 * j) 0 = τ 3 (τ 4 j).toNat ∧ σ (46 + 2 * j) 1 = eE (τ 3 (τ 4 j).toNat) := fun j hj => by
  obtain ⟨k, k1, k2, k3, k4⟩ := (h.D.sp j hj).kk
  rw [show (τ 4 j).toNat = k by omega]
  exact ⟨k1, k2, k3, k4⟩
theorem RC.sl_ (h : RC σ τ nk nb fl ns no up sc) : ∀ j, j < ns → (τ 5 j).toNat < 16 ∧ τ 5 j = (((τ 5 j).toNat : Nat) : Int) ∧ σ (46 + 2 * j) 2 = (((τ 5 j).toNat : Nat) : Int) := fun j hj => by
  obtain ⟨k, k1, k2, k3⟩ := (h.D.sp j hj).ll
  rw [show (τ 5 j).toNat = k by omega]
  exact ⟨k1, k2, k3⟩
theorem RC.ok_ (h : RC σ τ nk nb fl ns no up sc) : ∀ j, j < no → (τ 12 j).toNat < nk ∧ τ 12 j = (((τ 12 j).toNat : Nat) : Int) ∧ σ (50 + j) 0 = eE (τ 3 (τ 12 j).toNat) := fun j hj => by
  obtain ⟨k, k1, k2, k3⟩ := (h.D.ou j hj).kk
  rw [show (τ 12 j).toNat = k by omega]
  exact ⟨k1, k2, k3⟩
theorem RC.hsd (h : RC σ τ nk nb fl ns no up sc) : ∀ j, j < ns → (fun j => (τ 5 j).toNat) j < 16 ∧ σ (46 + 2 * j) 1 = eE ((fun j => τ 3 (τ 4 j).toNat) j) ∧ σ (46 + 2 * j) 0 = (fun j => τ 3 (τ 4 j).toNat) j ∧ jr ((fun j => τ 3 (τ 4 j).toNat) j) ∧ σ (46 + 2 * j) 2 = (((fun j => (τ 5 j).toNat) j : Nat) : Int) ∧ jr (σ (46 + 2 * j) 3) ∧ jr (σ (46 + 2 * j) 4) ∧ jr (σ (46 + 2 * j) 7) ∧ (∀ L, L < 4 → jr (σ (46 + 2 * j + 1) L)) ∧ jr (σ (46 + 2 * j) 8) := fun j hj => by
  have hp := h.D.sp j hj
  obtain ⟨a1, a2, a3, a4⟩ := h.sk_ j hj
  obtain ⟨b1, b2, b3⟩ := h.sl_ j hj
  have hs := h.K.sec _ a1
  have hn := h.D.n2
  exact ⟨b1, a4, a3, (show jr (τ 3 (τ 4 j).toNat) from ⟨by omega, by omega⟩), b3, by rw [hp.v]; exact jr_of hp.vr (by decide), by rw [hp.t]; exact jr_of hp.tr (by decide), by rw [hp.a]; exact jr_of hp.ar (by decide), fun L hL => by rw [hp.p L hL]; exact jr_of (hp.pr L hL) (by decide), jr_of (h.D.s8 j (by omega)) (by decide)⟩
theorem RC.hoa (h : RC σ τ nk nb fl ns no up sc) : ∀ j, j < no → σ (50 + j) 0 = eE ((fun j => τ 3 (τ 12 j).toNat) j) ∧ jr (σ (50 + j) 1) ∧ jr (σ (50 + j) 2) ∧ jr (σ (50 + j) 3) := fun j hj => by
  have hp := h.D.ou j hj
  exact ⟨(h.ok_ j hj).2.2, by rw [hp.v]; exact jr_of hp.vr (by decide), by rw [hp.t]; exact jr_of hp.tr (by decide), by rw [hp.c]; exact jr_of hp.cr (by decide)⟩
theorem RC.hov (h : RC σ τ nk nb fl ns no up sc) : ∀ j, j < no → (0 ≤ σ (50 + j) 5 ∧ σ (50 + j) 5 < 1000) ∧ (0 ≤ σ (50 + j) 6 ∧ σ (50 + j) 6 < 2473) ∧ (0 ≤ σ (50 + j) 3 ∧ σ (50 + j) 3 < 10009) := fun j hj => by
  have hp := h.D.ou j hj
  rw [hp.f, hp.g, hp.c]
  exact ⟨hp.fr, hp.gr, hp.cr⟩
theorem RC.hsec (h : RC σ τ nk nb fl ns no up sc) : ∀ k, k < nk → (fun k => (τ 3 k).toNat) k < 2473 ∧ σ (53 + 5 * k) 0 = (((fun k => (τ 3 k).toNat) k : Nat) : Int) ∧ σ (53 + 5 * k) 1 = eE (((fun k => (τ 3 k).toNat) k : Nat) : Int) := fun k hk => by
  have hs := h.K.sec k hk
  have e : (((τ 3 k).toNat : Nat) : Int) = τ 3 k := by omega
  show (τ 3 k).toNat < 2473 ∧ σ (53 + 5 * k) 0 = (((τ 3 k).toNat : Nat) : Int) ∧ σ (53 + 5 * k) 1 = eE (((τ 3 k).toNat : Nat) : Int)
  rw [e]
  exact ⟨by omega, h.K.s0 k hk, h.K.s1 k hk⟩
theorem RC.hup (h : RC σ τ nk nb fl ns no up sc) : ∀ b, b < nb → up b ≤ 16 ∧ τ 20 b = (up b : Int) ∧ ∀ i, i < up b → 0 ≤ τ 23 i ∧ τ 23 i < 10009 := fun b hb => ⟨by have := h.B.ufl b hb; have := h.B.fl16; omega, h.B.u b hb, h.lru b hb⟩
theorem RC.msd (h : RC σ τ nk nb fl ns no up sc) : ∀ j, j < ns → (fun j => (τ 4 j).toNat) j < 4 ∧ (fun j => (τ 5 j).toNat) j < 16 ∧ τ 4 j = (((fun j => (τ 4 j).toNat) j : Nat) : Int) ∧ τ 5 j = (((fun j => (τ 5 j).toNat) j : Nat) : Int) ∧ (0 ≤ τ 3 ((fun j => (τ 4 j).toNat) j) ∧ τ 3 ((fun j => (τ 4 j).toNat) j) < 2473) ∧ (0 ≤ τ 7 j ∧ τ 7 j < 2473) ∧ (∀ L, L < 4 → 0 ≤ τ 11 (4 * j + L) ∧ τ 11 (4 * j + L) < 10009) ∧ jr (τ 9 j) := fun j hj => by
  have hp := h.D.sp j hj
  obtain ⟨a1, a2, a3, a4⟩ := h.sk_ j hj
  obtain ⟨b1, b2, b3⟩ := h.sl_ j hj
  have hs := h.K.sec _ a1
  have hn := h.K.n
  exact ⟨(show (τ 4 j).toNat < 4 by omega), b1, a2, b2, (show 0 ≤ τ 3 (τ 4 j).toNat ∧ τ 3 (τ 4 j).toNat < 2473 by omega), hp.tr, hp.pr, jr_of hp.ar (by decide)⟩
theorem RC.mod_ (h : RC σ τ nk nb fl ns no up sc) : ∀ j, j < no → (fun j => (τ 12 j).toNat) j < 4 ∧ τ 12 j = (((fun j => (τ 12 j).toNat) j : Nat) : Int) ∧ (0 ≤ τ 3 ((fun j => (τ 12 j).toNat) j) ∧ τ 3 ((fun j => (τ 12 j).toNat) j) < 2473) ∧ (0 ≤ τ 14 j ∧ τ 14 j < 2473) ∧ jr (τ 16 j) := fun j hj => by
  have hp := h.D.ou j hj
  obtain ⟨a1, a2, a3⟩ := h.ok_ j hj
  have hs := h.K.sec _ a1
  have hn := h.K.n
  exact ⟨(show (τ 12 j).toNat < 4 by omega), a2, (show 0 ≤ τ 3 (τ 12 j).toNat ∧ τ 3 (τ 12 j).toNat < 2473 by omega), hp.tr, jr_of hp.cr (by decide)⟩
/-! The two judge alike. -/
theorem jgo_cg {a b c a' b' c' : Nat → Prop} {n : Nat} (h : ∀ j, j < n → (a j ↔ a' j) ∧ (b j ↔ b' j) ∧ (c j ↔ c' j)) : ∀ k, k ≤ n → jgo a b c n k = jgo a' b' c' n k
  | 0, _ => rfl
  | k + 1, hk => by
    obtain ⟨h1, h2, h3⟩ := h (n - (k + 1)) (by omega)
    unfold jgo
    rw [jgo_cg h k (by omega), cif_c h1, cif_c h2, cif_c h3]
theorem pth_cg {lf : Nat} {p p' : Nat → Int} {c : Int} : ∀ {n : Nat}, (∀ L, L < n → p L = p' L) → pth lf p c n = pth lf p' c n
  | 0, _ => rfl
  | n + 1, h => by
    have ih := pth_cg (lf := lf) (c := c) (n := n) (fun L hL => h L (by omega))
    by_cases e : lf / 2 ^ n % 2 = 1
    · rw [pth_1 e, pth_1 e, ih, h n (by omega)]
    · rw [pth_0 e, pth_0 e, ih, h n (by omega)]
theorem lfm_0 : lfm τ 0 = fun _ => 0 := by funext i; unfold lfm; rw [if_neg (by omega)]
theorem RC.jA_ (h : RC σ τ nk nb fl ns no up sc) {j : Nat} (hj : j < ns) : jA σ nb j ↔ mA τ up nb j := by
  unfold jA mA hasR rootM
  rw [(h.D.sp j hj).a, h.B.r0, lfm_0]
  refine not_congr ⟨fun q => ?_, fun q => ?_⟩
  · rcases q with q | ⟨i, q1, q2⟩
    · exact Or.inl q.symm
    · exact Or.inr ⟨i, q1, by rw [← h.B.r i q1]; exact q2⟩
  · rcases q with q | ⟨i, q1, q2⟩
    · exact Or.inl q.symm
    · exact Or.inr ⟨i, q1, by rw [h.B.r i q1]; exact q2⟩
theorem RC.jB_ (h : RC σ τ nk nb fl ns no up sc) {j : Nat} (hj : j < ns) : jB σ (fun j => τ 3 (τ 4 j).toNat) (fun j => (τ 5 j).toNat) j ↔ mB τ (fun j => (τ 4 j).toNat) (fun j => (τ 5 j).toNat) j := by
  have hp := h.D.sp j hj
  unfold jB mB
  rw [hp.v, hp.t, hp.a, hp.nl, pth_cg (p' := fun L => τ 11 (4 * j + L)) hp.p]
theorem RC.jC_ (h : RC σ τ nk nb fl ns no up sc) {j : Nat} (hj : j < ns) : jC σ sc nb j ↔ mC τ nb j := by
  unfold jC mC
  rw [(h.D.sp j hj).nl, h.rev]
  refine or_congr Iff.rfl ⟨fun ⟨i, q1, q2⟩ => ⟨i, q1, ?_⟩, fun ⟨i, q1, q2⟩ => ⟨i, q1, ?_⟩⟩
  · rw [← (h.D.sp i (by omega)).nl]; exact q2
  · rw [(h.D.sp i (by omega)).nl]; exact q2
theorem RC.cW_ (h : RC σ τ nk nb fl ns no up sc) : cW σ ns no nb fl (fun j => 1281 * τ 6 j + 1369 * τ 8 j) (fun j => 1281 * τ 13 j + 1369 * τ 15 j) (τ 0 22) = mW τ ns no nb fl := by
  have hD := h.D
  have hn2 := hD.n2
  have ho2 := hD.o2
  unfold cW mW
  rw [hD.tu, h.B.con, sm_cg (fun j hj => (hD.sp j hj).w : ∀ j, j < ns → (fun j => σ (46 + 2 * j) 5) j = τ 8 j), sm_cg (fun j hj => (hD.ou j hj).w : ∀ j, j < no → (fun j => σ (50 + j) 7) j = τ 15 j)]
  have e1 : (-(1281 * τ 0 22) + sm (fun j => 1281 * τ 6 j + 1369 * τ 8 j) ns - sm (fun j => 1281 * τ 13 j + 1369 * τ 15 j) no) % 2473 = (sm (fun j => (τ 6 j * 1281 + τ 8 j * 1369) % 2473) ns - sm (fun j => (τ 13 j * 1281 + τ 15 j * 1369) % 2473) no - τ 0 22 * 1281) % 2473 := by
    have hs : (sm (fun j => 1281 * τ 6 j + 1369 * τ 8 j) ns - sm (fun j => (τ 6 j * 1281 + τ 8 j * 1369) % 2473) ns) % 2473 = 0 := by
      rcases (show ns = 0 ∨ ns = 1 ∨ ns = 2 by omega) with e | e | e <;> rw [e] <;> simp only [sm] <;> omega
    have ho : (sm (fun j => 1281 * τ 13 j + 1369 * τ 15 j) no - sm (fun j => (τ 13 j * 1281 + τ 15 j * 1369) % 2473) no) % 2473 = 0 := by
      rcases (show no = 0 ∨ no = 1 ∨ no = 2 by omega) with e | e | e <;> rw [e] <;> simp only [sm] <;> omega
    omega
  rw [e1]
  have e2 : 1369 * ((τ 0 23 + sm (τ 8) ns - sm (τ 15) no) % 2473) % 2473 = (τ 0 23 + sm (τ 8) ns - sm (τ 15) no) % 2473 * 1369 % 2473 := by rw [Int.mul_comm]
  rw [e2]
  refine ite_congr rfl (fun _ => ite_congr (by apply propext; constructor <;> intro q <;> omega) (fun _ => rfl) (fun _ => ite_congr (by apply propext; constructor <;> intro q <;> omega) (fun _ => rfl) (fun _ => rfl))) (fun _ => rfl)
theorem RC.flt (h : RC σ τ nk nb fl ns no up sc) : (cFault ns no (jgo (jA σ nb) (jB σ (fun j => τ 3 (τ 4 j).toNat) (fun j => (τ 5 j).toNat)) (jC σ sc nb) ns ns) (cif (∃ j, j < no ∧ ¬ σ (50 + j) 3 = cOf ((fun j => τ 3 (τ 12 j).toNat) j) (σ (50 + j) 1) (σ (50 + j) 2)) (-4) 0) (cW σ ns no nb fl (fun j => 1281 * τ 6 j + 1369 * τ 8 j) (fun j => 1281 * τ 13 j + 1369 * τ 15 j) (τ 0 22))) = (cFault ns no (jgo (mA τ up nb) (mB τ (fun j => (τ 4 j).toNat) (fun j => (τ 5 j).toNat)) (mC τ nb) ns ns) (cif (∃ j, j < no ∧ ¬ τ 16 j = cOf (τ 3 ((fun j => (τ 12 j).toNat) j)) (τ 13 j) (τ 14 j)) (-4) 0) (mW τ ns no nb fl)) := by
  rw [jgo_cg (fun j hj => ⟨h.jA_ hj, h.jB_ hj, h.jC_ hj⟩) ns (Nat.le_refl _), h.cW_]
  have e : (∃ j, j < no ∧ ¬ σ (50 + j) 3 = cOf ((fun j => τ 3 (τ 12 j).toNat) j) (σ (50 + j) 1) (σ (50 + j) 2)) ↔ (∃ j, j < no ∧ ¬ τ 16 j = cOf (τ 3 ((fun j => (τ 12 j).toNat) j)) (τ 13 j) (τ 14 j)) := by
    constructor
    · rintro ⟨j, h1, h2⟩
      rw [(h.D.ou j h1).c, (h.D.ou j h1).v, (h.D.ou j h1).t] at h2
      exact ⟨j, h1, h2⟩
    · rintro ⟨j, h1, h2⟩
      refine ⟨j, h1, ?_⟩
      rw [(h.D.ou j h1).c, (h.D.ou j h1).v, (h.D.ou j h1).t]
      exact h2
  rw [cif_c e]
/-- the reference's scratch row may change -/
theorem RC.row (h : RC σ τ nk nb fl ns no up sc) (ht : ∀ d, d ≠ 27 → τ' d = τ d) : RC σ τ' nk nb fl ns no up sc :=
  h.u_dr (fun _ _ => rfl) (by rw [ht 0 (by decide)]) (by rw [ht 0 (by decide)]) (fun c hc => ht c (by omega)) (rD_cg h.D (Nat.le_refl _) rfl (fun _ _ _ => rfl) (by rw [ht 0 (by decide)]) (by rw [ht 0 (by decide)]) (by rw [ht 0 (by decide)]) (by rw [ht 0 (by decide)]) (fun k _ => by rw [ht 3 (by decide)]) (fun c h1 h2 => ht c (by omega)))
end RU
