/-! The tree of hashes, as a function of its leaves. -/
def nd (lf : Nat → Int) : Nat → Nat → Int
  | 0, k => lf k
  | L + 1, k => eX (2409 * nd lf L (2 * k) + 1499 * nd lf L (2 * k + 1) + 1 * ((L + 1 : Nat) : Int))
theorem nd_congr {lf lf' : Nat → Int} : ∀ {L k : Nat}, (∀ i, i / 2 ^ L = k → lf i = lf' i) → nd lf L k = nd lf' L k
  | 0, k, h => h k (by simp)
  | L + 1, k, h => by
    have e : ∀ i, i / 2 ^ (L + 1) = i / 2 ^ L / 2 := fun i => by rw [Nat.pow_succ, Nat.div_div_eq_div_mul]
    have h1 : nd lf L (2 * k) = nd lf' L (2 * k) := nd_congr fun i hi => h i (by rw [e, hi]; omega)
    have h2 : nd lf L (2 * k + 1) = nd lf' L (2 * k + 1) := nd_congr fun i hi => h i (by rw [e, hi]; omega)
    unfold nd
    rw [h1, h2]
theorem nd_rng {lf : Nat → Int} (h : ∀ i, 0 ≤ lf i ∧ lf i < 10009) : ∀ L k, 0 ≤ nd lf L k ∧ nd lf L k < 10009
  | 0, k => h k
  | L + 1, k => eX_rng _
def tpl (L k : Nat) : Nat := 32 - 32 / 2 ^ L + k
theorem l5 {L : Nat} (h : L ≤ 4) : L = 0 ∨ L = 1 ∨ L = 2 ∨ L = 3 ∨ L = 4 := by omega
theorem tpl_int {L k : Nat} (h : L ≤ 4) : ((tpl L k : Nat) : Int) = 32 - 32 / 2 ^ L + (k : Int) := by
  unfold tpl
  rcases l5 h with rfl | rfl | rfl | rfl | rfl <;> simp <;> omega
theorem tpl_lt {L k : Nat} (h : L ≤ 4) (hk : k < 16 / 2 ^ L) : tpl L k < 31 := by
  unfold tpl
  rcases l5 h with rfl | rfl | rfl | rfl | rfl <;> simp at hk ⊢ <;> omega
theorem tpl_inj {L k L' k' : Nat} (h : L ≤ 4) (h' : L' ≤ 4) (hk : k < 16 / 2 ^ L) (hk' : k' < 16 / 2 ^ L') (e : tpl L k = tpl L' k') : L = L' ∧ k = k' := by
  unfold tpl at e
  rcases l5 h with rfl | rfl | rfl | rfl | rfl <;> rcases l5 h' with rfl | rfl | rfl | rfl | rfl <;> simp at hk hk' e ⊢ <;> omega
theorem q_lt {i L : Nat} (h : L ≤ 4) (hi : i < 16) : i / 2 ^ L < 16 / 2 ^ L := by
  rcases l5 h with rfl | rfl | rfl | rfl | rfl <;> simp <;> omega
theorem q_dn {L q : Nat} (h : L < 4) (hq : q < 16 / 2 ^ (L + 1)) : 2 * q + 1 < 16 / 2 ^ L := by
  have h4 : L = 0 ∨ L = 1 ∨ L = 2 ∨ L = 3 := by omega
  rcases h4 with rfl | rfl | rfl | rfl <;> simp at hq ⊢ <;> omega
/-- the nodes below level m are those of lf', the others those of lf -/
def trI (τ : yM) (lf lf' : Nat → Int) (m : Nat) : Prop := ∀ L k, L ≤ 4 → k < 16 / 2 ^ L → τ 13 (tpl L k) = if L < m then nd lf' L k else nd lf L k
def yTr (σ : yM) (lf : Nat → Int) : Prop := ∀ L k, L ≤ 4 → k < 16 / 2 ^ L → σ 13 (tpl L k) = nd lf L k
def lfu (lf : Nat → Int) (i : Nat) (v : Int) : Nat → Int := fun j => if j = i then v else lf j
theorem nd_ne {lf : Nat → Int} {i : Nat} {v : Int} {L k : Nat} (h : k ≠ i / 2 ^ L) : nd (lfu lf i v) L k = nd lf L k :=
  nd_congr fun j hj => by
    unfold lfu
    rw [if_neg]
    intro e
    subst e
    exact h hj.symm
theorem y2_at {σ : yM} {c i : Nat} {v : Int} : y2 σ c i v c i = v := by simp [y2]
theorem y2_ot {σ : yM} {c i j : Nat} {v : Int} (h : j ≠ i) : y2 σ c i v c j = σ c j := by simp [y2, h]
theorem tr_step {τ : yM} {lf : Nat → Int} {i M : Nat} {c v : Int} (hI : trI τ lf (lfu lf i c) M) (hM : M ≤ 4) (hi : i < 16) (hv : v = nd (lfu lf i c) M (i / 2 ^ M)) : trI (y2 τ 13 (tpl M (i / 2 ^ M)) v) lf (lfu lf i c) (M + 1) := by
  intro L k hL hk
  have hq := q_lt (L := M) hM hi
  by_cases e : tpl L k = tpl M (i / 2 ^ M)
  · obtain ⟨rfl, rfl⟩ := tpl_inj hL hM hk hq e
    rw [y2_at, if_pos (by omega), hv]
  · rw [y2_ot e, hI L k hL hk]
    by_cases h1 : L < M
    · rw [if_pos h1, if_pos (by omega)]
    · rw [if_neg h1]
      by_cases h2 : L = M
      · subst h2
        rw [if_pos (by omega)]
        refine (nd_ne ?_).symm
        intro e2
        exact e (by rw [e2])
      · rw [if_neg (by omega)]
theorem trI_0 {σ : yM} {lf lf' : Nat → Int} (h : yTr σ lf) : trI σ lf lf' 0 := fun L k hL hk => by
  rw [if_neg (by omega)]
  exact h L k hL hk
theorem trI_5 {τ : yM} {lf lf' : Nat → Int} (h : trI τ lf lf' 5) : yTr τ lf' := fun L k hL hk => by
  have := h L k hL hk
  rw [if_pos (by omega)] at this
  exact this
theorem lfu_rng {lf : Nat → Int} {i : Nat} {c : Int} (h : ∀ i, 0 ≤ lf i ∧ lf i < 10009) (hc : 0 ≤ c ∧ c < 10009) : ∀ j, 0 ≤ lfu lf i c j ∧ lfu lf i c j < 10009 := by
  intro j
  unfold lfu
  split
  · exact hc
  · exact h j
theorem yBs_to {σ τ : yM} (h : yBs σ) (h3 : τ 3 = σ 3) (h5 : τ 5 = σ 5) (h7 : τ 7 = σ 7) (h9 : τ 9 = σ 9) (h11 : τ 11 = σ 11) : yBs τ := fun b hb => by
  rw [h3, h5, h7, h9, h11]
  exact h b hb
