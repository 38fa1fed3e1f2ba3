-- two multiples are the same point only where their numbers agree modulo 2473
theorem cv_pw_all : cv_mall (fun n => Nat.beq (n % 2473) 0 || Nat.beq (n * n ^ 2471 % 2473) 1) 12 0 = true := by decide +kernel
theorem cv_inv2473 {n : Nat} (h : n < 2473) (h0 : n ≠ 0) : ∃ m, n * m % 2473 = 1 := by
  have h1 := cv_mall_spec cv_pw_all n (Nat.zero_le _) (Nat.lt_of_lt_of_le h (by decide))
  rw [Bool.or_eq_true] at h1
  rcases h1 with h1 | h1
  · have := Nat.eq_of_beq_eq_true h1
    rw [Nat.mod_eq_of_lt h] at this
    exact absurd this h0
  · exact ⟨_, Nat.eq_of_beq_eq_true h1⟩
theorem cv_T_mul {n : Nat} (h : cv_mT n = cv_mT 0) : ∀ m, cv_mT (n * m) = cv_mT 0
  | 0 => rfl
  | m + 1 => by
    rw [show n * (m + 1) = n * m + n from rfl, ← cv_mT_add, cv_T_mul h m, h]
    exact cv_ma_0 _
theorem cv_T_ne {n : Nat} (h : n < 2473) (h0 : n ≠ 0) : cv_mT n ≠ cv_mT 0 := by
  intro e
  obtain ⟨m, hm⟩ := cv_inv2473 h h0
  have h1 := cv_T_mul e m
  rw [cv_mT_mod, hm, cv_mT_c1] at h1
  exact absurd h1 (by decide +kernel)
theorem cv_T_inj {i j : Nat} (hi : i < 2473) (hj : j < 2473) (h : cv_mT i = cv_mT j) : i = j := by
  have h1 : cv_mT (i + (2473 - i)) = cv_mT (j + (2473 - i)) := by rw [← cv_mT_add, ← cv_mT_add, h]
  rw [show i + (2473 - i) = 0 + 2473 by omega, cv_mT_per, cv_mT_mod (j + (2473 - i))] at h1
  by_cases h0 : (j + (2473 - i)) % 2473 = 0
  · omega
  · exact absurd h1.symm (cv_T_ne (Nat.mod_lt _ (by decide)) h0)
theorem cv_E_inj {i j : Nat} (hi : i < 2473) (hj : j < 2473) (h : cv_mE i = cv_mE j) : i = j := by
  have hx : cv_mX i = cv_mX j := by rw [← cv_mE_x, ← cv_mE_x, h]
  have hy : cv_mY i = cv_mY j := by rw [← cv_mE_y, ← cv_mE_y, h]
  exact cv_T_inj hi hj (Prod.ext (Fin.ext hx) (Fin.ext hy))
-- points by integers
def eN (a : Int) : Nat := (a % 2473).toNat
def eE (a : Int) : Int := (cv_mE (eN a) : Int)
def eX (a : Int) : Int := (cv_mX (eN a) : Int)
def eY (a : Int) : Int := (cv_mY (eN a) : Int)
theorem eN_lt (a : Int) : eN a < 2473 := by unfold eN; omega
theorem eN_cast (a : Int) : (eN a : Int) = a % 2473 := by unfold eN; omega
theorem eN_add (a b : Int) : eN (a + b) = (eN a + eN b) % 2473 := by unfold eN; omega
theorem eN_neg (a : Int) : eN (-a) = (2473 - eN a) % 2473 := by unfold eN; omega
theorem eN_nat (n : Nat) : eN (n : Int) = n % 2473 := by unfold eN; omega
theorem eX_rng (a : Int) : 0 ≤ eX a ∧ eX a < 10009 := by have := cv_mX_lt (eN a); unfold eX; omega
theorem eY_rng (a : Int) : 0 ≤ eY a ∧ eY a < 10009 := by have := cv_mY_lt (eN a); unfold eY; omega
theorem eE_eq (a : Int) : eE a = eX a * 10009 + eY a := by unfold eE eX eY cv_mE; omega
theorem eE_rng (a : Int) : 0 ≤ eE a ∧ eE a < 100180081 := by have := cv_mE_lt (eN a); unfold eE; omega
theorem eE_div (a : Int) : eE a / 10009 = eX a := by have := eE_eq a; have := eY_rng a; omega
theorem eE_mod (a : Int) : eE a % 10009 = eY a := by have := eE_eq a; have := eY_rng a; omega
theorem eE_cong {a b : Int} (h : a % 2473 = b % 2473) : eE a = eE b := by unfold eE eN; rw [h]
theorem eX_cong {a b : Int} (h : a % 2473 = b % 2473) : eX a = eX b := by unfold eX eN; rw [h]
theorem eY_cong {a b : Int} (h : a % 2473 = b % 2473) : eY a = eY b := by unfold eY eN; rw [h]
theorem eE_inj {a b : Int} : eE a = eE b ↔ a % 2473 = b % 2473 := by
  constructor
  · intro h
    have h1 : cv_mE (eN a) = cv_mE (eN b) := by unfold eE at h; omega
    have h2 := cv_E_inj (eN_lt a) (eN_lt b) h1
    have := eN_cast a
    have := eN_cast b
    omega
  · exact eE_cong
theorem eE_0 : eE 0 = 1 := by decide +kernel
theorem eE_G : eE 1 = 50955389 := by
  show ((cv_mE 1 : Nat) : Int) = _
  rw [cv_mE_1]; rfl
theorem eE_V : eE 1281 = 5926540 := by
  show ((cv_mE 1281 : Nat) : Int) = _
  rw [cv_mE_V]; rfl
theorem eE_R : eE 1369 = 55347249 := by
  show ((cv_mE 1369 : Nat) : Int) = _
  rw [cv_mE_R]; rfl
theorem eE_A : eE 2409 = 37974416 := by
  show ((cv_mE 2409 : Nat) : Int) = _
  rw [cv_mE_A]; rfl
theorem eE_B : eE 1499 = 11147840 := by
  show ((cv_mE 1499 : Nat) : Int) = _
  rw [cv_mE_B]; rfl
theorem eX_neg (a : Int) : (10009 - eX a) % 10009 = eX (-a) := by
  have h := (cv_mneg (Nat.le_of_lt (eN_lt a))).1
  have h2 : cv_mX (2473 - eN a) = cv_mX (eN (-a)) := by rw [eN_neg, cv_mX_mod]
  rw [h2] at h
  have := cv_mX_lt (eN a)
  unfold eX
  omega
theorem eY_neg (a : Int) : eY a = eY (-a) := by
  have h := (cv_mneg (Nat.le_of_lt (eN_lt a))).2
  have h2 : cv_mY (2473 - eN a) = cv_mY (eN (-a)) := by rw [eN_neg, cv_mY_mod]
  rw [h2] at h
  unfold eY
  omega
-- the sum, over integers, as it is counted
def ejk (x y u w : Int) : Int := 56 * (x * u % 10009) % 10009 * (y * w % 10009) % 10009
theorem ejk_nat (x y u w : Nat) : ejk (x : Int) (y : Int) (u : Int) (w : Int) = (cv_jk x y u w : Int) := by
  unfold ejk cv_jk
  simp only [Int.natCast_emod, Int.natCast_mul, Int.cast_ofNat_Int]
def eiv (n : Int) : Int := (cv_miv n.toNat : Int)
theorem cv_mlp_lt {n : Nat} (h : n < 10009) : ∀ b, (cv_mlp n b).1 < 10009 ∧ (cv_mlp n b).2 < 10009
  | 0 => ⟨by show 1 < 10009; decide, h⟩
  | b + 1 => by
    have ih := cv_mlp_lt h b
    unfold cv_mlp cv_mst cv_mq
    dsimp only
    refine ⟨?_, Nat.mod_lt _ (by decide)⟩
    split
    · exact Nat.mod_lt _ (by decide)
    · exact ih.1
theorem eiv_rng {n : Int} (h0 : 0 ≤ n) (h : n < 10009) : 0 ≤ eiv n ∧ eiv n < 10009 := by
  have := (cv_mlp_lt (n := n.toNat) (by omega) 14).1
  unfold eiv cv_miv
  omega
theorem eX_sum (a b : Int) : (eX a * eY b + eY a * eX b) % 10009 * (eiv ((1 + ejk (eX a) (eY a) (eX b) (eY b)) % 10009 * ((1 + 10009 - ejk (eX a) (eY a) (eX b) (eY b)) % 10009) % 10009) * ((1 + 10009 - ejk (eX a) (eY a) (eX b) (eY b)) % 10009) % 10009) % 10009 = eX (a + b) := by
  have h := (cv_jsum (i := eN a) (j := eN b)).1
  rw [← cv_mX_mod (eN a + eN b), ← eN_add] at h
  have hk := cv_jk_lt (cv_mX (eN a)) (cv_mY (eN a)) (cv_mX (eN b)) (cv_mY (eN b))
  unfold eX eY
  rw [ejk_nat]
  rw [← h]
  unfold cv_jsx eiv cv_jbx cv_jby
  generalize cv_jk (cv_mX (eN a)) (cv_mY (eN a)) (cv_mX (eN b)) (cv_mY (eN b)) = k at hk ⊢
  have e1 : ((1 + 10009 - k : Nat) : Int) = 1 + 10009 - (k : Int) := by omega
  have e2 : ((1 + (k : Int)) % 10009 * ((1 + 10009 - (k : Int)) % 10009) % 10009).toNat = (1 + k) % 10009 * ((1 + 10009 - k) % 10009) % 10009 := by
    have : (((1 + k) % 10009 * ((1 + 10009 - k) % 10009) % 10009 : Nat) : Int) = (1 + (k : Int)) % 10009 * ((1 + 10009 - (k : Int)) % 10009) % 10009 := by
      rw [Int.natCast_emod, Int.natCast_mul, Int.natCast_emod, Int.natCast_emod, e1]; rfl
    rw [← this]; rfl
  rw [e2]
  simp only [Int.natCast_emod, Int.natCast_mul, Int.natCast_add, e1, Int.cast_ofNat_Int]
theorem eY_sum (a b : Int) : (eY a * eY b + eX a * eX b) % 10009 * (eiv ((1 + ejk (eX a) (eY a) (eX b) (eY b)) % 10009 * ((1 + 10009 - ejk (eX a) (eY a) (eX b) (eY b)) % 10009) % 10009) * ((1 + ejk (eX a) (eY a) (eX b) (eY b)) % 10009) % 10009) % 10009 = eY (a + b) := by
  have h := (cv_jsum (i := eN a) (j := eN b)).2
  rw [← cv_mY_mod (eN a + eN b), ← eN_add] at h
  have hk := cv_jk_lt (cv_mX (eN a)) (cv_mY (eN a)) (cv_mX (eN b)) (cv_mY (eN b))
  unfold eX eY
  rw [ejk_nat]
  rw [← h]
  unfold cv_jsy eiv cv_jbx cv_jby
  generalize cv_jk (cv_mX (eN a)) (cv_mY (eN a)) (cv_mX (eN b)) (cv_mY (eN b)) = k at hk ⊢
  have e1 : ((1 + 10009 - k : Nat) : Int) = 1 + 10009 - (k : Int) := by omega
  have e2 : ((1 + (k : Int)) % 10009 * ((1 + 10009 - (k : Int)) % 10009) % 10009).toNat = (1 + k) % 10009 * ((1 + 10009 - k) % 10009) % 10009 := by
    have : (((1 + k) % 10009 * ((1 + 10009 - k) % 10009) % 10009 : Nat) : Int) = (1 + (k : Int)) % 10009 * ((1 + 10009 - (k : Int)) % 10009) % 10009 := by
      rw [Int.natCast_emod, Int.natCast_mul, Int.natCast_emod, Int.natCast_emod, e1]; rfl
    rw [← this]; rfl
  rw [e2]
  simp only [Int.natCast_emod, Int.natCast_mul, Int.natCast_add, e1, Int.cast_ofNat_Int]
