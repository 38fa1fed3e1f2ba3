/-! The curve over the field of 10009: the table of the multiples of one point is closed under the sum. -/
abbrev cv_mF : Type := Fin 10009
def cv_mp (n : Nat) : cv_mF := Fin.ofNat 10009 n
theorem cv_mp_eq {a b : Nat} : cv_mp a = cv_mp b ↔ a % 10009 = b % 10009 := ⟨fun h => congrArg Fin.val h, fun h => Fin.ext h⟩
theorem cv_mp_mod (a : Nat) : cv_mp (a % 10009) = cv_mp a := cv_mp_eq.mpr (Nat.mod_mod a 10009)
theorem cv_mp_add (a b : Nat) : cv_mp (a + b) = cv_mp a + cv_mp b := by
  apply Fin.ext
  show (a + b) % 10009 = (a % 10009 + b % 10009) % 10009
  exact Nat.add_mod a b 10009
theorem cv_mp_mul (a b : Nat) : cv_mp (a * b) = cv_mp a * cv_mp b := by
  apply Fin.ext
  show (a * b) % 10009 = (a % 10009 * (b % 10009)) % 10009
  exact Nat.mul_mod a b 10009
theorem cv_mp_val (x : cv_mF) : cv_mp x.val = x := Fin.ext (Nat.mod_eq_of_lt x.isLt)
theorem cv_mp_sub {a b : Nat} (h : b ≤ a) : cv_mp (a - b) = cv_mp a - cv_mp b := by
  have h1 : cv_mp (a - b + b) = cv_mp (a - b) + cv_mp b := cv_mp_add _ _
  rw [Nat.sub_add_cancel h] at h1
  rw [h1]
  grind
theorem cv_mp_10009 : cv_mp 10009 = 0 := by decide
theorem cv_mp_1 : cv_mp 1 = 1 := by decide
theorem cv_mp_lt (a : Nat) : (cv_mp a).val = a % 10009 := rfl
-- the inverse: a step for each bit of 10007
def cv_mq (n : Nat) : Nat := n * n % 10009
def cv_mst (b : Nat) (q : Nat × Nat) : Nat × Nat := (if 10007 / 2 ^ b % 2 = 1 then q.1 * q.2 % 10009 else q.1, cv_mq q.2)
def cv_mlp (n : Nat) : Nat → Nat × Nat
  | 0 => (1, n)
  | b + 1 => cv_mst b (cv_mlp n b)
def cv_miv (n : Nat) : Nat := (cv_mlp n 14).1
-- the same, written so that it is quickly counted out
def cv_mev (n : Nat) : Nat :=
  let a0 := n; let a1 := cv_mq a0; let a2 := cv_mq a1; let a3 := cv_mq a2; let a4 := cv_mq a3; let a5 := cv_mq a4; let a6 := cv_mq a5; let a7 := cv_mq a6; let a8 := cv_mq a7; let a9 := cv_mq a8; let a10 := cv_mq a9; let a11 := cv_mq a10; let a12 := cv_mq a11; let a13 := cv_mq a12
  (1 * a0 % 10009) * a1 % 10009 * a2 % 10009 * a4 % 10009 * a8 % 10009 * a9 % 10009 * a10 % 10009 * a13 % 10009
theorem cv_miv_mev (n : Nat) : cv_miv n = cv_mev n := by
  simp [cv_miv, cv_mlp, cv_mst, cv_mev]
def cv_mall (f : Nat → Bool) : Nat → Nat → Bool
  | 0, s => f s
  | d + 1, s => cv_mall f d s && cv_mall f d (s + 2 ^ d)
theorem cv_mall_spec {f : Nat → Bool} : ∀ {d s : Nat}, cv_mall f d s = true → ∀ k, s ≤ k → k < s + 2 ^ d → f k = true
  | 0, s, h, k, h1, h2 => by
    have : k = s := by simp at h2; omega
    subst this; exact h
  | d + 1, s, h, k, h1, h2 => by
    simp only [cv_mall, Bool.and_eq_true] at h
    by_cases hk : k < s + 2 ^ d
    · exact cv_mall_spec h.1 k h1 hk
    · exact cv_mall_spec h.2 k (by omega) (by rw [Nat.pow_succ] at h2; omega)
theorem cv_mev_all : cv_mall (fun n => Nat.beq (n % 10009) 0 || Nat.beq (n * cv_mev n % 10009) 1) 14 0 = true := by decide +kernel
theorem cv_miv_ok {n : Nat} (h : n < 10009) (h0 : n ≠ 0) : n * cv_miv n % 10009 = 1 := by
  have h1 := cv_mall_spec cv_mev_all n (Nat.zero_le _) (Nat.lt_of_lt_of_le h (by decide))
  rw [Bool.or_eq_true] at h1
  rw [cv_miv_mev]
  rcases h1 with h1 | h1
  · have := Nat.eq_of_beq_eq_true h1
    rw [Nat.mod_eq_of_lt h] at this
    exact absurd this h0
  · exact Nat.eq_of_beq_eq_true h1
theorem cv_miv_mp {n : Nat} (h : n < 10009) (h0 : cv_mp n ≠ 0) : cv_mp n * cv_mp (cv_miv n) = 1 := by
  rw [← cv_mp_mul, ← cv_mp_1, cv_mp_eq]
  refine cv_miv_ok h ?_
  intro e; subst e; exact h0 (by decide)
def cv_mi (x : cv_mF) : cv_mF := cv_mp (cv_miv x.val)
theorem cv_mi_ok {x : cv_mF} (h : x ≠ 0) : x * cv_mi x = 1 := by
  have h1 := cv_miv_mp (n := x.val) x.isLt (by rw [cv_mp_val]; exact h)
  rw [cv_mp_val] at h1
  exact h1
theorem cv_mcan {u v w : cv_mF} (h : w ≠ 0) (e : u * w = v * w) : u = v := by
  have h1 := cv_mi_ok h
  have h2 : u * w * cv_mi w = v * w * cv_mi w := by rw [e]
  grind
theorem cv_mnz {u v : cv_mF} (hu : u ≠ 0) (hv : v ≠ 0) : u * v ≠ 0 := by
  intro e
  have h1 := cv_mi_ok hu
  have h2 : u * v * cv_mi u = 0 := by rw [e]; grind
  exact hv (by grind)
theorem cv_mi_of {x y : cv_mF} (h : x * y = 1) : cv_mi x = y := by
  have hx : x ≠ 0 := by intro e; rw [e] at h; exact absurd h (by grind)
  have := cv_mi_ok hx
  refine cv_mcan hx ?_
  grind
-- 56 is no square
theorem cv_m56_all : cv_mall (fun n => !(Nat.beq (n * n % 10009) 56)) 14 0 = true := by decide +kernel
theorem cv_m56 (t : cv_mF) : t * t ≠ 56 := by
  intro e
  have h1 := cv_mall_spec cv_m56_all t.val (Nat.zero_le _) (Nat.lt_of_lt_of_le t.isLt (by decide))
  have h2 : t.val * t.val % 10009 = 56 := congrArg Fin.val e
  rw [h2] at h1
  exact absurd h1 (by decide)
-- on the curve
def cv_mon (P : cv_mF × cv_mF) : Prop := P.2 * P.2 - P.1 * P.1 = 1 + 56 * (P.1 * P.1) * (P.2 * P.2)
def cv_mk (P Q : cv_mF × cv_mF) : cv_mF := 56 * (P.1 * Q.1) * (P.2 * Q.2)
theorem cv_msq {s t : cv_mF} (ht : t ≠ 0) (h : s * s = 56 * (t * t)) : False :=
  cv_m56 (s * cv_mi t) (rg_s (cv_mi_ok ht) h)
/-- no sum of two points divides by 0 -/
theorem cv_mk_ne {P Q : cv_mF × cv_mF} (hP : cv_mon P) (hQ : cv_mon Q) : cv_mk P Q * cv_mk P Q ≠ 1 := by
  obtain ⟨x, y⟩ := P
  obtain ⟨u, w⟩ := Q
  intro h3
  unfold cv_mon at hP hQ
  unfold cv_mk at h3
  dsimp only at hP hQ h3
  have he : (56 * (x * u) * (y * w) : cv_mF) ≠ 0 := by intro e; rw [e] at h3; exact absurd h3 (by decide)
  have hx : x ≠ 0 := by intro e; subst e; exact he (by grind)
  have hy : y ≠ 0 := by intro e; subst e; exact he (by grind)
  have hu : u ≠ 0 := by intro e; subst e; exact he (by grind)
  have hxy := cv_mnz hx hy
  by_cases h : (3303 * u + w : cv_mF) = 0
  · by_cases h' : (3303 * u - w : cv_mF) = 0
    · have h5 : (6606 : cv_mF) * u = 0 := by grind
      exact cv_mnz (by decide) hu h5
    · exact cv_msq (cv_mnz hxy h') (rg_sq' hP hQ rfl h3)
  · exact cv_msq (cv_mnz hxy h) (rg_sq hP hQ rfl h3)
theorem cv_mk_p {P Q : cv_mF × cv_mF} (hP : cv_mon P) (hQ : cv_mon Q) : 1 + cv_mk P Q ≠ 0 := by
  intro e
  exact cv_mk_ne hP hQ (by grind)
theorem cv_mk_m {P Q : cv_mF × cv_mF} (hP : cv_mon P) (hQ : cv_mon Q) : 1 - cv_mk P Q ≠ 0 := by
  intro e
  exact cv_mk_ne hP hQ (by grind)
def cv_ma (P Q : cv_mF × cv_mF) : cv_mF × cv_mF := ((P.1 * Q.2 + P.2 * Q.1) * cv_mi (1 + cv_mk P Q), (P.2 * Q.2 + P.1 * Q.1) * cv_mi (1 - cv_mk P Q))
def cv_mG : cv_mF × cv_mF := (5090, 9579)
theorem cv_mG_on : cv_mon cv_mG := by
  show (9579 : cv_mF) * 9579 - 5090 * 5090 = 1 + 56 * (5090 * 5090) * (9579 * 9579)
  decide +kernel
theorem cv_ma_0 (P : cv_mF × cv_mF) : cv_ma P (0, 1) = P := by
  obtain ⟨x, y⟩ := P
  have h1 : cv_mi (1 : cv_mF) = 1 := cv_mi_of (by decide)
  have h2 : cv_mk (x, y) (0, 1) = 0 := by unfold cv_mk; grind
  unfold cv_ma
  rw [h2]
  have h3 : (1 + 0 : cv_mF) = 1 := by decide
  have h4 : (1 - 0 : cv_mF) = 1 := by decide
  rw [h3, h4, h1]
  refine Prod.ext ?_ ?_ <;> dsimp only <;> grind
theorem cv_ma_on {P Q : cv_mF × cv_mF} (hP : cv_mon P) (hQ : cv_mon Q) : cv_mon (cv_ma P Q) :=
  rg_frac (cv_mi_ok (cv_mk_p hP hQ)) (cv_mi_ok (cv_mk_m hP hQ)) (rg_on hP hQ)
theorem cv_ma_assoc {P Q : cv_mF × cv_mF} (hP : cv_mon P) (hQ : cv_mon Q) : cv_ma (cv_ma P Q) cv_mG = cv_ma P (cv_ma Q cv_mG) := by
  have hPQ := cv_ma_on hP hQ
  have hQG := cv_ma_on hQ cv_mG_on
  have e1 := cv_mi_ok (cv_mk_p hP hQ)
  have e2 := cv_mi_ok (cv_mk_m hP hQ)
  have e3 := cv_mi_ok (cv_mk_p hQ cv_mG_on)
  have e4 := cv_mi_ok (cv_mk_m hQ cv_mG_on)
  have e5 := cv_mi_ok (cv_mk_p hPQ cv_mG_on)
  have e6 := cv_mi_ok (cv_mk_m hPQ cv_mG_on)
  have e7 := cv_mi_ok (cv_mk_p hP hQG)
  have e8 := cv_mi_ok (cv_mk_m hP hQG)
  obtain ⟨x, y⟩ := P
  obtain ⟨u, w⟩ := Q
  unfold cv_mon at hP hQ
  simp only [cv_ma, cv_mk, cv_mG] at e1 e2 e3 e4 e5 e6 e7 e8 hP hQ ⊢
  exact Prod.ext (rg_asx hP hQ e1 e2 e3 e4 e5 e7) (rg_asy hP hQ e1 e2 e3 e4 e6 e8)
def cv_mT : Nat → cv_mF × cv_mF
  | 0 => (0, 1)
  | n + 1 => cv_ma (cv_mT n) cv_mG
theorem cv_mT_on : ∀ n, cv_mon (cv_mT n)
  | 0 => by
    show (1 : cv_mF) * 1 - 0 * 0 = 1 + 56 * (0 * 0) * (1 * 1)
    decide +kernel
  | n + 1 => cv_ma_on (cv_mT_on n) cv_mG_on
theorem cv_mT_add (i : Nat) : ∀ j, cv_ma (cv_mT i) (cv_mT j) = cv_mT (i + j)
  | 0 => cv_ma_0 _
  | j + 1 => by
    show cv_ma (cv_mT i) (cv_ma (cv_mT j) cv_mG) = cv_ma (cv_mT (i + j)) cv_mG
    rw [← cv_mT_add i j, cv_ma_assoc (cv_mT_on i) (cv_mT_on j)]
theorem cv_mT_2 (i : Nat) : cv_mT (2 * i) = cv_ma (cv_mT i) (cv_mT i) := by rw [cv_mT_add]; congr 1; omega
theorem cv_mT_21 (i : Nat) : cv_mT (2 * i + 1) = cv_ma (cv_ma (cv_mT i) (cv_mT i)) cv_mG := by show cv_ma (cv_mT (2 * i)) cv_mG = _; rw [cv_mT_2]
theorem cv_mT_c1 : cv_mT 1 = (5090, 9579) := by decide +kernel
theorem cv_mT_c2 : cv_mT 2 = (5340, 4303) := by
  have h := cv_mT_2 1
  rw [cv_mT_c1] at h
  exact h.trans (by decide +kernel)
theorem cv_mT_c4 : cv_mT 4 = (7113, 4941) := by
  have h := cv_mT_2 2
  rw [cv_mT_c2] at h
  exact h.trans (by decide +kernel)
theorem cv_mT_c9 : cv_mT 9 = (5747, 5790) := by
  have h := cv_mT_21 4
  rw [cv_mT_c4] at h
  exact h.trans (by decide +kernel)
theorem cv_mT_c19 : cv_mT 19 = (4824, 2415) := by
  have h := cv_mT_21 9
  rw [cv_mT_c9] at h
  exact h.trans (by decide +kernel)
theorem cv_mT_c38 : cv_mT 38 = (5368, 305) := by
  have h := cv_mT_2 19
  rw [cv_mT_c19] at h
  exact h.trans (by decide +kernel)
theorem cv_mT_c77 : cv_mT 77 = (6180, 3476) := by
  have h := cv_mT_21 38
  rw [cv_mT_c38] at h
  exact h.trans (by decide +kernel)
theorem cv_mT_c154 : cv_mT 154 = (4884, 4220) := by
  have h := cv_mT_2 77
  rw [cv_mT_c77] at h
  exact h.trans (by decide +kernel)
theorem cv_mT_c309 : cv_mT 309 = (8750, 4614) := by
  have h := cv_mT_21 154
  rw [cv_mT_c154] at h
  exact h.trans (by decide +kernel)
theorem cv_mT_c618 : cv_mT 618 = (2, 7760) := by
  have h := cv_mT_2 309
  rw [cv_mT_c309] at h
  exact h.trans (by decide +kernel)
theorem cv_mT_c1236 : cv_mT 1236 = (1076, 7513) := by
  have h := cv_mT_2 618
  rw [cv_mT_c618] at h
  exact h.trans (by decide +kernel)
theorem cv_mT_c2473 : cv_mT 2473 = (0, 1) := by
  have h := cv_mT_21 1236
  rw [cv_mT_c1236] at h
  exact h.trans (by decide +kernel)
theorem cv_mT_per (i : Nat) : cv_mT (i + 2473) = cv_mT i := by rw [← cv_mT_add, cv_mT_c2473]; exact cv_ma_0 _
theorem cv_mT_mod (n : Nat) : cv_mT n = cv_mT (n % 2473) := by
  have h : ∀ q r, cv_mT (r + q * 2473) = cv_mT r := by
    intro q
    induction q with
    | zero => intro r; simp
    | succ q ih => intro r; rw [show r + (q + 1) * 2473 = (r + q * 2473) + 2473 by omega, cv_mT_per, ih]
  have := h (n / 2473) (n % 2473)
  rw [show n % 2473 + n / 2473 * 2473 = n by omega] at this
  exact this
-- a point as one number
def cv_mX (n : Nat) : Nat := (cv_mT n).1.val
def cv_mY (n : Nat) : Nat := (cv_mT n).2.val
def cv_mE (n : Nat) : Nat := cv_mX n * 10009 + cv_mY n
theorem cv_mX_lt (n : Nat) : cv_mX n < 10009 := (cv_mT n).1.isLt
theorem cv_mY_lt (n : Nat) : cv_mY n < 10009 := (cv_mT n).2.isLt
theorem cv_mE_x (n : Nat) : cv_mE n / 10009 = cv_mX n := by have := cv_mY_lt n; unfold cv_mE; omega
theorem cv_mE_y (n : Nat) : cv_mE n % 10009 = cv_mY n := by have := cv_mY_lt n; unfold cv_mE; omega
theorem cv_mX_mod (n : Nat) : cv_mX (n % 2473) = cv_mX n := by unfold cv_mX; rw [← cv_mT_mod]
theorem cv_mY_mod (n : Nat) : cv_mY (n % 2473) = cv_mY n := by unfold cv_mY; rw [← cv_mT_mod]
theorem cv_mE_mod (n : Nat) : cv_mE (n % 2473) = cv_mE n := by unfold cv_mE; rw [cv_mX_mod, cv_mY_mod]
theorem cv_mE_0 : cv_mE 0 = 1 := by decide
theorem cv_mE_lt (n : Nat) : cv_mE n < 100180081 := by have := cv_mX_lt n; have := cv_mY_lt n; unfold cv_mE; omega
theorem cv_mpX (n : Nat) : cv_mp (cv_mX n) = (cv_mT n).1 := cv_mp_val _
theorem cv_mpY (n : Nat) : cv_mp (cv_mY n) = (cv_mT n).2 := cv_mp_val _
-- the sum, as it is counted
def cv_jk (x y u w : Nat) : Nat := 56 * (x * u % 10009) % 10009 * (y * w % 10009) % 10009
def cv_jbx (k : Nat) : Nat := (1 + k) % 10009
def cv_jby (k : Nat) : Nat := (1 + 10009 - k) % 10009
def cv_jsx (x y u w : Nat) : Nat := (x * w + y * u) % 10009 * (cv_miv (cv_jbx (cv_jk x y u w) * cv_jby (cv_jk x y u w) % 10009) * cv_jby (cv_jk x y u w) % 10009) % 10009
def cv_jsy (x y u w : Nat) : Nat := (y * w + x * u) % 10009 * (cv_miv (cv_jbx (cv_jk x y u w) * cv_jby (cv_jk x y u w) % 10009) * cv_jbx (cv_jk x y u w) % 10009) % 10009
theorem cv_jk_mp (x y u w : Nat) : cv_mp (cv_jk x y u w) = cv_mk (cv_mp x, cv_mp y) (cv_mp u, cv_mp w) := by
  unfold cv_jk cv_mk
  simp only [cv_mp_mod, cv_mp_mul]
  have : cv_mp 56 = 56 := by decide
  rw [this]
theorem cv_jk_lt (x y u w : Nat) : cv_jk x y u w < 10009 := Nat.mod_lt _ (by decide)
theorem cv_jbx_mp (k : Nat) : cv_mp (cv_jbx k) = 1 + cv_mp k := by unfold cv_jbx; rw [cv_mp_mod, cv_mp_add, cv_mp_1]
theorem cv_jby_mp {k : Nat} (h : k < 10009) : cv_mp (cv_jby k) = 1 - cv_mp k := by
  unfold cv_jby
  rw [cv_mp_mod, cv_mp_sub (by omega), cv_mp_add, cv_mp_1, cv_mp_10009]
  grind
theorem cv_jsum {i j : Nat} : cv_jsx (cv_mX i) (cv_mY i) (cv_mX j) (cv_mY j) = cv_mX (i + j) ∧ cv_jsy (cv_mX i) (cv_mY i) (cv_mX j) (cv_mY j) = cv_mY (i + j) := by
  have hi := cv_mT_on i
  have hj := cv_mT_on j
  have hk := cv_jk_mp (cv_mX i) (cv_mY i) (cv_mX j) (cv_mY j)
  rw [cv_mpX, cv_mpY, cv_mpX, cv_mpY] at hk
  have hk : cv_mp (cv_jk (cv_mX i) (cv_mY i) (cv_mX j) (cv_mY j)) = cv_mk (cv_mT i) (cv_mT j) := hk
  have hA := cv_mi_ok (cv_mk_p hi hj)
  have hB := cv_mi_ok (cv_mk_m hi hj)
  have hl := cv_jk_lt (cv_mX i) (cv_mY i) (cv_mX j) (cv_mY j)
  have hbx := cv_jbx_mp (cv_jk (cv_mX i) (cv_mY i) (cv_mX j) (cv_mY j))
  have hby := cv_jby_mp hl
  rw [hk] at hbx hby
  have hn : cv_mp (cv_jbx (cv_jk (cv_mX i) (cv_mY i) (cv_mX j) (cv_mY j)) * cv_jby (cv_jk (cv_mX i) (cv_mY i) (cv_mX j) (cv_mY j)) % 10009) = (1 + cv_mk (cv_mT i) (cv_mT j)) * (1 - cv_mk (cv_mT i) (cv_mT j)) := by
    rw [cv_mp_mod, cv_mp_mul, hbx, hby]
  have hv := cv_miv_mp (n := cv_jbx (cv_jk (cv_mX i) (cv_mY i) (cv_mX j) (cv_mY j)) * cv_jby (cv_jk (cv_mX i) (cv_mY i) (cv_mX j) (cv_mY j)) % 10009) (Nat.mod_lt _ (by decide)) (by rw [hn]; exact cv_mnz (cv_mk_p hi hj) (cv_mk_m hi hj))
  rw [hn] at hv
  have hx : cv_mp (cv_jsx (cv_mX i) (cv_mY i) (cv_mX j) (cv_mY j)) = (cv_mT (i + j)).1 := by
    rw [← cv_mT_add]
    unfold cv_jsx cv_ma
    simp only [cv_mp_mod, cv_mp_mul, cv_mp_add]
    rw [hby, cv_mpX, cv_mpY, cv_mpX, cv_mpY]
    have : cv_mp (cv_miv (cv_jbx (cv_jk (cv_mX i) (cv_mY i) (cv_mX j) (cv_mY j)) * cv_jby (cv_jk (cv_mX i) (cv_mY i) (cv_mX j) (cv_mY j)) % 10009)) * (1 - cv_mk (cv_mT i) (cv_mT j)) = cv_mi (1 + cv_mk (cv_mT i) (cv_mT j)) :=
      (cv_mi_of ((rg_c1 _ _ _).trans hv)).symm
    rw [this]
  have hy : cv_mp (cv_jsy (cv_mX i) (cv_mY i) (cv_mX j) (cv_mY j)) = (cv_mT (i + j)).2 := by
    rw [← cv_mT_add]
    unfold cv_jsy cv_ma
    simp only [cv_mp_mod, cv_mp_mul, cv_mp_add]
    rw [hbx, cv_mpX, cv_mpY, cv_mpX, cv_mpY]
    have : cv_mp (cv_miv (cv_jbx (cv_jk (cv_mX i) (cv_mY i) (cv_mX j) (cv_mY j)) * cv_jby (cv_jk (cv_mX i) (cv_mY i) (cv_mX j) (cv_mY j)) % 10009)) * (1 + cv_mk (cv_mT i) (cv_mT j)) = cv_mi (1 - cv_mk (cv_mT i) (cv_mT j)) :=
      (cv_mi_of ((rg_c2 _ _ _).trans hv)).symm
    rw [this]
  constructor
  · have h := congrArg Fin.val hx
    rw [cv_mp_lt, Nat.mod_eq_of_lt (show cv_jsx _ _ _ _ < 10009 from Nat.mod_lt _ (by decide))] at h
    exact h
  · have h := congrArg Fin.val hy
    rw [cv_mp_lt, Nat.mod_eq_of_lt (show cv_jsy _ _ _ _ < 10009 from Nat.mod_lt _ (by decide))] at h
    exact h
theorem cv_mT_c5 : cv_mT 5 = (5006, 6493) := by
  have h := cv_mT_21 2
  rw [cv_mT_c2] at h
  exact h.trans (by decide +kernel)
theorem cv_mT_c10 : cv_mT 10 = (272, 2154) := by
  have h := cv_mT_2 5
  rw [cv_mT_c5] at h
  exact h.trans (by decide +kernel)
theorem cv_mT_c20 : cv_mT 20 = (9991, 6950) := by
  have h := cv_mT_2 10
  rw [cv_mT_c10] at h
  exact h.trans (by decide +kernel)
theorem cv_mT_c40 : cv_mT 40 = (3636, 6275) := by
  have h := cv_mT_2 20
  rw [cv_mT_c20] at h
  exact h.trans (by decide +kernel)
theorem cv_mT_c80 : cv_mT 80 = (9134, 4253) := by
  have h := cv_mT_2 40
  rw [cv_mT_c40] at h
  exact h.trans (by decide +kernel)
theorem cv_mT_c160 : cv_mT 160 = (6496, 2131) := by
  have h := cv_mT_2 80
  rw [cv_mT_c80] at h
  exact h.trans (by decide +kernel)
theorem cv_mT_c320 : cv_mT 320 = (888, 9157) := by
  have h := cv_mT_2 160
  rw [cv_mT_c160] at h
  exact h.trans (by decide +kernel)
theorem cv_mT_c640 : cv_mT 640 = (9642, 678) := by
  have h := cv_mT_2 320
  rw [cv_mT_c320] at h
  exact h.trans (by decide +kernel)
theorem cv_mT_c1281 : cv_mT 1281 = (592, 1212) := by
  have h := cv_mT_21 640
  rw [cv_mT_c640] at h
  exact h.trans (by decide +kernel)
theorem cv_mT_c21 : cv_mT 21 = (784, 891) := by
  have h := cv_mT_21 10
  rw [cv_mT_c10] at h
  exact h.trans (by decide +kernel)
theorem cv_mT_c42 : cv_mT 42 = (154, 2033) := by
  have h := cv_mT_2 21
  rw [cv_mT_c21] at h
  exact h.trans (by decide +kernel)
theorem cv_mT_c85 : cv_mT 85 = (6641, 7745) := by
  have h := cv_mT_21 42
  rw [cv_mT_c42] at h
  exact h.trans (by decide +kernel)
theorem cv_mT_c171 : cv_mT 171 = (8056, 306) := by
  have h := cv_mT_21 85
  rw [cv_mT_c85] at h
  exact h.trans (by decide +kernel)
theorem cv_mT_c342 : cv_mT 342 = (8691, 3117) := by
  have h := cv_mT_2 171
  rw [cv_mT_c171] at h
  exact h.trans (by decide +kernel)
theorem cv_mT_c684 : cv_mT 684 = (2467, 2108) := by
  have h := cv_mT_2 342
  rw [cv_mT_c342] at h
  exact h.trans (by decide +kernel)
theorem cv_mT_c1369 : cv_mT 1369 = (5529, 7488) := by
  have h := cv_mT_21 684
  rw [cv_mT_c684] at h
  exact h.trans (by decide +kernel)
theorem cv_mT_c18 : cv_mT 18 = (2939, 4756) := by
  have h := cv_mT_2 9
  rw [cv_mT_c9] at h
  exact h.trans (by decide +kernel)
theorem cv_mT_c37 : cv_mT 37 = (9879, 1458) := by
  have h := cv_mT_21 18
  rw [cv_mT_c18] at h
  exact h.trans (by decide +kernel)
theorem cv_mT_c75 : cv_mT 75 = (3172, 4066) := by
  have h := cv_mT_21 37
  rw [cv_mT_c37] at h
  exact h.trans (by decide +kernel)
theorem cv_mT_c150 : cv_mT 150 = (398, 9700) := by
  have h := cv_mT_2 75
  rw [cv_mT_c75] at h
  exact h.trans (by decide +kernel)
theorem cv_mT_c301 : cv_mT 301 = (6790, 2488) := by
  have h := cv_mT_21 150
  rw [cv_mT_c150] at h
  exact h.trans (by decide +kernel)
theorem cv_mT_c602 : cv_mT 602 = (2728, 7045) := by
  have h := cv_mT_2 301
  rw [cv_mT_c301] at h
  exact h.trans (by decide +kernel)
theorem cv_mT_c1204 : cv_mT 1204 = (3813, 7358) := by
  have h := cv_mT_2 602
  rw [cv_mT_c602] at h
  exact h.trans (by decide +kernel)
theorem cv_mT_c2409 : cv_mT 2409 = (3794, 270) := by
  have h := cv_mT_21 1204
  rw [cv_mT_c1204] at h
  exact h.trans (by decide +kernel)
theorem cv_mT_c11 : cv_mT 11 = (7112, 5732) := by
  have h := cv_mT_21 5
  rw [cv_mT_c5] at h
  exact h.trans (by decide +kernel)
theorem cv_mT_c23 : cv_mT 23 = (99, 3684) := by
  have h := cv_mT_21 11
  rw [cv_mT_c11] at h
  exact h.trans (by decide +kernel)
theorem cv_mT_c46 : cv_mT 46 = (2511, 419) := by
  have h := cv_mT_2 23
  rw [cv_mT_c23] at h
  exact h.trans (by decide +kernel)
theorem cv_mT_c93 : cv_mT 93 = (3524, 3845) := by
  have h := cv_mT_21 46
  rw [cv_mT_c46] at h
  exact h.trans (by decide +kernel)
theorem cv_mT_c187 : cv_mT 187 = (2504, 1274) := by
  have h := cv_mT_21 93
  rw [cv_mT_c93] at h
  exact h.trans (by decide +kernel)
theorem cv_mT_c374 : cv_mT 374 = (2631, 7992) := by
  have h := cv_mT_2 187
  rw [cv_mT_c187] at h
  exact h.trans (by decide +kernel)
theorem cv_mT_c749 : cv_mT 749 = (4129, 9882) := by
  have h := cv_mT_21 374
  rw [cv_mT_c374] at h
  exact h.trans (by decide +kernel)
theorem cv_mT_c1499 : cv_mT 1499 = (1113, 7823) := by
  have h := cv_mT_21 749
  rw [cv_mT_c749] at h
  exact h.trans (by decide +kernel)
theorem cv_mT_c2472 : cv_mT 2472 = (4919, 9579) := by
  have h := cv_mT_2 1236
  rw [cv_mT_c1236] at h
  exact h.trans (by decide +kernel)
-- the negative
theorem cv_ma_neg (P Q : cv_mF × cv_mF) : cv_ma (-P.1, P.2) (-Q.1, Q.2) = (-(cv_ma P Q).1, (cv_ma P Q).2) := by
  obtain ⟨x, y⟩ := P
  obtain ⟨u, w⟩ := Q
  have h : cv_mk (-x, y) (-u, w) = cv_mk (x, y) (u, w) := by unfold cv_mk; dsimp only; grind
  unfold cv_ma
  dsimp only
  rw [h]
  refine Prod.ext ?_ ?_ <;> dsimp only <;> grind
theorem cv_mT_neg : ∀ n, cv_mT (2472 * n) = (-(cv_mT n).1, (cv_mT n).2)
  | 0 => by decide +kernel
  | n + 1 => by
    have h1 : cv_mT (2472 * (n + 1)) = cv_ma (cv_mT (2472 * n)) (cv_mT 2472) := by rw [cv_mT_add]; congr 1
    rw [h1, cv_mT_neg n, cv_mT_c2472]
    show _ = (-(cv_ma (cv_mT n) cv_mG).1, (cv_ma (cv_mT n) cv_mG).2)
    rw [← cv_ma_neg]
    congr 1
theorem cv_mT_neg' {i : Nat} (h : i ≤ 2473) : cv_mT (2473 - i) = (-(cv_mT i).1, (cv_mT i).2) := by
  rw [← cv_mT_neg i, cv_mT_mod (2473 - i), cv_mT_mod (2472 * i)]
  congr 1
  omega
theorem cv_mneg {i : Nat} (h : i ≤ 2473) : (10009 - cv_mX i) % 10009 = cv_mX (2473 - i) ∧ cv_mY i = cv_mY (2473 - i) := by
  have e := cv_mT_neg' h
  have hx : cv_mp (10009 - cv_mX i) = (cv_mT (2473 - i)).1 := by
    rw [cv_mp_sub (Nat.le_of_lt (cv_mX_lt i)), cv_mp_10009, cv_mpX, e]
    grind
  refine ⟨congrArg Fin.val hx, ?_⟩
  unfold cv_mY
  rw [e]
-- the power, as the reference counts it
def cv_mpw (a : Nat) : Nat → Nat
  | 0 => 1
  | k + 1 => if 10007 / 2 ^ (13 - k) % 2 = 1 then cv_mq (cv_mpw a k) * a % 10009 else cv_mq (cv_mpw a k)
def cv_mew (a : Nat) : Nat := cv_mq (cv_mq (cv_mq (cv_mq (cv_mq (cv_mq (cv_mq (cv_mq (cv_mq (cv_mq (cv_mq (cv_mq (cv_mq (cv_mq 1 * a % 10009))) * a % 10009) * a % 10009) * a % 10009)))) * a % 10009)) * a % 10009) * a % 10009) * a % 10009
theorem cv_mpw_mew (a : Nat) : cv_mpw a 14 = cv_mew a := by
  simp [cv_mpw, cv_mew]
theorem cv_mew_all : cv_mall (fun n => Nat.ble 10009 n || Nat.beq (cv_mew n) (cv_mev n)) 14 0 = true := by decide +kernel
theorem cv_mpw_miv {n : Nat} (h : n < 10009) : cv_mpw n 14 = cv_miv n := by
  have h1 := cv_mall_spec cv_mew_all n (Nat.zero_le _) (Nat.lt_of_lt_of_le h (by decide))
  rw [Bool.or_eq_true] at h1
  rw [cv_miv_mev, cv_mpw_mew]
  rcases h1 with h1 | h1
  · have := Nat.le_of_ble_eq_true h1
    omega
  · exact Nat.eq_of_beq_eq_true h1
-- the base points
theorem cv_mE_of {n x y : Nat} (h : cv_mT n = (cv_mp x, cv_mp y)) (hx : x < 10009) (hy : y < 10009) : cv_mE n = x * 10009 + y := by
  unfold cv_mE cv_mX cv_mY
  rw [h]
  show x % 10009 * 10009 + y % 10009 = x * 10009 + y
  rw [Nat.mod_eq_of_lt hx, Nat.mod_eq_of_lt hy]
theorem cv_mE_1 : cv_mE 1 = 50955389 := (cv_mE_of (n := 1) (x := 5090) (y := 9579) (cv_mT_c1.trans (by decide +kernel)) (by decide) (by decide)).trans (by decide)
theorem cv_mE_V : cv_mE 1281 = 5926540 := (cv_mE_of (n := 1281) (x := 592) (y := 1212) (cv_mT_c1281.trans (by decide +kernel)) (by decide) (by decide)).trans (by decide)
theorem cv_mE_R : cv_mE 1369 = 55347249 := (cv_mE_of (n := 1369) (x := 5529) (y := 7488) (cv_mT_c1369.trans (by decide +kernel)) (by decide) (by decide)).trans (by decide)
theorem cv_mE_A : cv_mE 2409 = 37974416 := (cv_mE_of (n := 2409) (x := 3794) (y := 270) (cv_mT_c2409.trans (by decide +kernel)) (by decide) (by decide)).trans (by decide)
theorem cv_mE_B : cv_mE 1499 = 11147840 := (cv_mE_of (n := 1499) (x := 1113) (y := 7823) (cv_mT_c1499.trans (by decide +kernel)) (by decide) (by decide)).trans (by decide)
