/-! Numbers: an int as J of an integer; and a memory that is a table of integers, at fixed places. -/
def J (z : Int) : Int32 := Int32.ofInt z
abbrev jr (z : Int) : Prop := -2147483648 ≤ z ∧ z < 2147483648
theorem J_add (a b : Int) : J a + J b = J (a + b) := (Int32.ofInt_add a b).symm
theorem J_sub (a b : Int) : J a - J b = J (a - b) := (Int32.ofInt_sub a b).symm
theorem J_mul (a b : Int) : J a * J b = J (a * b) := (Int32.ofInt_mul a b).symm
theorem J_neg (a : Int) : -J a = J (-a) := (Int32.ofInt_neg a).symm
theorem J_toInt {z : Int} (h : jr z) : (J z).toInt = z := Int32.toInt_ofInt_of_le (by have := h.1; omega) (by have := h.2; omega)
theorem J_of (x : Int32) : J x.toInt = x := Int32.ofInt_toInt x
theorem J_rng (x : Int32) : jr x.toInt := ⟨by have := x.le_toInt; omega, by have := x.toInt_lt; omega⟩
theorem J_ex (x : Int32) : ∃ z : Int, jr z ∧ x = J z := ⟨x.toInt, J_rng x, (J_of x).symm⟩
theorem J_eq {a b : Int} (ha : jr a) (hb : jr b) : J a = J b ↔ a = b := by
  constructor
  · intro h
    have := congrArg Int32.toInt h
    rw [J_toInt ha, J_toInt hb] at this
    exact this
  · intro h; rw [h]
theorem J_lt {a b : Int} (ha : jr a) (hb : jr b) : J a < J b ↔ a < b := by rw [Int32.lt_iff_toInt_lt, J_toInt ha, J_toInt hb]
theorem J_le {a b : Int} (ha : jr a) (hb : jr b) : J a ≤ J b ↔ a ≤ b := by rw [Int32.le_iff_toInt_le, J_toInt ha, J_toInt hb]
theorem J_0 : J 0 = 0 := by decide
theorem J_clamp {z : Int} (h : jr z) : (J z).toNatClampNeg = z.toNat := by
  show (J z).toInt.toNat = z.toNat
  rw [J_toInt h]
theorem J_nI (n : Nat) : nI n = J (n : Int) := by
  unfold nI J
  exact Int32.ofInt_eq_ofNat.symm
theorem J_in {z : Int} {n N : Nat} (hn : z = (n : Int)) (h : n < N) (hN : N < 2147483648) : vp_in (J z) N := by
  subst hn
  rw [← J_nI]
  exact vp_in_nI h (by omega)
theorem J_ix {z : Int} {n N : Nat} (hn : z = (n : Int)) (h : n < N) (hN : N < 2147483648) : (J z).toNatClampNeg = n := by
  subst hn
  rw [J_clamp ⟨by omega, by omega⟩]
  exact Int.toNat_natCast n
theorem J_div {a d : Int} (ha : jr a) (hd : 0 < d ∧ d < 2147483648) : J a / J d = J (a.tdiv d) := by
  apply Int32.toInt_inj.mp
  have hb : J d ≠ -1 := by
    intro e
    have h2 := congrArg Int32.toInt e
    rw [J_toInt ⟨by omega, by omega⟩] at h2
    have h3 : (-1 : Int32).toInt = -1 := by decide
    rw [h3] at h2
    omega
  rw [Int32.toInt_div_of_ne_right _ _ hb, J_toInt ha, J_toInt ⟨by omega, by omega⟩]
  refine (J_toInt ?_).symm
  have := ha.1
  have := ha.2
  by_cases h0 : 0 ≤ a
  · rw [Int.tdiv_eq_ediv_of_nonneg h0]
    have := Int.ediv_le_self d h0
    have := Int.ediv_nonneg h0 (Int.le_of_lt hd.1)
    exact ⟨by omega, by omega⟩
  · have h1 : 0 ≤ -a := by omega
    have e : a = -(-a) := by omega
    rw [e, Int.neg_tdiv, Int.tdiv_eq_ediv_of_nonneg h1]
    have := Int.ediv_le_self d h1
    have := Int.ediv_nonneg h1 (Int.le_of_lt hd.1)
    exact ⟨by omega, by omega⟩
theorem J_rem {a d : Int} (ha : jr a) (hd : 0 < d ∧ d < 2147483648) : J a - J a / J d * J d = J (a.tmod d) := by
  rw [J_div ha hd, J_mul, J_sub]
  congr 1
  have := Int.tmod_add_tdiv_mul a d
  omega
theorem J_remP {a d : Int} (h0 : 0 ≤ a) (ha : a < 2147483648) (hd : 0 < d ∧ d < 2147483648) : J a - J a / J d * J d = J (a % d) := by
  rw [J_rem ⟨by omega, ha⟩ hd, Int.tmod_eq_emod_of_nonneg h0]
theorem J_divP {a d : Int} (h0 : 0 ≤ a) (ha : a < 2147483648) (hd : 0 < d ∧ d < 2147483648) : J a / J d = J (a / d) := by
  rw [J_div ⟨by omega, ha⟩ hd, Int.tdiv_eq_ediv_of_nonneg h0]
theorem j_rest {a d : Int} (hd : 0 < d) : (a.tmod d + d) % d = a % d := by
  rw [Int.add_emod_right]
  have h := Int.tmod_add_tdiv_mul a d
  have h2 : a % d = (a.tmod d + a.tdiv d * d) % d := by rw [h]
  rw [h2, Int.add_mul_emod_self_right]
theorem j_tmod_rng {a d : Int} (hd : 0 < d) : -d < a.tmod d ∧ a.tmod d < d := by
  have h1 := Int.tmod_lt_of_pos a hd
  have h2 := Int.lt_tmod_of_pos a hd
  exact ⟨h2, h1⟩
theorem J_shift : ∀ k : Nat, k < 31 → ((J (k : Int) &&& 31).toBitVec.smod 32).toNat = k := by decide +kernel
theorem J_shr {a : Int} {k : Nat} (h0 : 0 ≤ a) (ha : a < 2147483648) (hk : k < 31) : J a >>> (J (k : Int) &&& 31) = J (a / 2 ^ k) := by
  obtain ⟨n, rfl⟩ := Int.eq_ofNat_of_zero_le h0
  rw [← J_nI, pk_shrN (by omega) _ k (J_shift k hk), J_nI]
  congr 1
theorem J_and1 {a : Int} (h0 : 0 ≤ a) (ha : a < 2147483648) : J a &&& J 1 = J (a % 2) := by
  obtain ⟨n, rfl⟩ := Int.eq_ofNat_of_zero_le h0
  rw [← J_nI, pk_andN (by omega) 1 (by decide), J_nI]
  congr 1
theorem j0 : jr 0 := by decide
section YA
variable {p : Program} {l : Launch} {e : Env} {R : Room} {s : State} {m : MethodId} {args : Array Value} {below : List Frame} {meth : Method} {c : Code} {H : Heap} {locs : List Loc} {cells slots : Nat} {Q : State → Prop} {cc : ByteArray} {pc : Nat} {ls : Array Slot} {rest : List Value}
theorem y_iadd (hx : p.tables.exec = Jvm.exec) (hb : c.code = cc) {a b : Int} (hd : decode cc pc = .ok (.iadd, 1)) (k : W p l e R s m args below meth c H locs cells slots Q (F0 m (pc + 1) ls (.int (J (a + b)) :: rest))) : W p l e R s m args below meth c H locs cells slots Q (F0 m pc ls (.int (J b) :: .int (J a) :: rest)) := lv_iadd hx hb hd (by rw [J_add]; exact k)
theorem y_isub (hx : p.tables.exec = Jvm.exec) (hb : c.code = cc) {a b : Int} (hd : decode cc pc = .ok (.isub, 1)) (k : W p l e R s m args below meth c H locs cells slots Q (F0 m (pc + 1) ls (.int (J (a - b)) :: rest))) : W p l e R s m args below meth c H locs cells slots Q (F0 m pc ls (.int (J b) :: .int (J a) :: rest)) := lv_isub hx hb hd (by rw [J_sub]; exact k)
theorem y_imul (hx : p.tables.exec = Jvm.exec) (hb : c.code = cc) {a b : Int} (hd : decode cc pc = .ok (.imul, 1)) (k : W p l e R s m args below meth c H locs cells slots Q (F0 m (pc + 1) ls (.int (J (a * b)) :: rest))) : W p l e R s m args below meth c H locs cells slots Q (F0 m pc ls (.int (J b) :: .int (J a) :: rest)) := lv_imul hx hb hd (by rw [J_mul]; exact k)
theorem y_ineg (hx : p.tables.exec = Jvm.exec) (hb : c.code = cc) {a : Int} (hd : decode cc pc = .ok (.ineg, 1)) (k : W p l e R s m args below meth c H locs cells slots Q (F0 m (pc + 1) ls (.int (J (-a)) :: rest))) : W p l e R s m args below meth c H locs cells slots Q (F0 m pc ls (.int (J a) :: rest)) := lv_ineg hx hb hd (by rw [J_neg]; exact k)
theorem J_ne0 {d : Int} (hd : 0 < d ∧ d < 2147483648) : ¬ J d = 0 := by
  intro e
  rw [← J_0] at e
  have := (J_eq ⟨by omega, by omega⟩ ⟨by omega, by omega⟩).mp e
  omega
theorem y_irem (hx : p.tables.exec = Jvm.exec) (hb : c.code = cc) {a d : Int} (hd : decode cc pc = .ok (.irem, 1)) (h0 : 0 ≤ a) (h1 : a < 2147483648) (h2 : 0 < d ∧ d < 2147483648) (k : W p l e R s m args below meth c H locs cells slots Q (F0 m (pc + 1) ls (.int (J (a % d)) :: rest))) : W p l e R s m args below meth c H locs cells slots Q (F0 m pc ls (.int (J d) :: .int (J a) :: rest)) := lv_irem hx hb hd (J_ne0 h2) (by rw [J_remP h0 h1 h2]; exact k)
theorem y_iremT (hx : p.tables.exec = Jvm.exec) (hb : c.code = cc) {a d : Int} (hd : decode cc pc = .ok (.irem, 1)) (h1 : jr a) (h2 : 0 < d ∧ d < 2147483648) (k : W p l e R s m args below meth c H locs cells slots Q (F0 m (pc + 1) ls (.int (J (a.tmod d)) :: rest))) : W p l e R s m args below meth c H locs cells slots Q (F0 m pc ls (.int (J d) :: .int (J a) :: rest)) := lv_irem hx hb hd (J_ne0 h2) (by rw [J_rem h1 h2]; exact k)
theorem y_idiv (hx : p.tables.exec = Jvm.exec) (hb : c.code = cc) {a d : Int} (hd : decode cc pc = .ok (.idiv, 1)) (h0 : 0 ≤ a) (h1 : a < 2147483648) (h2 : 0 < d ∧ d < 2147483648) (k : W p l e R s m args below meth c H locs cells slots Q (F0 m (pc + 1) ls (.int (J (a / d)) :: rest))) : W p l e R s m args below meth c H locs cells slots Q (F0 m pc ls (.int (J d) :: .int (J a) :: rest)) := lv_idiv hx hb hd (J_ne0 h2) (by rw [J_divP h0 h1 h2]; exact k)
theorem y_ishr (hx : p.tables.exec = Jvm.exec) (hb : c.code = cc) {a b : Int} (hd : decode cc pc = .ok (.ishr, 1)) (n : Nat) (hn : b = (n : Int)) (h0 : 0 ≤ a) (h1 : a < 2147483648) (h2 : n < 31) (k : W p l e R s m args below meth c H locs cells slots Q (F0 m (pc + 1) ls (.int (J (a / 2 ^ n)) :: rest))) : W p l e R s m args below meth c H locs cells slots Q (F0 m pc ls (.int (J b) :: .int (J a) :: rest)) := lv_ishr hx hb hd (by rw [hn, J_shr h0 h1 h2]; exact k)
theorem y_iand1 (hx : p.tables.exec = Jvm.exec) (hb : c.code = cc) {a : Int} (hd : decode cc pc = .ok (.iand, 1)) (h0 : 0 ≤ a) (h1 : a < 2147483648) (k : W p l e R s m args below meth c H locs cells slots Q (F0 m (pc + 1) ls (.int (J (a % 2)) :: rest))) : W p l e R s m args below meth c H locs cells slots Q (F0 m pc ls (.int (J 1) :: .int (J a) :: rest)) := lv_iand hx hb hd (by rw [J_and1 h0 h1]; exact k)
theorem y_icmp_eq (hx : p.tables.exec = Jvm.exec) (hb : c.code = cc) {a b off : Int} {tgt : Nat} (hd : decode cc pc = .ok (.if_icmp .eq off, 3)) (ht : (pc : Int) + off = (tgt : Int)) (ha : jr a) (hb2 : jr b) (kt : a = b → W p l e R s m args below meth c H locs cells slots Q (F0 m tgt ls rest)) (kf : ¬ (a = b) → W p l e R s m args below meth c H locs cells slots Q (F0 m (pc + 3) ls rest)) : W p l e R s m args below meth c H locs cells slots Q (F0 m pc ls (.int (J b) :: .int (J a) :: rest)) := lv_icmp_eq hx hb hd ht (fun h => kt ((J_eq ha hb2).mp h)) (fun h => kf (fun q => h ((J_eq ha hb2).mpr q)))
theorem y_if_eq (hx : p.tables.exec = Jvm.exec) (hb : c.code = cc) {a off : Int} {tgt : Nat} (hd : decode cc pc = .ok (.ifCond .eq off, 3)) (ht : (pc : Int) + off = (tgt : Int)) (ha : jr a) (kt : a = 0 → W p l e R s m args below meth c H locs cells slots Q (F0 m tgt ls rest)) (kf : ¬ (a = 0) → W p l e R s m args below meth c H locs cells slots Q (F0 m (pc + 3) ls rest)) : W p l e R s m args below meth c H locs cells slots Q (F0 m pc ls (.int (J a) :: rest)) := lv_if_eq hx hb hd ht (fun h => kt ((J_eq ha j0).mp (by rw [← J_0] at h; exact h))) (fun h => kf (fun q => h (by rw [← J_0]; exact (J_eq ha j0).mpr q)))
theorem y_icmp_ne (hx : p.tables.exec = Jvm.exec) (hb : c.code = cc) {a b off : Int} {tgt : Nat} (hd : decode cc pc = .ok (.if_icmp .ne off, 3)) (ht : (pc : Int) + off = (tgt : Int)) (ha : jr a) (hb2 : jr b) (kt : ¬ a = b → W p l e R s m args below meth c H locs cells slots Q (F0 m tgt ls rest)) (kf : a = b → W p l e R s m args below meth c H locs cells slots Q (F0 m (pc + 3) ls rest)) : W p l e R s m args below meth c H locs cells slots Q (F0 m pc ls (.int (J b) :: .int (J a) :: rest)) := lv_icmp_ne hx hb hd ht (fun h => kt (fun q => h ((J_eq ha hb2).mpr q))) (fun h => kf ((J_eq ha hb2).mp h))
theorem y_if_ne (hx : p.tables.exec = Jvm.exec) (hb : c.code = cc) {a off : Int} {tgt : Nat} (hd : decode cc pc = .ok (.ifCond .ne off, 3)) (ht : (pc : Int) + off = (tgt : Int)) (ha : jr a) (kt : ¬ a = 0 → W p l e R s m args below meth c H locs cells slots Q (F0 m tgt ls rest)) (kf : a = 0 → W p l e R s m args below meth c H locs cells slots Q (F0 m (pc + 3) ls rest)) : W p l e R s m args below meth c H locs cells slots Q (F0 m pc ls (.int (J a) :: rest)) := lv_if_ne hx hb hd ht (fun h => kt (fun q => h (by rw [← J_0]; exact (J_eq ha j0).mpr q))) (fun h => kf ((J_eq ha j0).mp (by rw [← J_0] at h; exact h)))
theorem y_icmp_lt (hx : p.tables.exec = Jvm.exec) (hb : c.code = cc) {a b off : Int} {tgt : Nat} (hd : decode cc pc = .ok (.if_icmp .lt off, 3)) (ht : (pc : Int) + off = (tgt : Int)) (ha : jr a) (hb2 : jr b) (kt : a < b → W p l e R s m args below meth c H locs cells slots Q (F0 m tgt ls rest)) (kf : ¬ (a < b) → W p l e R s m args below meth c H locs cells slots Q (F0 m (pc + 3) ls rest)) : W p l e R s m args below meth c H locs cells slots Q (F0 m pc ls (.int (J b) :: .int (J a) :: rest)) := lv_icmp_lt hx hb hd ht (fun h => kt ((J_lt ha hb2).mp h)) (fun h => kf (fun q => h ((J_lt ha hb2).mpr q)))
theorem y_if_lt (hx : p.tables.exec = Jvm.exec) (hb : c.code = cc) {a off : Int} {tgt : Nat} (hd : decode cc pc = .ok (.ifCond .lt off, 3)) (ht : (pc : Int) + off = (tgt : Int)) (ha : jr a) (kt : a < 0 → W p l e R s m args below meth c H locs cells slots Q (F0 m tgt ls rest)) (kf : ¬ (a < 0) → W p l e R s m args below meth c H locs cells slots Q (F0 m (pc + 3) ls rest)) : W p l e R s m args below meth c H locs cells slots Q (F0 m pc ls (.int (J a) :: rest)) := lv_if_lt hx hb hd ht (fun h => kt ((J_lt ha j0).mp (by rw [← J_0] at h; exact h))) (fun h => kf (fun q => h (by rw [← J_0]; exact (J_lt ha j0).mpr q)))
theorem y_icmp_ge (hx : p.tables.exec = Jvm.exec) (hb : c.code = cc) {a b off : Int} {tgt : Nat} (hd : decode cc pc = .ok (.if_icmp .ge off, 3)) (ht : (pc : Int) + off = (tgt : Int)) (ha : jr a) (hb2 : jr b) (kt : b ≤ a → W p l e R s m args below meth c H locs cells slots Q (F0 m tgt ls rest)) (kf : ¬ (b ≤ a) → W p l e R s m args below meth c H locs cells slots Q (F0 m (pc + 3) ls rest)) : W p l e R s m args below meth c H locs cells slots Q (F0 m pc ls (.int (J b) :: .int (J a) :: rest)) := lv_icmp_ge hx hb hd ht (fun h => kt ((J_le hb2 ha).mp h)) (fun h => kf (fun q => h ((J_le hb2 ha).mpr q)))
theorem y_if_ge (hx : p.tables.exec = Jvm.exec) (hb : c.code = cc) {a off : Int} {tgt : Nat} (hd : decode cc pc = .ok (.ifCond .ge off, 3)) (ht : (pc : Int) + off = (tgt : Int)) (ha : jr a) (kt : 0 ≤ a → W p l e R s m args below meth c H locs cells slots Q (F0 m tgt ls rest)) (kf : ¬ (0 ≤ a) → W p l e R s m args below meth c H locs cells slots Q (F0 m (pc + 3) ls rest)) : W p l e R s m args below meth c H locs cells slots Q (F0 m pc ls (.int (J a) :: rest)) := lv_if_ge hx hb hd ht (fun h => kt ((J_le j0 ha).mp (by rw [← J_0] at h; exact h))) (fun h => kf (fun q => h (by rw [← J_0]; exact (J_le j0 ha).mpr q)))
theorem y_icmp_gt (hx : p.tables.exec = Jvm.exec) (hb : c.code = cc) {a b off : Int} {tgt : Nat} (hd : decode cc pc = .ok (.if_icmp .gt off, 3)) (ht : (pc : Int) + off = (tgt : Int)) (ha : jr a) (hb2 : jr b) (kt : b < a → W p l e R s m args below meth c H locs cells slots Q (F0 m tgt ls rest)) (kf : ¬ (b < a) → W p l e R s m args below meth c H locs cells slots Q (F0 m (pc + 3) ls rest)) : W p l e R s m args below meth c H locs cells slots Q (F0 m pc ls (.int (J b) :: .int (J a) :: rest)) := lv_icmp_gt hx hb hd ht (fun h => kt ((J_lt hb2 ha).mp h)) (fun h => kf (fun q => h ((J_lt hb2 ha).mpr q)))
theorem y_if_gt (hx : p.tables.exec = Jvm.exec) (hb : c.code = cc) {a off : Int} {tgt : Nat} (hd : decode cc pc = .ok (.ifCond .gt off, 3)) (ht : (pc : Int) + off = (tgt : Int)) (ha : jr a) (kt : 0 < a → W p l e R s m args below meth c H locs cells slots Q (F0 m tgt ls rest)) (kf : ¬ (0 < a) → W p l e R s m args below meth c H locs cells slots Q (F0 m (pc + 3) ls rest)) : W p l e R s m args below meth c H locs cells slots Q (F0 m pc ls (.int (J a) :: rest)) := lv_if_gt hx hb hd ht (fun h => kt ((J_lt j0 ha).mp (by rw [← J_0] at h; exact h))) (fun h => kf (fun q => h (by rw [← J_0]; exact (J_lt j0 ha).mpr q)))
theorem y_icmp_le (hx : p.tables.exec = Jvm.exec) (hb : c.code = cc) {a b off : Int} {tgt : Nat} (hd : decode cc pc = .ok (.if_icmp .le off, 3)) (ht : (pc : Int) + off = (tgt : Int)) (ha : jr a) (hb2 : jr b) (kt : a ≤ b → W p l e R s m args below meth c H locs cells slots Q (F0 m tgt ls rest)) (kf : ¬ (a ≤ b) → W p l e R s m args below meth c H locs cells slots Q (F0 m (pc + 3) ls rest)) : W p l e R s m args below meth c H locs cells slots Q (F0 m pc ls (.int (J b) :: .int (J a) :: rest)) := lv_icmp_le hx hb hd ht (fun h => kt ((J_le ha hb2).mp h)) (fun h => kf (fun q => h ((J_le ha hb2).mpr q)))
theorem y_if_le (hx : p.tables.exec = Jvm.exec) (hb : c.code = cc) {a off : Int} {tgt : Nat} (hd : decode cc pc = .ok (.ifCond .le off, 3)) (ht : (pc : Int) + off = (tgt : Int)) (ha : jr a) (kt : a ≤ 0 → W p l e R s m args below meth c H locs cells slots Q (F0 m tgt ls rest)) (kf : ¬ (a ≤ 0) → W p l e R s m args below meth c H locs cells slots Q (F0 m (pc + 3) ls rest)) : W p l e R s m args below meth c H locs cells slots Q (F0 m pc ls (.int (J a) :: rest)) := lv_if_le hx hb hd ht (fun h => kt ((J_le ha j0).mp (by rw [← J_0] at h; exact h))) (fun h => kf (fun q => h (by rw [← J_0]; exact (J_le ha j0).mpr q)))
theorem y_ldc (hx : p.tables.exec = Jvm.exec) (hb : c.code = cc) {own : String} {index : Nat} {v : Int32} {n : Int} (hown : s.vm.findClass own = some m.cls) (hw : (Jvm.Cond.constant own index v).before args s = true) (hv : v = J n) (hd : decode cc pc = .ok (.ldc index, 2)) (k : W p l e R s m args below meth c H locs cells slots Q (F0 m (pc + 2) ls (.int (J n) :: rest))) : W p l e R s m args below meth c H locs cells slots Q (F0 m pc ls rest) := lv_ldc hx hb hown hw hd (by rw [hv]; exact k)
theorem y_ixor (hx : p.tables.exec = Jvm.exec) (hb : c.code = cc) {a b n : Int} (hd : decode cc pc = .ok (.ixor, 1)) (h : J a ^^^ J b = J n) (k : W p l e R s m args below meth c H locs cells slots Q (F0 m (pc + 1) ls (.int (J n) :: rest))) : W p l e R s m args below meth c H locs cells slots Q (F0 m pc ls (.int (J b) :: .int (J a) :: rest)) := lv_ixor hx hb hd (by rw [h]; exact k)
theorem y_ixor' (hx : p.tables.exec = Jvm.exec) (hb : c.code = cc) {a b : Int} (hd : decode cc pc = .ok (.ixor, 1)) (k : ∀ n : Int, jr n → J a ^^^ J b = J n → W p l e R s m args below meth c H locs cells slots Q (F0 m (pc + 1) ls (.int (J n) :: rest))) : W p l e R s m args below meth c H locs cells slots Q (F0 m pc ls (.int (J b) :: .int (J a) :: rest)) := lv_ixor hx hb hd (by
  obtain ⟨n, h1, h2⟩ := J_ex (J a ^^^ J b)
  rw [h2]
  exact k n h1 h2)
end YA
theorem J_neg_iff (x : Int32) : x.toInt < 0 ↔ x.toBitVec.msb = true := by
  rw [BitVec.msb_eq_toInt]
  simp
theorem J_xor_neg {a d n : Int} (ha : jr a) (hd : 0 ≤ d ∧ d < 2147483648) (hn : jr n) (h : J a ^^^ J d = J n) : n < 0 ↔ a < 0 := by
  have h1 : (J d).toBitVec.msb = false := by
    rw [BitVec.msb_eq_toInt]
    have : (J d).toBitVec.toInt = d := J_toInt ⟨by omega, by omega⟩
    rw [this]
    simp; omega
  have h2 : (J a ^^^ J d).toBitVec.msb = (J a).toBitVec.msb := by
    rw [Int32.toBitVec_xor, BitVec.msb_xor, h1, Bool.xor_false]
  rw [h] at h2
  have e1 := J_neg_iff (J n)
  have e2 := J_neg_iff (J a)
  rw [J_toInt hn] at e1
  rw [J_toInt ha] at e2
  rw [e1, e2, h2]
theorem J_xor1 : ∀ n : Nat, n < 16 → J (n : Int) ^^^ J 1 = J ((n ^^^ 1 : Nat) : Int) := by decide +kernel
theorem J_and31 (x : Int32) : ∃ n : Nat, n < 32 ∧ x &&& J 31 = J (n : Int) := by
  obtain ⟨n, h1, h2⟩ := pk_andE x (m := J 31) 5 (by decide)
  exact ⟨n, h1, by rw [h2, J_nI]⟩
theorem j_bit (S : Nat) (b : Nat) : S % 2 ^ (b + 1) = S % 2 ^ b + 2 ^ b * (S / 2 ^ b % 2) := by
  rw [Nat.pow_succ, Nat.mod_mul]
