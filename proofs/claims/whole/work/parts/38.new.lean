/-! Rows for what makes cells: a memory in the making, cell by cell. -/
def eu (E : Nat → va_E) (c : Nat) (x : va_E) : Nat → va_E := fun d => if d = c then x else E d
theorem eu_at {E : Nat → va_E} {c : Nat} {x : va_E} : eu E c x c = x := if_pos rfl
theorem eu_ne {E : Nat → va_E} {c d : Nat} {x : va_E} (h : d ≠ c) : eu E c x d = E d := if_neg h
def ej (E : Nat → va_E) (k : Nat) (F : Nat → va_E) : Nat → va_E := fun d => if d < k then E d else F d
theorem ej_lt {E F : Nat → va_E} {k d : Nat} (h : d < k) : ej E k F d = E d := if_pos h
theorem ej_ge {E F : Nat → va_E} {k d : Nat} (h : k ≤ d) : ej E k F d = F d := if_neg (Nat.not_lt.mpr h)
def xl (E : Nat → va_E) (lo n z : Nat) : va_W := (List.range n).map (fun i => (z + (lo + i), E (lo + i)))
abbrev xX (cl : List vw_C) (G : yG) (E : Nat → va_E) (lo n z : Nat) (H : Heap) : Prop := va_P G.1 cl (xl E lo n z) H
theorem xl_at {E : Nat → va_E} {lo n z c : Nat} (hc : lo ≤ c ∧ c < lo + n) : (xl E lo n z)[c - lo]? = some (z + c, E c) := by
  have h1 : c - lo < n := by omega
  have h2 : lo + (c - lo) = c := by omega
  unfold xl
  rw [List.getElem?_map, List.getElem?_range h1, Option.map_some, h2]
theorem xl_back {E : Nat → va_E} {lo n z k : Nat} {q : Nat × va_E} (h : (xl E lo n z)[k]? = some q) : k < n ∧ q = (z + (lo + k), E (lo + k)) := by
  unfold xl at h
  rw [List.getElem?_map] at h
  by_cases hk : k < n
  · rw [List.getElem?_range hk, Option.map_some] at h
    exact ⟨hk, (Option.some.inj h).symm⟩
  · rw [List.getElem?_eq_none (by rw [List.length_range]; omega)] at h
    cases h
theorem xl_len {E : Nat → va_E} {lo n z : Nat} : (xl E lo n z).length = n := by unfold xl; rw [List.length_map, List.length_range]
theorem xX_at {cl : List vw_C} {G : yG} {E : Nat → va_E} {lo n z c : Nat} {H : Heap} (h : xX cl G E lo n z H) (hc : lo ≤ c ∧ c < lo + n) : va_at G.1 cl (z + c, E c) H := h _ _ (xl_at hc)
theorem xX_of {cl : List vw_C} {G : yG} {E : Nat → va_E} {lo n z : Nat} {H : Heap} (h : ∀ c, lo ≤ c ∧ c < lo + n → va_at G.1 cl (z + c, E c) H) : xX cl G E lo n z H := by
  intro k q hk
  obtain ⟨h1, h2⟩ := xl_back hk
  rw [h2]
  exact h (lo + k) (by omega)
theorem xX_cg {cl : List vw_C} {G : yG} {E F : Nat → va_E} {lo n z : Nat} {H : Heap} (h : xX cl G E lo n z H) (he : ∀ c, lo ≤ c ∧ c < lo + n → E c = F c) : xX cl G F lo n z H := xX_of fun c hc => by rw [← he c hc]; exact xX_at h hc
theorem xX_y {cl : List vw_C} {G : yG} {L : Nat → yL} {E : Nat → va_E} {lo n lo' n' z : Nat} {σ : yM} {H : Heap} (h : xX cl G E lo n z H) (h1 : lo ≤ lo') (h2 : lo' + n' ≤ lo + n) (he : ∀ c, lo' ≤ c ∧ c < lo' + n' → E c = yC L G.2 z σ c) : yW cl G L lo' n' z σ H := yW_of fun c hc => by rw [← he c hc]; exact xX_at h ⟨by omega, by omega⟩
theorem xl_set {E : Nat → va_E} {lo n z c : Nat} {x : va_E} (hc : lo ≤ c ∧ c < lo + n) : (xl E lo n z).set (c - lo) (z + c, x) = xl (eu E c x) lo n z := by
  apply List.ext_getElem?
  intro i
  rw [List.getElem?_set, xl_len]
  by_cases hi : c - lo = i
  · subst hi
    rw [if_pos rfl, if_pos (by omega), xl_at hc, eu_at]
  · rw [if_neg hi]
    by_cases hn : i < n
    · have h1 : lo ≤ lo + i ∧ lo + i < lo + n := by omega
      have h2 := xl_at (E := E) (z := z) h1
      have h3 := xl_at (E := eu E c x) (z := z) h1
      rw [show lo + i - lo = i by omega] at h2 h3
      rw [h2, h3, eu_ne (by omega)]
    · rw [List.getElem?_eq_none (by rw [xl_len]; omega), List.getElem?_eq_none (by rw [xl_len]; omega)]
theorem xl_D {E : Nat → va_E} {lo n z : Nat} {A : Nat → Prop} (h : ∀ d, lo ≤ d → A (z + d)) : va_D A (xl E lo n z) := by
  refine ⟨fun i j x y hi hj hxy => ?_, fun k q hk => ?_⟩
  · have h1 := (xl_back hi).2
    have h2 := (xl_back hj).2
    rw [h1, h2] at hxy
    dsimp only at hxy
    omega
  · obtain ⟨h1, h2⟩ := xl_back hk
    rw [h2]
    exact h (lo + k) (by omega)
/-- a cell more -/
theorem xX_push {cl : List vw_C} {G : yG} {E : Nat → va_E} {lo n z : Nat} {x : va_E} {H H1 : Heap} (h : xX cl G E lo n z H) (hk : ∀ q, q < z + (lo + n) → H1[q]? = H[q]?) (hx : va_at G.1 cl (z + (lo + n), x) H1) : xX cl G (eu E (lo + n) x) lo (n + 1) z H1 := xX_of fun c hc => by
  by_cases e : c = lo + n
  · subst e; rw [eu_at]; exact hx
  · rw [eu_ne e]
    exact (xX_at h ⟨hc.1, by omega⟩).kept (hk _ (by show z + c < _; omega))
theorem xX_join {cl : List vw_C} {G : yG} {L : Nat → yL} {E : Nat → va_E} {lo n z d m : Nat} {τ : yM} {H H1 : Heap} (h : xX cl G E lo n z H) (hk : ∀ q, q < H.size → ¬ z + d ≤ q → H1[q]? = H[q]?) (hW : yW cl G L d m z τ H1) (h1 : lo ≤ d) (h2 : d ≤ lo + n) {n' : Nat} (hn : lo + n' = d + m) : xX cl G (ej E d (yC L G.2 z τ)) lo n' z H1 := xX_of fun c hc => by
  by_cases e : c < d
  · rw [ej_lt e]
    have h3 := xX_at h (c := c) ⟨hc.1, by omega⟩
    exact h3.kept (hk _ h3.lt (by show ¬ z + d ≤ z + c; omega))
  · rw [ej_ge (by omega)]
    exact yW_at hW ⟨by omega, by omega⟩
theorem J0 : J 0 = 0 := by decide +kernel
def yK2 (G : yG) (U : State) : Prop := yK G U ∧ va_AO R_Block U ∧ va_AO R_Spend U ∧ va_AO R_Output U ∧ va_AO R_Key U
theorem yK2_bl (G : yG) : yBl (yK2 G) := fun U g mk a h => ⟨yK_bl G U g mk a h.1, h.2.1, h.2.2.1, h.2.2.2.1, h.2.2.2.2⟩
theorem yK2_mv (G : yG) : yMv (yK2 G) := fun s U hW h => ⟨yK_mv G s U hW h.1, h.2.1.moved hW.alike, h.2.2.1.moved hW.alike, h.2.2.2.1.moved hW.alike, h.2.2.2.2.moved hW.alike⟩
section YX
variable {p : Program} {l : Launch} {e : Env} {R : Room} {s : State} {m : MethodId} {args : Array Value} {below : List Frame} {meth : Method} {c : Code} {H : Heap} {locs : List Loc} {cells slots : Nat} {Q : State → Prop} {cc : ByteArray} {pc : Nat} {ls : Array Slot} {rest st0 : List Value}
variable {cl : List vw_C} {G : yG} {E : Nat → va_E} {lo n z : Nat} {A : Nat → Prop} {H0 : Heap} {a : Array Value} {tys : List (ClassId × FieldType)}
theorem x_sz {g : JFrame} (hX : xX cl G E lo n z H) (hn : 0 < n) (hc : s.heap.size + cells = z + (lo + n)) (kk : H.size = z + (lo + n) → W p l e R s m args below meth c H locs cells slots Q g) : W p l e R s m args below meth c H locs cells slots Q g := fun T hT X => kk (by
  have h1 := X.heapSize
  rw [hT] at h1
  have h2 := (xX_at hX (c := lo + n - 1) ⟨by omega, by omega⟩).lt
  have h2 : z + (lo + n - 1) < H.size := h2
  omega) T hT X
theorem x_newa (hx : p.tables.exec = Jvm.exec) (hb : c.code = cc) {atype : ArrayType} (harr : (Cond.arrayClass (newarray.typeOf atype)).before args s = true) {cA0 : ClassId} (hra : s.vm.findClass ("[" ++ (newarray.typeOf atype).toString) = some cA0) (hX : xX cl G E lo n z H) (hS : va_S A H0 H locs) (hZ : H.size = z + (lo + n))
    {v : Int32} {N' : Nat} {a0 : vp_A} (ha : ∀ cA : ClassId, vp_cell cA a0 = arrV cA N' (fun _ => defaultValue (newarray.typeOf atype))) (hn : ¬ v < 0) (hN : v.toNatClampNeg = N') (hbytes : N' * componentBytes (newarray.typeOf atype) ≤ 536870912) (hcells : cells + 1 ≤ R.cells) (hslots : slots + N' ≤ R.slots) (hdg : decode cc pc = .ok (.newarray atype, 2))
    (kk : ∀ (H1 : Heap), xX cl G (eu E (lo + n) (.inl (cA0, a0))) lo (n + 1) z H1 → va_S A H0 H1 locs → W p l e R s m args below meth c H1 locs (cells + 1) (slots + N') Q (F0 m (pc + 2) ls (.ref (z + (lo + n)) :: rest))) : W p l e R s m args below meth c H locs cells slots Q (F0 m pc ls (.int v :: rest)) := by
  refine va_newaK hx hb harr rfl hdg rfl hn hN hbytes hcells hslots hZ fun H1 cA e1 z1 o1 hAr hNm => ?_
  have hc : cA = cA0 := Option.some.inj (hNm.symm.trans hra)
  subst hc
  refine kk H1 (xX_push hX o1 ?_) ⟨Nat.le_trans hS.1 (by omega), fun x h1 h2 => (o1 x (by have := hS.1; omega)).trans (hS.2.1 x h1 h2), hS.2.2⟩
  show H1[z + (lo + n)]? = some (vp_cell _ _)
  rw [ha]
  exact e1
theorem x_newq (hx : p.tables.exec = Jvm.exec) (hb : c.code = cc) {own C : String} {index : Nat} (hown : s.vm.findClass own = some m.cls) (hclink : (Cond.classLink own index C).before args s = true) (hover : va_AO C s) {cA0 : ClassId} (hra : s.vm.findClass ("[" ++ (FieldType.object C).toString) = some cA0) (hX : xX cl G E lo n z H) (hS : va_S A H0 H locs) (hZ : H.size = z + (lo + n))
    {v : Int32} {N' : Nat} (hn : ¬ v < 0) (hN : v.toNatClampNeg = N') (hbytes : N' * 4 ≤ 536870912) (hcells : cells + 1 ≤ R.cells) (hslots : slots + N' ≤ R.slots) (hdg : decode cc pc = .ok (.anewarray index, 3))
    (kk : ∀ (H1 : Heap), xX cl G (eu E (lo + n) (.inl (cA0, N', .inr (.inr (.inr (.inr (fun _ => none))))))) lo (n + 1) z H1 → va_S A H0 H1 locs → W p l e R s m args below meth c H1 locs (cells + 1) (slots + N') Q (F0 m (pc + 3) ls (.ref (z + (lo + n)) :: rest))) : W p l e R s m args below meth c H locs cells slots Q (F0 m pc ls (.int v :: rest)) := by
  subst hN
  refine W.anew hx hb hown hclink (va_AO.use hover) rfl hdg rfl hn hbytes hcells hslots fun cA kA comp f1 f2 f3 f4 => ?_
  have hc : cA = cA0 := Option.some.inj (f1.symm.trans hra)
  subst hc
  rw [hZ]
  generalize hH1 : H.push ({ cls := cA, slots := Array.replicate v.toNatClampNeg .null, vm := .none } : Cell) = H1
  have z1 : H1.size = H.size + 1 := by rw [← hH1, Array.size_push]
  have e1 : H1[H.size]? = some (arrV cA v.toNatClampNeg (fun _ => .null)) := by rw [← hH1, Array.getElem?_push_size, ← arrV_new]
  have o1 : ∀ q : Nat, q < H.size → H1[q]? = H[q]? := fun q hq => by rw [← hH1, Array.getElem?_push, if_neg (Nat.ne_of_lt hq)]
  refine kk H1 (xX_push hX (fun q hq => o1 q (by omega)) ?_) ⟨Nat.le_trans hS.1 (by omega), fun x h1 h2 => (o1 x (Nat.lt_of_lt_of_le h1 hS.1)).trans (hS.2.1 x h1 h2), hS.2.2⟩
  show H1[z + (lo + n)]? = some (vp_cell _ _)
  rw [← hZ, e1]
  rfl
theorem x_new (hx : p.tables.exec = Jvm.exec) (hb : c.code = cc) {own C : String} {T : u_T} {N ci index : Nat} {Ts : List Cond} (hts : ∀ w ∈ Ts, w.before args s = true) (hin : ∀ w ∈ u_ws C T N, w ∈ Ts) (ty : Nat → FieldType) (hty : ∀ k, k < N → parseFieldDescriptor (T k).2.2.1 = some (ty k)) (hown : s.vm.findClass own = some m.cls) (hcl : (Cond.classLink own index C).before args s = true) (hinst : (Cond.instantiable C N).before args s = true) (hini : (Cond.initialized C).before args s = true)
    (hK : va_K G.1 cl tys s) (hX : xX cl G E lo n z H) (hS : va_S A H0 H locs) (hZ : H.size = z + (lo + n)) (hc : cl[ci]? = some (C, T, N)) {fs : List Value} (hfs : ∀ j, j < N → defaultValue (ty j) = vp_V fs j) (hcells : cells + 1 ≤ R.cells) (hslots : slots + N ≤ R.slots) (hdg : decode cc pc = .ok (.new index, 3))
    (kk : ∀ (H1 : Heap), xX cl G (eu E (lo + n) (.inr (ci, fs))) lo (n + 1) z H1 → va_S A H0 H1 locs → W p l e R s m args below meth c H1 locs (cells + 1) (slots + N) Q (F0 m (pc + 3) ls (.ref (z + (lo + n)) :: rest))) : W p l e R s m args below meth c H locs cells slots Q (F0 m pc ls rest) := by
  have hKn := hK.1 ci _ hc
  refine W.newcK hx hb hown hcl hinst hini rfl hdg hcells hslots hKn.2.1 hZ fun H1 kC hkC e1 z1 o1 => ?_
  refine kk H1 (xX_push hX o1 ?_) ⟨Nat.le_trans hS.1 (by omega), fun x h1 h2 => (o1 x (by have := hS.1; omega)).trans (hS.2.1 x h1 h2), hS.2.2⟩
  exact ⟨_, hc, (u_born ty hts hin hKn hkC e1 hty).to hfs⟩
theorem x_put (hx : p.tables.exec = Jvm.exec) (hb : c.code = cc) {own C : String} {T : u_T} {N ci index : Nat} {Ts : List Cond} (hts : ∀ w ∈ Ts, w.before args s = true) (hin : ∀ w ∈ u_ws C T N, w ∈ Ts) (ty0 : Nat → FieldType) (hty : ∀ k, k < N → parseFieldDescriptor (T k).2.2.1 = some (ty0 k)) (hnm : ∀ a, a < N → ∀ b, b < N → a ≠ b → (T a).2.1 ≠ (T b).2.1) (hown : s.vm.findClass own = some m.cls) (hK : va_K G.1 cl tys s) (hX : xX cl G E lo n z H) (hAr : ∀ d, lo ≤ d → A (z + d)) (hS : va_S A H0 H locs) (d : Nat) (hd : lo ≤ d ∧ d < lo + n) {fs : List Value} (hE : E d = .inr (ci, fs)) (hc : cl[ci]? = some (C, T, N)) (k : Nat) (hk : k < N) (hlink : (Cond.fieldLink own index (T k).1 (T k).2.1 (T k).2.2.1).before args s = true) (hfin : (T k).2.2.2 = false) {ty : FieldType} {v : Value} (hpd : parseFieldDescriptor (T k).2.2.1 = some ty) (hn : narrow ty v = v) (hfit : fits ty v = true) (hl : k < fs.length)
    (hdg : decode cc pc = .ok (.putfield index, 3)) (kk : ∀ (H1 : Heap) (locs1 : List Loc), xX cl G (eu E d (.inr (ci, fs.set k v))) lo n z H1 → va_S A H0 H1 locs1 → W p l e R s m args below meth c H1 locs1 cells slots Q (F0 m (pc + 3) ls rest)) : W p l e R s m args below meth c H locs cells slots Q (F0 m pc ls (v :: .ref (z + d) :: rest)) :=
  va_put hx hb hts hin ty0 hty hnm hown hK hX (xl_D hAr) hS (d - lo) (by rw [xl_at hd, hE]) hc k hk hlink (fun _ h9 => h9) hfin hpd hn hfit hl hdg (fun H1 locs1 hP _ hS1 => kk H1 locs1 (by rw [xl_set hd] at hP; exact hP) hS1)
theorem x_putF (hx : p.tables.exec = Jvm.exec) (hb : c.code = cc) {own C : String} {T : u_T} {N ci index : Nat} {Ts : List Cond} (hts : ∀ w ∈ Ts, w.before args s = true) (hin : ∀ w ∈ u_ws C T N, w ∈ Ts) (ty0 : Nat → FieldType) (hty : ∀ k, k < N → parseFieldDescriptor (T k).2.2.1 = some (ty0 k)) (hnm : ∀ a, a < N → ∀ b, b < N → a ≠ b → (T a).2.1 ≠ (T b).2.1) (hown : s.vm.findClass own = some m.cls) (hK : va_K G.1 cl tys s) (hX : xX cl G E lo n z H) (hAr : ∀ d, lo ≤ d → A (z + d)) (hS : va_S A H0 H locs) (d : Nat) (hd : lo ≤ d ∧ d < lo + n) {fs : List Value} (hE : E d = .inr (ci, fs)) (hc : cl[ci]? = some (C, T, N)) (k : Nat) (hk : k < N) (hlink : (Cond.fieldLink own index (T k).1 (T k).2.1 (T k).2.2.1).before args s = true) (hfin : (T k).2.2.2 = true) (hin2 : meth.name = "<init>") (hdecl : (T k).1 = own) {ty : FieldType} {v : Value} (hpd : parseFieldDescriptor (T k).2.2.1 = some ty) (hn : narrow ty v = v) (hfit : fits ty v = true) (hl : k < fs.length)
    (hdg : decode cc pc = .ok (.putfield index, 3)) (kk : ∀ (H1 : Heap) (locs1 : List Loc), xX cl G (eu E d (.inr (ci, fs.set k v))) lo n z H1 → va_S A H0 H1 locs1 → W p l e R s m args below meth c H1 locs1 cells slots Q (F0 m (pc + 3) ls rest)) : W p l e R s m args below meth c H locs cells slots Q (F0 m pc ls (v :: .ref (z + d) :: rest)) :=
  va_putF hx hb hts hin ty0 hty hnm hown hK hX (xl_D hAr) hS (d - lo) (by rw [xl_at hd, hE]) hc k hk hlink (fun _ h9 => h9) hfin hin2 hdecl hpd hn hfit hl hdg (fun H1 locs1 hP _ hS1 => kk H1 locs1 (by rw [xl_set hd] at hP; exact hP) hS1)
theorem x_get (hx : p.tables.exec = Jvm.exec) (hb : c.code = cc) {own C : String} {T : u_T} {N ci index : Nat} {Ts : List Cond} (hts : ∀ w ∈ Ts, w.before args s = true) (hin : ∀ w ∈ u_ws C T N, w ∈ Ts) (hown : s.vm.findClass own = some m.cls) (hK : va_K G.1 cl tys s) (hX : xX cl G E lo n z H) (d : Nat) (hd : lo ≤ d ∧ d < lo + n) {fs : List Value} (hE : E d = .inr (ci, fs)) (hc : cl[ci]? = some (C, T, N)) (k : Nat) (hk : k < N) (hlink : (Cond.fieldLink own index (T k).1 (T k).2.1 (T k).2.2.1).before args s = true) {v : Value} (hv : fs[k]? = some v) (hdg : decode cc pc = .ok (.getfield index, 3))
    (kk : W p l e R s m args below meth c H locs cells slots Q (F0 m (pc + 3) ls (v :: rest))) : W p l e R s m args below meth c H locs cells slots Q (F0 m pc ls (.ref (z + d) :: rest)) :=
  va_get hx hb hts hin hown hK hX (d - lo) (by rw [xl_at hd, hE]) hc k hk hlink (fun _ h9 => h9) hv hdg kk
theorem x_ast (hx : p.tables.exec = Jvm.exec) (hb : c.code = cc) (hK : va_K G.1 cl tys s) (hX : xX cl G E lo n z H) (hAr : ∀ d, lo ≤ d → A (z + d)) (hS : va_S A H0 H locs) (d v t ci : Nat) (hd : lo ≤ d ∧ d < lo + n) (hv : lo ≤ v ∧ v < lo + n) {cA : ClassId} {r : vw_C} {N : Nat} {vs : List Value} {f : Nat → Option Nat} (hE : E d = .inl (cA, N, .inr (.inr (.inr (.inr f))))) (ht : tys[t]? = some (cA, .object r.1)) (hEv : E v = .inr (ci, vs)) (hc : cl[ci]? = some r) {i : Int} {j : Nat} (hi : i = (j : Int)) (hjN : j < N) (hN : N < 2147483648) (hdg : decode cc pc = .ok (.aastore, 1))
    (kk : ∀ (H1 : Heap) (locs1 : List Loc), xX cl G (eu E d (.inl (cA, N, .inr (.inr (.inr (.inr (va_up f j (some (z + v))))))))) lo n z H1 → va_S A H0 H1 locs1 → W p l e R s m args below meth c H1 locs1 cells slots Q (F0 m (pc + 1) ls rest)) : W p l e R s m args below meth c H locs cells slots Q (F0 m pc ls (.ref (z + v) :: .int (J i) :: .ref (z + d) :: rest)) := by
  refine va_astq hx hb hK hX (xl_D hAr) hS (d - lo) t (v - lo) ci (by rw [xl_at hd, hE]) ht (by rw [xl_at hv, hEv]) hc (i := J i) (J_in hi hjN hN) hdg (fun H1 locs1 hP _ hS1 => kk H1 locs1 ?_ hS1)
  rw [J_ix hi hjN hN, xl_set hd] at hP
  exact hP
theorem x_ch {L : Nat → yL} {d k mc ms : Nat} {post : yM → Prop} (hr : va_Run p l e R s m args below meth c H locs cells slots mc ms (F0 m pc ls st0) rest (va_Qv post (fun τ t => yW cl G L d k z τ t.heap) (fun q => z + d ≤ q) a) (fun q => z + d ≤ q)) (hS : va_S A H0 H locs) (hAr : ∀ q, d ≤ q → A (z + q))
    (kk : ∀ (τ : yM) (H1 : Heap) (locs1 : List Loc), post τ → (∀ q, q < H.size → ¬ z + d ≤ q → H1[q]? = H[q]?) → yW cl G L d k z τ H1 → va_S A H0 H1 locs1 → W p l e R s m args below meth c H1 locs1 (cells + mc) (slots + ms) Q (F0 m (pc + 3) ls rest)) : W p l e R s m args below meth c H locs cells slots Q (F0 m pc ls st0) := by
  have hAA : ∀ q, z + d ≤ q → A q := fun q h => by
    have := hAr (q - z) (by omega)
    rw [show z + (q - z) = q by omega] at this
    exact this
  refine va_callv hr hS (fun q _ h => hAA q h) hAA (fun τ t H1 locs1 ht _ hp hB _ hk hS1 => ?_)
  have hB : yW cl G L d k z τ t.heap := hB
  rw [ht] at hB
  exact kk τ H1 locs1 hp hk hB hS1
theorem x_ret {L : Nat → yL} {d k : Nat} {post : yM → Prop} {σ : yM} (hx : p.tables.exec = Jvm.exec) (hb : c.code = cc) (hr : meth.sig.returnType = none) (hlocks : meth.locks = false) (hS : va_S (fun q => z + d ≤ q) s.heap H locs) (hW : yW cl G L d k z σ H) (hq : post σ) (hdg : decode cc pc = .ok (.return_, 1)) : W p l e R s m args below meth c H locs cells slots (MQ below (va_Qv post (fun τ t => yW cl G L d k z τ t.heap) (fun q => z + d ≤ q)) args s cells slots (fun q => z + d ≤ q)) (F0 m pc ls []) :=
  W.vret hx hb hr (fun t ht _ => ⟨⟨σ, rfl, hq, by (show yW cl G L d k z σ t.heap); rw [ht]; exact hW⟩, hS.F ht⟩) hS.2.2 hdg hlocks
end YX
/-- the contract of a maker of the cells d .. d + k - 1: its object is there, blank, and is the newest cell -/
abbrev yPn (G : yG) (z d ci : Nat) (fs : List Value) (B : State → Prop) (av : List Value) : Array Value → State → Prop := va_Pc av (fun U => va_at G.1 ycl (z + d, .inr (ci, fs)) U.heap ∧ U.heap.size = z + (d + 1) ∧ B U ∧ yK2 G U)
abbrev yQn (G : yG) (L : Nat → yL) (d k z : Nat) (post : yM → Prop) : Array Value → State → Outcome → State → Prop := va_Qv post (fun τ t => yW ycl G L d k z τ t.heap) (fun q => z + d ≤ q)
theorem yPn_s {G : yG} {z d ci : Nat} {fs : List Value} {B : State → Prop} {av : List Value} {s : State} {H : Heap} (hB : ∀ (U : State) (g : JFrame) (mk : MethodId) (a : Array Value), B U → B (U.calling g mk a)) (hB2 : ∀ U : State, U.heap = H → s.WarmedH U.vm → B U) (hX : va_at G.1 ycl (z + d, .inr (ci, fs)) H) (hZ : H.size = z + (d + 1)) (hK : yK2 G s) : PreS s H (yPn G z d ci fs B av) av :=
  ⟨fun a U g mk q => ⟨q.1, q.2.1, q.2.2.1, hB U g mk a q.2.2.2.1, yK2_bl G U g mk a q.2.2.2.2⟩, fun U hU hw => ⟨rfl, by rw [hU]; exact hX, by rw [hU]; exact hZ, hB2 U hU hw, yK2_mv G s U hw hK⟩⟩
