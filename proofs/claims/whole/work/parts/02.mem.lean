/-! A memory: cells at the places z + c, each an object (its fields ints, or references to fixed places) or an array (of ints or booleans, or of references to fixed places). -/
abbrev yL : Type := (Nat × List (Option Nat)) ⊕ (Nat × Nat) ⊕ (Nat × Nat × (Nat → Nat))
abbrev yM : Type := Nat → Nat → Int
abbrev yG : Type := va_G × (Nat → ClassId)
def yF (z : Nat) (f : Nat → Int) (i : Nat) (k : Option Nat) : Value := match k with
  | none => .int (J (f i))
  | some r => .ref (z + r)
def yfs (z : Nat) (f : Nat → Int) (ks : List (Option Nat)) : List Value := ks.mapIdx (fun i k => yF z f i k)
def yC (L : Nat → yL) (a : Nat → ClassId) (z : Nat) (σ : yM) (c : Nat) : va_E := match L c with
  | .inl q => .inr (q.1, yfs z (σ c) q.2)
  | .inr (.inl q) => .inl (a q.1, q.2, .inl (fun j => J (σ c j)))
  | .inr (.inr q) => .inl (a q.1, q.2.1, .inr (.inr (.inr (.inr (fun j => some (z + q.2.2 j))))))
def yl (L : Nat → yL) (a : Nat → ClassId) (lo n z : Nat) (σ : yM) : va_W := (List.range n).map (fun i => (z + (lo + i), yC L a z σ (lo + i)))
def y2 (σ : yM) (c i : Nat) (v : Int) : yM := fun d j => if d = c then (if j = i then v else σ d j) else σ d j
theorem y2_cc (σ : yM) (c i : Nat) (v : Int) : y2 σ c i v c = fun j => if j = i then v else σ c j := by
  funext j; simp [y2]
theorem y2_ne {σ : yM} {c i d : Nat} {v : Int} (h : d ≠ c) : y2 σ c i v d = σ d := by
  funext j; simp [y2, h]
theorem yC_congr {L : Nat → yL} {a : Nat → ClassId} {z c : Nat} {σ τ : yM} (h : τ c = σ c) : yC L a z τ c = yC L a z σ c := by
  unfold yC
  rw [h]
theorem yl_at {L : Nat → yL} {a : Nat → ClassId} {lo n z c : Nat} {σ : yM} (hc : lo ≤ c ∧ c < lo + n) : (yl L a lo n z σ)[c - lo]? = some (z + c, yC L a z σ c) := by
  have h1 : c - lo < n := by omega
  have h2 : lo + (c - lo) = c := by omega
  unfold yl
  rw [List.getElem?_map, List.getElem?_range h1, Option.map_some, h2]
theorem yl_back {L : Nat → yL} {a : Nat → ClassId} {lo n z k : Nat} {σ : yM} {q : Nat × va_E} (h : (yl L a lo n z σ)[k]? = some q) : k < n ∧ q = (z + (lo + k), yC L a z σ (lo + k)) := by
  unfold yl at h
  rw [List.getElem?_map] at h
  by_cases hk : k < n
  · rw [List.getElem?_range hk, Option.map_some] at h
    exact ⟨hk, (Option.some.inj h).symm⟩
  · rw [List.getElem?_eq_none (by rw [List.length_range]; omega)] at h
    cases h
theorem yl_obj {L : Nat → yL} {a : Nat → ClassId} {lo n z c ci : Nat} {σ : yM} {ks : List (Option Nat)} (hc : lo ≤ c ∧ c < lo + n) (hL : L c = .inl (ci, ks)) : (yl L a lo n z σ)[c - lo]? = some (z + c, .inr (ci, yfs z (σ c) ks)) := by
  rw [yl_at hc]
  unfold yC
  rw [hL]
theorem yl_arr {L : Nat → yL} {a : Nat → ClassId} {lo n z c t N : Nat} {σ : yM} (hc : lo ≤ c ∧ c < lo + n) (hL : L c = .inr (.inl (t, N))) : (yl L a lo n z σ)[c - lo]? = some (z + c, .inl (a t, N, .inl (fun j => J (σ c j)))) := by
  rw [yl_at hc]
  unfold yC
  rw [hL]
theorem yl_ref {L : Nat → yL} {a : Nat → ClassId} {lo n z c t N : Nat} {f : Nat → Nat} {σ : yM} (hc : lo ≤ c ∧ c < lo + n) (hL : L c = .inr (.inr (t, N, f))) : (yl L a lo n z σ)[c - lo]? = some (z + c, .inl (a t, N, .inr (.inr (.inr (.inr (fun j => some (z + f j))))))) := by
  rw [yl_at hc]
  unfold yC
  rw [hL]
theorem yfs_get {z k : Nat} {f : Nat → Int} {ks : List (Option Nat)} {q : Option Nat} (h : ks[k]? = some q) : (yfs z f ks)[k]? = some (yF z f k q) := by
  unfold yfs
  rw [List.getElem?_mapIdx, h, Option.map_some]
theorem yfs_len {z : Nat} {f : Nat → Int} {ks : List (Option Nat)} : (yfs z f ks).length = ks.length := by
  unfold yfs
  rw [List.length_mapIdx]
theorem yfs_set {z k : Nat} {f : Nat → Int} {ks : List (Option Nat)} {v : Int} (h : ks[k]? = some none) : (yfs z f ks).set k (.int (J v)) = yfs z (fun j => if j = k then v else f j) ks := by
  apply List.ext_getElem?
  intro i
  rw [List.getElem?_set, yfs_len]
  by_cases hi : k = i
  · subst hi
    have hl : k < ks.length := (List.getElem?_eq_some_iff.mp h).1
    rw [if_pos rfl, if_pos hl, yfs_get h]
    simp [yF]
  · rw [if_neg hi]
    unfold yfs
    rw [List.getElem?_mapIdx, List.getElem?_mapIdx]
    cases ks[i]? with
    | none => rfl
    | some q =>
      cases q with
      | none => simp [yF, Ne.symm hi]
      | some r => simp [yF]
theorem yl_set {L : Nat → yL} {a : Nat → ClassId} {lo n z c : Nat} {σ τ : yM} {x : va_E} (hc : lo ≤ c ∧ c < lo + n) (hx : x = yC L a z τ c) (ho : ∀ d, d ≠ c → τ d = σ d) : (yl L a lo n z σ).set (c - lo) (z + c, x) = yl L a lo n z τ := by
  apply List.ext_getElem?
  intro i
  have hlen : (yl L a lo n z σ).length = n := by unfold yl; rw [List.length_map, List.length_range]
  rw [List.getElem?_set, hlen]
  by_cases hi : c - lo = i
  · subst hi
    rw [if_pos rfl, if_pos (by omega), yl_at hc, hx]
  · rw [if_neg hi]
    by_cases hn : i < n
    · have h1 : lo ≤ lo + i ∧ lo + i < lo + n := by omega
      have h2 := yl_at (L := L) (a := a) (z := z) (σ := σ) h1
      have h3 := yl_at (L := L) (a := a) (z := z) (σ := τ) h1
      rw [show lo + i - lo = i by omega] at h2 h3
      rw [h2, h3, yC_congr (ho (lo + i) (by omega))]
    · rw [List.getElem?_eq_none (by omega), List.getElem?_eq_none]
      unfold yl
      rw [List.length_map, List.length_range]
      omega
theorem yl_D {L : Nat → yL} {a : Nat → ClassId} {lo n z : Nat} {σ : yM} {A : Nat → Prop} (h : ∀ d, lo ≤ d ∧ d < lo + n → A (z + d)) : va_D A (yl L a lo n z σ) := by
  refine ⟨fun i j x y hi hj hxy => ?_, fun k q hk => ?_⟩
  · have h1 := (yl_back hi).2
    have h2 := (yl_back hj).2
    rw [h1, h2] at hxy
    dsimp only at hxy
    omega
  · obtain ⟨h1, h2⟩ := yl_back hk
    rw [h2]
    exact h (lo + k) (by omega)
abbrev yW (cl : List vw_C) (G : yG) (L : Nat → yL) (lo n z : Nat) (σ : yM) (H : Heap) : Prop := va_P G.1 cl (yl L G.2 lo n z σ) H
theorem yW_at {cl : List vw_C} {G : yG} {L : Nat → yL} {lo n z c : Nat} {σ : yM} {H : Heap} (h : yW cl G L lo n z σ H) (hc : lo ≤ c ∧ c < lo + n) : va_at G.1 cl (z + c, yC L G.2 z σ c) H := h _ _ (yl_at hc)
theorem yW_of {cl : List vw_C} {G : yG} {L : Nat → yL} {lo n z : Nat} {σ : yM} {H : Heap} (h : ∀ c, lo ≤ c ∧ c < lo + n → va_at G.1 cl (z + c, yC L G.2 z σ c) H) : yW cl G L lo n z σ H := by
  intro k q hk
  obtain ⟨h1, h2⟩ := yl_back hk
  rw [h2]
  exact h (lo + k) (by omega)
/-- a smaller part, and other numbers that agree there -/
theorem yW_sub {cl : List vw_C} {G : yG} {L : Nat → yL} {lo n lo' n' z : Nat} {σ τ : yM} {H : Heap} (h : yW cl G L lo n z σ H) (h1 : lo ≤ lo') (h2 : lo' + n' ≤ lo + n) (ht : ∀ c, lo' ≤ c ∧ c < lo' + n' → τ c = σ c) : yW cl G L lo' n' z τ H :=
  yW_of fun c hc => by rw [yC_congr (ht c hc)]; exact yW_at h ⟨by omega, by omega⟩
/-- behind a change within a part -/
theorem yW_join {cl : List vw_C} {G : yG} {L : Nat → yL} {lo n lo' n' z : Nat} {σ τ : yM} {H H1 : Heap} (h : yW cl G L lo n z σ H) (h' : yW cl G L lo' n' z τ H1) (ho : ∀ c, ¬ (lo' ≤ c ∧ c < lo' + n') → τ c = σ c) (hk : ∀ q, q < H.size → ¬ (z + lo' ≤ q ∧ q < z + lo' + n') → H1[q]? = H[q]?) : yW cl G L lo n z τ H1 := by
  refine yW_of fun c hc => ?_
  by_cases hi : lo' ≤ c ∧ c < lo' + n'
  · exact yW_at h' hi
  · rw [yC_congr (ho c hi)]
    have h0 := yW_at h hc
    exact h0.kept (hk (z + c) h0.lt (by omega))
/-- behind a call that changes nothing here -/
theorem yW_kept {cl : List vw_C} {G : yG} {L : Nat → yL} {lo n z : Nat} {σ : yM} {H H1 : Heap} (h : yW cl G L lo n z σ H) (hk : ∀ c, lo ≤ c ∧ c < lo + n → z + c < H.size → H1[z + c]? = H[z + c]?) : yW cl G L lo n z σ H1 :=
  yW_of fun c hc => by
    have h0 := yW_at h hc
    exact h0.kept (hk c hc h0.lt)
section YM
variable {p : Program} {l : Launch} {e : Env} {R : Room} {s : State} {m : MethodId} {args : Array Value} {below : List Frame} {meth : Method} {c : Code} {H : Heap} {locs : List Loc} {cells slots : Nat} {Q : State → Prop} {cc : ByteArray} {pc : Nat} {ls : Array Slot} {rest : List Value}
variable {cl : List vw_C} {G : yG} {L : Nat → yL} {lo nn z : Nat} {σ : yM} {tys : List (ClassId × FieldType)} {A : Nat → Prop} {H0 : Heap} {Ts : List Cond} {own C : String} {T : u_T} {N index ci : Nat} {ks : List (Option Nat)}
theorem y_geti (hx : p.tables.exec = Jvm.exec) (hb : c.code = cc) (hA : ∀ w ∈ Ts, w.before args s = true) (hin : ∀ w ∈ u_ws C T N, w ∈ Ts) (hown : s.vm.findClass own = some m.cls) (hK : va_K G.1 cl tys s) (hW : yW cl G L lo nn z σ H) (d : Nat) (hd : lo ≤ d ∧ d < lo + nn) (hL : L d = .inl (ci, ks)) (hc : cl[ci]? = some (C, T, N)) (k : Nat) (hk : k < N) (hl : (Cond.fieldLink own index (T k).1 (T k).2.1 (T k).2.2.1).before args s = true) (hks : ks[k]? = some none) (hdg : decode cc pc = .ok (.getfield index, 3)) (kk : W p l e R s m args below meth c H locs cells slots Q (F0 m (pc + 3) ls (.int (J (σ d k)) :: rest))) : W p l e R s m args below meth c H locs cells slots Q (F0 m pc ls (.ref (z + d) :: rest)) :=
  va_get hx hb hA hin hown hK hW (d - lo) (yl_obj hd hL) hc k hk hl (fun _ h => h) (yfs_get hks) hdg kk
theorem y_getr (hx : p.tables.exec = Jvm.exec) (hb : c.code = cc) (hA : ∀ w ∈ Ts, w.before args s = true) (hin : ∀ w ∈ u_ws C T N, w ∈ Ts) (hown : s.vm.findClass own = some m.cls) (hK : va_K G.1 cl tys s) (hW : yW cl G L lo nn z σ H) (d : Nat) (hd : lo ≤ d ∧ d < lo + nn) (hL : L d = .inl (ci, ks)) (hc : cl[ci]? = some (C, T, N)) (k : Nat) (hk : k < N) (hl : (Cond.fieldLink own index (T k).1 (T k).2.1 (T k).2.2.1).before args s = true) {r : Nat} (hks : ks[k]? = some (some r)) (hdg : decode cc pc = .ok (.getfield index, 3)) (kk : W p l e R s m args below meth c H locs cells slots Q (F0 m (pc + 3) ls (.ref (z + r) :: rest))) : W p l e R s m args below meth c H locs cells slots Q (F0 m pc ls (.ref (z + d) :: rest)) :=
  va_get hx hb hA hin hown hK hW (d - lo) (yl_obj hd hL) hc k hk hl (fun _ h => h) (yfs_get hks) hdg kk
theorem y_puti (hx : p.tables.exec = Jvm.exec) (hb : c.code = cc) (hA : ∀ w ∈ Ts, w.before args s = true) (hin : ∀ w ∈ u_ws C T N, w ∈ Ts) (hown : s.vm.findClass own = some m.cls) (hK : va_K G.1 cl tys s) (hW : yW cl G L lo nn z σ H) (d : Nat) (hd : lo ≤ d ∧ d < lo + nn) (hL : L d = .inl (ci, ks)) (hc : cl[ci]? = some (C, T, N)) (k : Nat) (hk : k < N) (ty0 : Nat → FieldType) (hty : ∀ k, k < N → parseFieldDescriptor (T k).2.2.1 = some (ty0 k)) (hnm : ∀ a, a < N → ∀ b, b < N → a ≠ b → (T a).2.1 ≠ (T b).2.1) (hS : va_S A H0 H locs) (hAr : ∀ d, lo ≤ d ∧ d < lo + nn → A (z + d)) (hl : (Cond.fieldLink own index (T k).1 (T k).2.1 (T k).2.2.1).before args s = true) (hfin : (T k).2.2.2 = false) (hpd : parseFieldDescriptor (T k).2.2.1 = some .int) (hks : ks[k]? = some none) {v : Int} (hdg : decode cc pc = .ok (.putfield index, 3)) (kk : ∀ (H1 : Heap) (locs1 : List Loc), yW cl G L lo nn z (y2 σ d k v) H1 → va_S A H0 H1 locs1 → W p l e R s m args below meth c H1 locs1 cells slots Q (F0 m (pc + 3) ls rest)) : W p l e R s m args below meth c H locs cells slots Q (F0 m pc ls (.int (J v) :: .ref (z + d) :: rest)) := by
  refine va_put hx hb hA hin ty0 hty hnm hown hK hW (yl_D hAr) hS (d - lo) (yl_obj hd hL) hc k hk hl (fun _ h => h) hfin hpd rfl rfl (by rw [yfs_len]; exact (List.getElem?_eq_some_iff.mp hks).1) hdg (fun H1 locs1 hP _ hS1 => kk H1 locs1 ?_ hS1)
  rw [yfs_set hks, yl_set (τ := y2 σ d k v) hd (by unfold yC; rw [hL, y2_cc]) (fun e he => y2_ne he)] at hP
  exact hP
theorem y_getiN (hx : p.tables.exec = Jvm.exec) (hb : c.code = cc) (hA : ∀ w ∈ Ts, w.before args s = true) (hin : ∀ w ∈ u_ws C T N, w ∈ Ts) (hown : s.vm.findClass own = some m.cls) (hK : va_K G.1 cl tys s) (hW : yW cl G L lo nn z σ H) (d : Nat) (hd : lo ≤ d ∧ d < lo + nn) (hL : L d = .inl (ci, ks)) (hc : cl[ci]? = some (C, T, N)) (k : Nat) (hk : k < N) {host : String} (hl : (Cond.fieldLinkNest own index (T k).1 (T k).2.1 (T k).2.2.1 host).before args s = true) (hks : ks[k]? = some none) (hdg : decode cc pc = .ok (.getfield index, 3)) (kk : W p l e R s m args below meth c H locs cells slots Q (F0 m (pc + 3) ls (.int (J (σ d k)) :: rest))) : W p l e R s m args below meth c H locs cells slots Q (F0 m pc ls (.ref (z + d) :: rest)) :=
  va_getN hx hb hA hin hown hK hW (d - lo) (yl_obj hd hL) hc k hk hl (fun _ h => h) (yfs_get hks) hdg kk
theorem y_getrN (hx : p.tables.exec = Jvm.exec) (hb : c.code = cc) (hA : ∀ w ∈ Ts, w.before args s = true) (hin : ∀ w ∈ u_ws C T N, w ∈ Ts) (hown : s.vm.findClass own = some m.cls) (hK : va_K G.1 cl tys s) (hW : yW cl G L lo nn z σ H) (d : Nat) (hd : lo ≤ d ∧ d < lo + nn) (hL : L d = .inl (ci, ks)) (hc : cl[ci]? = some (C, T, N)) (k : Nat) (hk : k < N) {host : String} (hl : (Cond.fieldLinkNest own index (T k).1 (T k).2.1 (T k).2.2.1 host).before args s = true) {r : Nat} (hks : ks[k]? = some (some r)) (hdg : decode cc pc = .ok (.getfield index, 3)) (kk : W p l e R s m args below meth c H locs cells slots Q (F0 m (pc + 3) ls (.ref (z + r) :: rest))) : W p l e R s m args below meth c H locs cells slots Q (F0 m pc ls (.ref (z + d) :: rest)) :=
  va_getN hx hb hA hin hown hK hW (d - lo) (yl_obj hd hL) hc k hk hl (fun _ h => h) (yfs_get hks) hdg kk
theorem y_putiN (hx : p.tables.exec = Jvm.exec) (hb : c.code = cc) (hA : ∀ w ∈ Ts, w.before args s = true) (hin : ∀ w ∈ u_ws C T N, w ∈ Ts) (hown : s.vm.findClass own = some m.cls) (hK : va_K G.1 cl tys s) (hW : yW cl G L lo nn z σ H) (d : Nat) (hd : lo ≤ d ∧ d < lo + nn) (hL : L d = .inl (ci, ks)) (hc : cl[ci]? = some (C, T, N)) (k : Nat) (hk : k < N) (ty0 : Nat → FieldType) (hty : ∀ k, k < N → parseFieldDescriptor (T k).2.2.1 = some (ty0 k)) (hnm : ∀ a, a < N → ∀ b, b < N → a ≠ b → (T a).2.1 ≠ (T b).2.1) (hS : va_S A H0 H locs) (hAr : ∀ d, lo ≤ d ∧ d < lo + nn → A (z + d)) {host : String} (hl : (Cond.fieldLinkNest own index (T k).1 (T k).2.1 (T k).2.2.1 host).before args s = true) (hfin : (T k).2.2.2 = false) (hpd : parseFieldDescriptor (T k).2.2.1 = some .int) (hks : ks[k]? = some none) {v : Int} (hdg : decode cc pc = .ok (.putfield index, 3)) (kk : ∀ (H1 : Heap) (locs1 : List Loc), yW cl G L lo nn z (y2 σ d k v) H1 → va_S A H0 H1 locs1 → W p l e R s m args below meth c H1 locs1 cells slots Q (F0 m (pc + 3) ls rest)) : W p l e R s m args below meth c H locs cells slots Q (F0 m pc ls (.int (J v) :: .ref (z + d) :: rest)) := by
  refine va_putN hx hb hA hin ty0 hty hnm hown hK hW (yl_D hAr) hS (d - lo) (yl_obj hd hL) hc k hk hl (fun _ h => h) hfin hpd rfl rfl (by rw [yfs_len]; exact (List.getElem?_eq_some_iff.mp hks).1) hdg (fun H1 locs1 hP _ hS1 => kk H1 locs1 ?_ hS1)
  rw [yfs_set hks, yl_set (τ := y2 σ d k v) hd (by unfold yC; rw [hL, y2_cc]) (fun e he => y2_ne he)] at hP
  exact hP
theorem y_iald (hx : p.tables.exec = Jvm.exec) (hb : c.code = cc) (hK : va_K G.1 cl tys s) (hW : yW cl G L lo nn z σ H) (d : Nat) (hd : lo ≤ d ∧ d < lo + nn) {t M : Nat} (hL : L d = .inr (.inl (t, M))) (ht : tys[t]? = some (G.2 t, .int)) (hM : M < 2147483648) {a : Int} (n : Nat) (hn : a = (n : Int)) (hnM : n < M) (hdg : decode cc pc = .ok (.iaload, 1)) (kk : W p l e R s m args below meth c H locs cells slots Q (F0 m (pc + 1) ls (.int (J (σ d n)) :: rest))) : W p l e R s m args below meth c H locs cells slots Q (F0 m pc ls (.int (J a) :: .ref (z + d) :: rest)) := by
  refine va_iald hx hb hK hW (d - lo) t (yl_arr hd hL) ht (J_in hn hnM hM) hdg ?_
  rw [J_ix hn hnM hM]
  exact kk
theorem y_zald (hx : p.tables.exec = Jvm.exec) (hb : c.code = cc) (hK : va_K G.1 cl tys s) (hW : yW cl G L lo nn z σ H) (d : Nat) (hd : lo ≤ d ∧ d < lo + nn) {t M : Nat} (hL : L d = .inr (.inl (t, M))) (ht : tys[t]? = some (G.2 t, .boolean)) (hM : M < 2147483648) {a : Int} (n : Nat) (hn : a = (n : Int)) (hnM : n < M) (hdg : decode cc pc = .ok (.baload, 1)) (kk : W p l e R s m args below meth c H locs cells slots Q (F0 m (pc + 1) ls (.int (J (σ d n)) :: rest))) : W p l e R s m args below meth c H locs cells slots Q (F0 m pc ls (.int (J a) :: .ref (z + d) :: rest)) := by
  refine va_zald hx hb hK hW (d - lo) t (yl_arr hd hL) ht (J_in hn hnM hM) hdg ?_
  rw [J_ix hn hnM hM]
  exact kk
theorem y_aald (hx : p.tables.exec = Jvm.exec) (hb : c.code = cc) (hK : va_K G.1 cl tys s) (hW : yW cl G L lo nn z σ H) (d : Nat) (hd : lo ≤ d ∧ d < lo + nn) {t M : Nat} {f : Nat → Nat} (hL : L d = .inr (.inr (t, M, f))) {B : String} (ht : tys[t]? = some (G.2 t, .object B)) (hM : M < 2147483648) {a : Int} (n : Nat) (hn : a = (n : Int)) (hnM : n < M) (hdg : decode cc pc = .ok (.aaload, 1)) (kk : W p l e R s m args below meth c H locs cells slots Q (F0 m (pc + 1) ls (.ref (z + f n) :: rest))) : W p l e R s m args below meth c H locs cells slots Q (F0 m pc ls (.int (J a) :: .ref (z + d) :: rest)) := by
  refine va_aldq hx hb hK hW (d - lo) t (yl_ref hd hL) ht (J_in hn hnM hM) hdg ?_
  rw [J_ix hn hnM hM]
  exact kk
theorem y_iast (hx : p.tables.exec = Jvm.exec) (hb : c.code = cc) (hK : va_K G.1 cl tys s) (hW : yW cl G L lo nn z σ H) (d : Nat) (hd : lo ≤ d ∧ d < lo + nn) {t M : Nat} (hL : L d = .inr (.inl (t, M))) (ht : tys[t]? = some (G.2 t, .int)) (hM : M < 2147483648) (hS : va_S A H0 H locs) (hAr : ∀ d, lo ≤ d ∧ d < lo + nn → A (z + d)) {a v : Int} (n : Nat) (hn : a = (n : Int)) (hnM : n < M) (hdg : decode cc pc = .ok (.iastore, 1)) (kk : ∀ (H1 : Heap) (locs1 : List Loc), yW cl G L lo nn z (y2 σ d n v) H1 → va_S A H0 H1 locs1 → W p l e R s m args below meth c H1 locs1 cells slots Q (F0 m (pc + 1) ls rest)) : W p l e R s m args below meth c H locs cells slots Q (F0 m pc ls (.int (J v) :: .int (J a) :: .ref (z + d) :: rest)) := by
  refine va_iast hx hb hK hW (yl_D hAr) hS (d - lo) t (yl_arr hd hL) ht (J_in hn hnM hM) hdg (fun H1 locs1 hP _ hS1 => kk H1 locs1 ?_ hS1)
  rw [J_ix hn hnM hM, yl_set (τ := y2 σ d n v) hd ?_ (fun e he => y2_ne he)] at hP
  · exact hP
  · unfold yC
    rw [hL, y2_cc]
    have : upd (fun j => J (σ d j)) n (J v) = fun j => J (if j = n then v else σ d j) := by
      funext j
      unfold upd
      split <;> rfl
    rw [this]
theorem y_zast (hx : p.tables.exec = Jvm.exec) (hb : c.code = cc) (hK : va_K G.1 cl tys s) (hW : yW cl G L lo nn z σ H) (d : Nat) (hd : lo ≤ d ∧ d < lo + nn) {t M : Nat} (hL : L d = .inr (.inl (t, M))) (ht : tys[t]? = some (G.2 t, .boolean)) (hM : M < 2147483648) (hS : va_S A H0 H locs) (hAr : ∀ d, lo ≤ d ∧ d < lo + nn → A (z + d)) {a v : Int} (hv : v = 0 ∨ v = 1) (n : Nat) (hn : a = (n : Int)) (hnM : n < M) (hdg : decode cc pc = .ok (.bastore, 1)) (kk : ∀ (H1 : Heap) (locs1 : List Loc), yW cl G L lo nn z (y2 σ d n v) H1 → va_S A H0 H1 locs1 → W p l e R s m args below meth c H1 locs1 cells slots Q (F0 m (pc + 1) ls rest)) : W p l e R s m args below meth c H locs cells slots Q (F0 m pc ls (.int (J v) :: .int (J a) :: .ref (z + d) :: rest)) := by
  refine va_zast hx hb hK hW (yl_D hAr) hS (d - lo) t (yl_arr hd hL) ht (J_in hn hnM hM) hdg (fun H1 locs1 hP _ hS1 => kk H1 locs1 ?_ hS1)
  have hv2 : vp_nar .boolean (J v) = J v := by rcases hv with rfl | rfl <;> decide +kernel
  rw [J_ix hn hnM hM, hv2, yl_set (τ := y2 σ d n v) hd ?_ (fun e he => y2_ne he)] at hP
  · exact hP
  · unfold yC
    rw [hL, y2_cc]
    have : upd (fun j => J (σ d j)) n (J v) = fun j => J (if j = n then v else σ d j) := by
      funext j
      unfold upd
      split <;> rfl
    rw [this]
end YM
