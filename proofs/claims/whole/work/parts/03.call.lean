/-! Calls over such a memory. -/
def yA (z lo n : Nat) : Nat → Prop := fun q => z + lo ≤ q ∧ q < z + lo + n
def yN : Nat → Prop := fun _ => False
abbrev yP (cl : List vw_C) (G : yG) (L : Nat → yL) (lo n z : Nat) (σ : yM) (K : State → Prop) (av : List Value) : Array Value → State → Prop := va_Pc av (fun U => yW cl G L lo n z σ U.heap ∧ K U)
abbrev yP0 (K : State → Prop) (av : List Value) : Array Value → State → Prop := va_Pc av (fun U => K U)
/-- an int is answered, and nothing changes -/
abbrev yQi (v : Int) : Array Value → State → Outcome → State → Prop := va_Qi (fun r (_ : Unit) => r = J v) (fun _ _ => True) yN
/-- nothing is answered, and the memory is another -/
abbrev yQv (cl : List vw_C) (G : yG) (L : Nat → yL) (lo n z : Nat) (τ : yM) : Array Value → State → Outcome → State → Prop := va_Qv (fun (_ : Unit) => True) (fun _ t => yW cl G L lo n z τ t.heap) (yA z lo n)
/-- an int is answered, and the memory is another -/
abbrev yQw (cl : List vw_C) (G : yG) (L : Nat → yL) (lo n z : Nat) (v : Int) (τ : yM) : Array Value → State → Outcome → State → Prop := va_Qi (fun r (_ : Unit) => r = J v) (fun _ t => yW cl G L lo n z τ t.heap) (yA z lo n)
def yBl (K : State → Prop) : Prop := ∀ (U : State) (g : JFrame) (mk : MethodId) (a : Array Value), K U → K (U.calling g mk a)
def yMv (K : State → Prop) : Prop := ∀ (s U : State), s.WarmedH U.vm → K s → K U
theorem yP_bl {cl : List vw_C} {G : yG} {L : Nat → yL} {lo n z : Nat} {σ : yM} {K : State → Prop} {av : List Value} (h : yBl K) : FrameBlind (yP cl G L lo n z σ K av) := fun a U g mk q => ⟨q.1, q.2.1, h U g mk a q.2.2⟩
theorem yP0_bl {K : State → Prop} {av : List Value} (h : yBl K) : FrameBlind (yP0 K av) := fun a U g mk q => ⟨q.1, h U g mk a q.2⟩
theorem yPs {cl : List vw_C} {G : yG} {L : Nat → yL} {lo n z : Nat} {σ : yM} {K : State → Prop} {av : List Value} {s : State} {H : Heap} (hbl : yBl K) (hmv : yMv K) (hK : K s) (hW : yW cl G L lo n z σ H) : PreS s H (yP cl G L lo n z σ K av) av :=
  ⟨yP_bl hbl, fun U hU hw => ⟨rfl, by rw [hU]; exact hW, hmv s U hw hK⟩⟩
theorem yPs0 {K : State → Prop} {av : List Value} {s : State} {H : Heap} (hbl : yBl K) (hmv : yMv K) (hK : K s) : PreS s H (yP0 K av) av :=
  ⟨yP0_bl hbl, fun U _ hw => ⟨rfl, hmv s U hw hK⟩⟩
theorem y_recv {cl : List vw_C} {G : yG} {L : Nat → yL} {lo n z d ci : Nat} {σ : yM} {ks : List (Option Nat)} {q : vw_C} {tys : List (ClassId × FieldType)} {s : State} {H : Heap} (hK : va_K G.1 cl tys s) (hW : yW cl G L lo n z σ H) (hd : lo ≤ d ∧ d < lo + n) (hL : L d = .inl (ci, ks)) (hc : cl[ci]? = some q) : ∃ cell : Cell, H[z + d]? = some cell ∧ cell.vm.isStatics = false ∧ s.vm.findClass q.1 = some cell.cls :=
  va_recv hK hW hc (yl_obj hd hL)
theorem yPv {cl : List vw_C} {G : yG} {L : Nat → yL} {lo n lo' n' z d ci : Nat} {σ : yM} {ks : List (Option Nat)} {q : vw_C} {tys : List (ClassId × FieldType)} {K : State → Prop} {As : List Value} {s : State} {H : Heap} (hbl : yBl K) (hmv : yMv K) (hK : K s) (hKa : va_K G.1 cl tys s) (hW : yW cl G L lo n z σ H) (hd : lo ≤ d ∧ d < lo + n) (hL : L d = .inl (ci, ks)) (hc : cl[ci]? = some q) (h1 : lo ≤ lo') (h2 : lo' + n' ≤ lo + n) : PreV s H q.1 (z + d) (yP cl G L lo' n' z σ K (.ref (z + d) :: As)) As :=
  ⟨yP_bl hbl, y_recv hKa hW hd hL hc, fun U hU hw => ⟨rfl, by rw [hU]; exact yW_sub hW h1 h2 (fun _ _ => rfl), hmv s U hw hK⟩⟩
section YC
variable {p : Program} {l : Launch} {e : Env} {R : Room} {s : State} {m : MethodId} {args : Array Value} {below : List Frame} {meth : Method} {c : Code} {H : Heap} {locs : List Loc} {cells slots : Nat} {Q : State → Prop} {pc : Nat} {ls : Array Slot} {rest st0 : List Value}
variable {cl : List vw_C} {G : yG} {L : Nat → yL} {lo nn lo' n' z : Nat} {σ τ : yM} {A : Nat → Prop} {H0 : Heap} {a : Array Value} {v : Int}
/-- behind a call that answers and changes nothing -/
theorem y_ci (hr : va_Run p l e R s m args below meth c H locs cells slots 0 0 (F0 m pc ls st0) rest (yQi v a) yN) (hS : va_S A H0 H locs) (hW : yW cl G L lo nn z σ H)
    (kk : ∀ (H1 : Heap) (locs1 : List Loc), yW cl G L lo nn z σ H1 → va_S A H0 H1 locs1 → W p l e R s m args below meth c H1 locs1 cells slots Q (F0 m (pc + 3) ls (.int (J v) :: rest))) : W p l e R s m args below meth c H locs cells slots Q (F0 m pc ls st0) :=
  va_calli hr hS (fun _ _ h => h.elim) (fun _ h => h.elim) (fun r u t H1 locs1 _ _ hp _ _ hk hS1 => by
    have hp : r = J v := hp
    subst hp
    exact kk H1 locs1 (yW_kept hW (fun d _ h => hk _ h (fun h => h))) hS1)
/-- the same, where there is no memory yet -/
theorem y_c0 (hr : va_Run p l e R s m args below meth c H locs cells slots 0 0 (F0 m pc ls st0) rest (yQi v a) yN) (hS : va_S A H0 H locs)
    (kk : ∀ (H1 : Heap) (locs1 : List Loc), (∀ q, q < H.size → H1[q]? = H[q]?) → H.size ≤ H1.size → va_S A H0 H1 locs1 → W p l e R s m args below meth c H1 locs1 cells slots Q (F0 m (pc + 3) ls (.int (J v) :: rest))) : W p l e R s m args below meth c H locs cells slots Q (F0 m pc ls st0) :=
  va_calli hr hS (fun _ _ h => h.elim) (fun _ h => h.elim) (fun r u t H1 locs1 _ _ hp _ hz hk hS1 => by
    have hp : r = J v := hp
    subst hp
    exact kk H1 locs1 (fun q h => hk q h (fun h => h)) hz hS1)
theorem y_cv (hr : va_Run p l e R s m args below meth c H locs cells slots 0 0 (F0 m pc ls st0) rest (yQv cl G L lo' n' z τ a) (yA z lo' n')) (hS : va_S A H0 H locs) (hW : yW cl G L lo nn z σ H) (hAr : ∀ d, lo' ≤ d ∧ d < lo' + n' → A (z + d)) (ho : ∀ c, ¬ (lo' ≤ c ∧ c < lo' + n') → τ c = σ c)
    (kk : ∀ (H1 : Heap) (locs1 : List Loc), yW cl G L lo nn z τ H1 → va_S A H0 H1 locs1 → W p l e R s m args below meth c H1 locs1 cells slots Q (F0 m (pc + 3) ls rest)) : W p l e R s m args below meth c H locs cells slots Q (F0 m pc ls st0) := by
  have hAA : ∀ q, yA z lo' n' q → A q := fun q h => by
    have h1 : z + lo' ≤ q := h.1
    have h2 : q < z + lo' + n' := h.2
    have := hAr (q - z) ⟨by omega, by omega⟩
    rw [show z + (q - z) = q by omega] at this
    exact this
  refine va_callv hr hS (fun q _ h => hAA q h) hAA (fun u t H1 locs1 ht _ _ hB _ hk hS1 => ?_)
  have hB : yW cl G L lo' n' z τ t.heap := hB
  rw [ht] at hB
  exact kk H1 locs1 (yW_join hW hB ho (fun q h1 h2 => hk q h1 h2)) hS1
theorem y_cw (hr : va_Run p l e R s m args below meth c H locs cells slots 0 0 (F0 m pc ls st0) rest (yQw cl G L lo' n' z v τ a) (yA z lo' n')) (hS : va_S A H0 H locs) (hW : yW cl G L lo nn z σ H) (hAr : ∀ d, lo' ≤ d ∧ d < lo' + n' → A (z + d)) (ho : ∀ c, ¬ (lo' ≤ c ∧ c < lo' + n') → τ c = σ c)
    (kk : ∀ (H1 : Heap) (locs1 : List Loc), yW cl G L lo nn z τ H1 → va_S A H0 H1 locs1 → W p l e R s m args below meth c H1 locs1 cells slots Q (F0 m (pc + 3) ls (.int (J v) :: rest))) : W p l e R s m args below meth c H locs cells slots Q (F0 m pc ls st0) := by
  have hAA : ∀ q, yA z lo' n' q → A q := fun q h => by
    have h1 : z + lo' ≤ q := h.1
    have h2 : q < z + lo' + n' := h.2
    have := hAr (q - z) ⟨by omega, by omega⟩
    rw [show z + (q - z) = q by omega] at this
    exact this
  refine va_calli hr hS (fun q _ h => hAA q h) hAA (fun r u t H1 locs1 ht _ hp hB _ hk hS1 => ?_)
  have hp : r = J v := hp
  subst hp
  have hB : yW cl G L lo' n' z τ t.heap := hB
  rw [ht] at hB
  exact kk H1 locs1 (yW_join hW hB ho (fun q h1 h2 => hk q h1 h2)) hS1
end YC
section YE
variable {p : Program} {l : Launch} {e : Env} {R : Room} {s : State} {m : MethodId} {args : Array Value} {below : List Frame} {meth : Method} {c : Code} {H : Heap} {locs : List Loc} {cells slots : Nat} {Q : State → Prop} {cc : ByteArray} {pc : Nat} {ls : Array Slot} {rest : List Value}
variable {cl : List vw_C} {G : yG} {L : Nat → yL} {lo nn z : Nat} {σ : yM}
/-- an end that answers an int and changes nothing -/
theorem y_reti (hx : p.tables.exec = Jvm.exec) (hb : c.code = cc) (hr : meth.sig.returnType = some .int) (hlocks : meth.locks = false) (hS : va_S yN s.heap H locs) {v v' : Int} (hv : v' = v) (hdg : decode cc pc = .ok (.ireturn, 1)) : W p l e R s m args below meth c H locs 0 0 (MQ below (yQi v) args s 0 0 yN) (F0 m pc ls [.int (J v')]) := by
  subst hv
  exact W.iret hx hb hr (fun t ht _ => ⟨⟨_, (), rfl, rfl, trivial⟩, hS.F ht⟩) hS.2.2 hdg hlocks
theorem y_retz (hx : p.tables.exec = Jvm.exec) (hb : c.code = cc) (hr : meth.sig.returnType = some .boolean) (hlocks : meth.locks = false) (hS : va_S yN s.heap H locs) {v v' : Int} (h01 : v' = 0 ∨ v' = 1) (hv : v' = v) (hdg : decode cc pc = .ok (.ireturn, 1)) : W p l e R s m args below meth c H locs 0 0 (MQ below (yQi v) args s 0 0 yN) (F0 m pc ls [.int (J v')]) := by
  subst hv
  exact W.zret hx hb hr (by rcases h01 with rfl | rfl <;> decide +kernel) (fun t ht _ => ⟨⟨_, (), rfl, rfl, trivial⟩, hS.F ht⟩) hS.2.2 hdg hlocks
/-- an end that answers nothing, the memory is another -/
theorem y_retv (hx : p.tables.exec = Jvm.exec) (hb : c.code = cc) (hr : meth.sig.returnType = none) (hlocks : meth.locks = false) (hS : va_S (yA z lo nn) s.heap H locs) (hW : yW cl G L lo nn z σ H) (hdg : decode cc pc = .ok (.return_, 1)) : W p l e R s m args below meth c H locs 0 0 (MQ below (yQv cl G L lo nn z σ) args s 0 0 (yA z lo nn)) (F0 m pc ls []) :=
  W.vret hx hb hr (fun t ht _ => ⟨⟨(), rfl, trivial, by (show yW cl G L lo nn z σ t.heap); rw [ht]; exact hW⟩, hS.F ht⟩) hS.2.2 hdg hlocks
theorem y_retw (hx : p.tables.exec = Jvm.exec) (hb : c.code = cc) (hr : meth.sig.returnType = some .int) (hlocks : meth.locks = false) (hS : va_S (yA z lo nn) s.heap H locs) (hW : yW cl G L lo nn z σ H) {v v' : Int} (hv : v' = v) (hdg : decode cc pc = .ok (.ireturn, 1)) : W p l e R s m args below meth c H locs 0 0 (MQ below (yQw cl G L lo nn z v σ) args s 0 0 (yA z lo nn)) (F0 m pc ls [.int (J v')]) := by
  subst hv
  exact W.iret hx hb hr (fun t ht _ => ⟨⟨_, (), rfl, rfl, by (show yW cl G L lo nn z σ t.heap); rw [ht]; exact hW⟩, hS.F ht⟩) hS.2.2 hdg hlocks
theorem y_retb (hx : p.tables.exec = Jvm.exec) (hb : c.code = cc) (hr : meth.sig.returnType = some .boolean) (hlocks : meth.locks = false) (hS : va_S (yA z lo nn) s.heap H locs) (hW : yW cl G L lo nn z σ H) {v v' : Int} (h01 : v' = 0 ∨ v' = 1) (hv : v' = v) (hdg : decode cc pc = .ok (.ireturn, 1)) : W p l e R s m args below meth c H locs 0 0 (MQ below (yQw cl G L lo nn z v σ) args s 0 0 (yA z lo nn)) (F0 m pc ls [.int (J v')]) := by
  subst hv
  exact W.zret hx hb hr (by rcases h01 with rfl | rfl <;> decide +kernel) (fun t ht _ => ⟨⟨_, (), rfl, rfl, by (show yW cl G L lo nn z σ t.heap); rw [ht]; exact hW⟩, hS.F ht⟩) hS.2.2 hdg hlocks
end YE
/-- an int is answered and the memory is another: both by a rule -/
abbrev yQg (cl : List vw_C) (G : yG) (L : Nat → yL) (lo n z : Nat) (post : Int → yM → Prop) : Array Value → State → Outcome → State → Prop := va_Qi (fun r (τ : yM) => ∃ v : Int, r = J v ∧ post v τ) (fun τ t => yW cl G L lo n z τ t.heap) (yA z lo n)
abbrev yQh (cl : List vw_C) (G : yG) (L : Nat → yL) (lo n z : Nat) (post : yM → Prop) : Array Value → State → Outcome → State → Prop := va_Qv (fun (τ : yM) => post τ) (fun τ t => yW cl G L lo n z τ t.heap) (yA z lo n)
section YG
variable {p : Program} {l : Launch} {e : Env} {R : Room} {s : State} {m : MethodId} {args : Array Value} {below : List Frame} {meth : Method} {c : Code} {H : Heap} {locs : List Loc} {cells slots : Nat} {Q : State → Prop} {cc : ByteArray} {pc : Nat} {ls : Array Slot} {rest st0 : List Value}
variable {cl : List vw_C} {G : yG} {L : Nat → yL} {lo nn z : Nat} {σ : yM} {A : Nat → Prop} {H0 : Heap} {a : Array Value} {post : Int → yM → Prop} {postv : yM → Prop}
theorem yA_in (hAr : ∀ d, lo ≤ d ∧ d < lo + nn → A (z + d)) : ∀ q, yA z lo nn q → A q := fun q h => by
  have h1 : z + lo ≤ q := h.1
  have h2 : q < z + lo + nn := h.2
  have := hAr (q - z) ⟨by omega, by omega⟩
  rw [show z + (q - z) = q by omega] at this
  exact this
theorem y_cg (hr : va_Run p l e R s m args below meth c H locs cells slots 0 0 (F0 m pc ls st0) rest (yQg cl G L lo nn z post a) (yA z lo nn)) (hS : va_S A H0 H locs) (hAr : ∀ d, lo ≤ d ∧ d < lo + nn → A (z + d))
    (kk : ∀ (v : Int) (τ : yM) (H1 : Heap) (locs1 : List Loc), post v τ → (∀ q, q < H.size → ¬ yA z lo nn q → H1[q]? = H[q]?) → yW cl G L lo nn z τ H1 → va_S A H0 H1 locs1 → W p l e R s m args below meth c H1 locs1 cells slots Q (F0 m (pc + 3) ls (.int (J v) :: rest))) : W p l e R s m args below meth c H locs cells slots Q (F0 m pc ls st0) := by
  refine va_calli hr hS (fun q _ h => yA_in hAr q h) (yA_in hAr) (fun r τ t H1 locs1 ht _ hp hB _ hk hS1 => ?_)
  obtain ⟨v, hp, hq⟩ : ∃ v : Int, r = J v ∧ post v τ := hp
  subst hp
  have hB : yW cl G L lo nn z τ t.heap := hB
  rw [ht] at hB
  exact kk v τ H1 locs1 hq hk hB hS1
theorem y_ch (hr : va_Run p l e R s m args below meth c H locs cells slots 0 0 (F0 m pc ls st0) rest (yQh cl G L lo nn z postv a) (yA z lo nn)) (hS : va_S A H0 H locs) (hAr : ∀ d, lo ≤ d ∧ d < lo + nn → A (z + d))
    (kk : ∀ (τ : yM) (H1 : Heap) (locs1 : List Loc), postv τ → (∀ q, q < H.size → ¬ yA z lo nn q → H1[q]? = H[q]?) → yW cl G L lo nn z τ H1 → va_S A H0 H1 locs1 → W p l e R s m args below meth c H1 locs1 cells slots Q (F0 m (pc + 3) ls rest)) : W p l e R s m args below meth c H locs cells slots Q (F0 m pc ls st0) := by
  refine va_callv hr hS (fun q _ h => yA_in hAr q h) (yA_in hAr) (fun τ t H1 locs1 ht _ hp hB _ hk hS1 => ?_)
  have hB : yW cl G L lo nn z τ t.heap := hB
  rw [ht] at hB
  exact kk τ H1 locs1 hp hk hB hS1
theorem y_retg (hx : p.tables.exec = Jvm.exec) (hb : c.code = cc) (hr : meth.sig.returnType = some .int) (hlocks : meth.locks = false) (hS : va_S (yA z lo nn) s.heap H locs) (hW : yW cl G L lo nn z σ H) {v : Int} (hq : post v σ) (hdg : decode cc pc = .ok (.ireturn, 1)) : W p l e R s m args below meth c H locs 0 0 (MQ below (yQg cl G L lo nn z post) args s 0 0 (yA z lo nn)) (F0 m pc ls [.int (J v)]) :=
  W.iret hx hb hr (fun t ht _ => ⟨⟨_, σ, rfl, ⟨v, rfl, hq⟩, by (show yW cl G L lo nn z σ t.heap); rw [ht]; exact hW⟩, hS.F ht⟩) hS.2.2 hdg hlocks
theorem y_retgz (hx : p.tables.exec = Jvm.exec) (hb : c.code = cc) (hr : meth.sig.returnType = some .boolean) (hlocks : meth.locks = false) (hS : va_S (yA z lo nn) s.heap H locs) (hW : yW cl G L lo nn z σ H) {v : Int} (h01 : v = 0 ∨ v = 1) (hq : post v σ) (hdg : decode cc pc = .ok (.ireturn, 1)) : W p l e R s m args below meth c H locs 0 0 (MQ below (yQg cl G L lo nn z post) args s 0 0 (yA z lo nn)) (F0 m pc ls [.int (J v)]) :=
  W.zret hx hb hr (by rcases h01 with rfl | rfl <;> decide +kernel) (fun t ht _ => ⟨⟨_, σ, rfl, ⟨v, rfl, hq⟩, by (show yW cl G L lo nn z σ t.heap); rw [ht]; exact hW⟩, hS.F ht⟩) hS.2.2 hdg hlocks
theorem y_reth (hx : p.tables.exec = Jvm.exec) (hb : c.code = cc) (hr : meth.sig.returnType = none) (hlocks : meth.locks = false) (hS : va_S (yA z lo nn) s.heap H locs) (hW : yW cl G L lo nn z σ H) (hq : postv σ) (hdg : decode cc pc = .ok (.return_, 1)) : W p l e R s m args below meth c H locs 0 0 (MQ below (yQh cl G L lo nn z postv) args s 0 0 (yA z lo nn)) (F0 m pc ls []) :=
  W.vret hx hb hr (fun t ht _ => ⟨⟨σ, rfl, hq, by (show yW cl G L lo nn z σ t.heap); rw [ht]; exact hW⟩, hS.F ht⟩) hS.2.2 hdg hlocks
end YG
