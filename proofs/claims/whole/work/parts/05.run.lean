/-! The words of all tables at once; a contract's beginning; a call. -/
def yg (w : Cond) : Bool := (w.onTables && w.keeps) || (match w with | .arrayClass _ => true | _ => false)
def yT : List Cond := lw_tbl.filter yg
theorem yT_in {w : Cond} (h : w ∈ lw_tbl) (hg : yg w = true) : w ∈ yT := List.mem_filter.mpr ⟨h, hg⟩
theorem yT_ok : ∀ w ∈ yT, (w.onTables && w.keeps) = true ∨ ∃ ty, w = .arrayClass ty := by
  intro w h
  have h1 : yg w = true := (List.mem_filter.mp h).2
  unfold yg at h1
  rcases Bool.or_eq_true _ _ |>.mp h1 with h2 | h2
  · exact Or.inl h2
  · split at h2
    · exact Or.inr ⟨_, rfl⟩
    · cases h2
theorem y_good {x y : Cond} (hy : y ∈ yT) : GoodIn (x :: yT) (y :: yT) := fun w h => by
  rcases List.mem_cons.mp h with rfl | h
  · exact ⟨List.mem_cons_of_mem _ hy, yT_ok _ hy⟩
  · exact ⟨List.mem_cons_of_mem _ h, yT_ok _ h⟩
theorem y_met {l : Launch} {y : MethodName} {cc : ByteArray} {maxL : Nat} {ret : Option FieldType} {rm : Room} {av : List Value} {B : State → Prop} {Qc : Array Value → State → Outcome → State → Prop} {mc ms : Nat} {free : Addr → Prop} (hy : plainName y.cls = true) (hlen : (lg_sl av).length ≤ maxL)
    (body : ∀ (p : Program) (e : Env) (s : State) (m : MethodId) (below : List Frame) (meth : Method) (c : Code) (ls : Array Slot), p.tables.exec = Jvm.exec → c.code = cc → meth.sig.returnType = ret → c.maxLocals = maxL → meth.locks = false → s.vm.findClass y.cls = some m.cls → meth.name = y.name → (∀ w ∈ (Cond.code y cc maxL ret :: yT), w.before av.toArray s = true) → B s → lv_has ls maxL (lv_args 0 av) →
      W p l e rm s m av.toArray below meth c s.heap [] 0 0 (MQ below Qc av.toArray s mc ms free) (F0 m 0 ls [])) : Met l y (Cond.code y cc maxL ret :: yT) rm (va_Pc av B) Qc mc ms free := by
  refine Met.ofW (cc := cc) (maxL := maxL) (ret := ret) hy rfl ?_
  intro p e s m args below meth c s₁ X hml hv
  obtain ⟨rfl, hv⟩ := hv
  have hl := lv_entry av (n := maxL) hlen
  rw [lg_entry_eq]
  generalize (lg_sl av ++ List.replicate (maxL - (lg_sl av).length) Slot.unset).toArray = ls at hl ⊢
  exact body p e s m below meth c ls X.exec X.bytes X.returns hml X.notSynchronized (findClass_of_methodNamed X.named) (name_of_methodNamed X.named X.method).1 (atoms_spec X.pre) hv hl
section YR
variable {p : Program} {l : Launch} {e : Env} {R : Room} {s : State} {m : MethodId} {args : Array Value} {below : List Frame} {meth : Method} {c : Code} {H : Heap} {locs : List Loc} {cells slots : Nat} {pc : Nat} {ls : Array Slot} {st0 rest As : List Value}
variable {x : Cond} {own host : String} {y : MethodName} {bytes cc : ByteArray} {maxL nL mc ms n index b : Nat} {ret : Option FieldType} {rm : Room} {Pc : Array Value → State → Prop} {Qc : Array Value → State → Outcome → State → Prop} {free : Addr → Prop}
theorem y_runS (S : CallFix p m c cc nL s args (x :: yT) own) (hM : Met l y (Cond.code y bytes maxL ret :: yT) rm Pc Qc mc ms free) (n : Nat) (k1 : Cond.code y bytes maxL ret ∈ yT) (k2 : Cond.methodLink own index y ∈ yT) (k3 : Cond.static y ∈ yT) (k4 : Cond.initialized y.cls ∈ yT) (hrc : rm.cells = mc) (hrs : rm.slots = ms)
    (hd : y.cls ≠ "java/lang/invoke/MethodHandle" ∧ y.cls ≠ "java/lang/invoke/VarHandle" ∧ (parseMethodDescriptor y.desc).map (fun d => d.parameters.length) = some n) (hR : rm.frames + 1 ≤ R.frames ∧ 8 + (maxL + 11) + rm.locals ≤ R.locals) (hp : PreS s H Pc As) (hn : As.length = n) (hz : ls.size = nL) (hst : st0 = As.reverse ++ rest) (hW : (rest.map fun v => v.category).sum ≤ 8) (hdg : decode cc pc = .ok (.invokestatic index, 3)) (hf : cells + mc ≤ R.cells ∧ slots + ms ≤ R.slots) :
    va_Run p l e R s m args below meth c H locs cells slots mc ms (F0 m pc ls st0) rest (Qc As.toArray) free :=
  va_runS (n := n) S hM ⟨callB_of n S.2.2.2.2 (y_good k1) rfl hrc hrs (S.2.2.2.2 _ (List.mem_cons_of_mem _ k4)) (S.2.2.2.2 _ (List.mem_cons_of_mem _ k2)) hd hR, S.2.2.2.2 _ (List.mem_cons_of_mem _ k3)⟩ hp rfl hn hz hst (lv_room hW) hdg hf
theorem y_runSN (S : CallFix p m c cc nL s args (x :: yT) own) (hM : Met l y (Cond.code y bytes maxL ret :: yT) rm Pc Qc mc ms free) (n : Nat) (k1 : Cond.code y bytes maxL ret ∈ yT) (k2 : va_Nw (.methodLinkNest own index y host) s) (k3 : Cond.static y ∈ yT) (k4 : Cond.initialized y.cls ∈ yT) (hrc : rm.cells = mc) (hrs : rm.slots = ms)
    (hd : y.cls ≠ "java/lang/invoke/MethodHandle" ∧ y.cls ≠ "java/lang/invoke/VarHandle" ∧ (parseMethodDescriptor y.desc).map (fun d => d.parameters.length) = some n) (hR : rm.frames + 1 ≤ R.frames ∧ 8 + (maxL + 11) + rm.locals ≤ R.locals) (hp : PreS s H Pc As) (hn : As.length = n) (hz : ls.size = nL) (hst : st0 = As.reverse ++ rest) (hW : (rest.map fun v => v.category).sum ≤ 8) (hdg : decode cc pc = .ok (.invokestatic index, 3)) (hf : cells + mc ≤ R.cells ∧ slots + ms ≤ R.slots) :
    va_Run p l e R s m args below meth c H locs cells slots mc ms (F0 m pc ls st0) rest (Qc As.toArray) free :=
  va_runSN (n := n) S hM ⟨va_cnB n S.2.2.2.2 (y_good k1) rfl hrc hrs k2 (S.2.2.2.2 _ (List.mem_cons_of_mem _ k4)) hd hR, S.2.2.2.2 _ (List.mem_cons_of_mem _ k3), trivial⟩ hp rfl hn hz hst (lv_room hW) hdg hf
theorem y_runV (S : CallFix p m c cc nL s args (x :: yT) own) (hM : Met l y (Cond.code y bytes maxL ret :: yT) rm Pc Qc mc ms free) (n : Nat) (k1 : Cond.code y bytes maxL ret ∈ yT) (k2 : Cond.methodLink own index y ∈ yT) (k3 : Cond.instanceMethod y ∈ yT) (k5 : Cond.selects y.cls y y ∈ yT) (k4 : Cond.initialized y.cls ∈ yT) (hrc : rm.cells = mc) (hrs : rm.slots = ms)
    (hd : y.cls ≠ "java/lang/invoke/MethodHandle" ∧ y.cls ≠ "java/lang/invoke/VarHandle" ∧ (parseMethodDescriptor y.desc).map (fun d => d.parameters.length) = some n) (hR : rm.frames + 1 ≤ R.frames ∧ 8 + (maxL + 11) + rm.locals ≤ R.locals) (hp : PreV s H y.cls b Pc As) (hn : As.length = n) (hz : ls.size = nL) (hst : st0 = As.reverse ++ .ref b :: rest) (hW : (rest.map fun v => v.category).sum ≤ 8) (hdg : decode cc pc = .ok (.invokevirtual index, 3)) (hf : cells + mc ≤ R.cells ∧ slots + ms ≤ R.slots) :
    va_Run p l e R s m args below meth c H locs cells slots mc ms (F0 m pc ls st0) rest (Qc (Value.ref b :: As).toArray) free :=
  va_runV (n := n) S hM ⟨callB_of n S.2.2.2.2 (y_good k1) rfl hrc hrs (S.2.2.2.2 _ (List.mem_cons_of_mem _ k4)) (S.2.2.2.2 _ (List.mem_cons_of_mem _ k2)) hd hR, S.2.2.2.2 _ (List.mem_cons_of_mem _ k3), S.2.2.2.2 _ (List.mem_cons_of_mem _ k5)⟩ hp rfl hn hz hst (lv_room hW) hdg hf
theorem y_runVN (S : CallFix p m c cc nL s args (x :: yT) own) (hM : Met l y (Cond.code y bytes maxL ret :: yT) rm Pc Qc mc ms free) (n : Nat) (k1 : Cond.code y bytes maxL ret ∈ yT) (k2 : va_Nw (.methodLinkNest own index y host) s) (k3 : Cond.instanceMethod y ∈ yT) (k5 : Cond.selects y.cls y y ∈ yT) (k4 : Cond.initialized y.cls ∈ yT) (hrc : rm.cells = mc) (hrs : rm.slots = ms)
    (hd : y.cls ≠ "java/lang/invoke/MethodHandle" ∧ y.cls ≠ "java/lang/invoke/VarHandle" ∧ (parseMethodDescriptor y.desc).map (fun d => d.parameters.length) = some n) (hR : rm.frames + 1 ≤ R.frames ∧ 8 + (maxL + 11) + rm.locals ≤ R.locals) (hp : PreV s H y.cls b Pc As) (hn : As.length = n) (hz : ls.size = nL) (hst : st0 = As.reverse ++ .ref b :: rest) (hW : (rest.map fun v => v.category).sum ≤ 8) (hdg : decode cc pc = .ok (.invokevirtual index, 3)) (hf : cells + mc ≤ R.cells ∧ slots + ms ≤ R.slots) :
    va_Run p l e R s m args below meth c H locs cells slots mc ms (F0 m pc ls st0) rest (Qc (Value.ref b :: As).toArray) free :=
  va_runVN (n := n) S hM ⟨va_cnB n S.2.2.2.2 (y_good k1) rfl hrc hrs k2 (S.2.2.2.2 _ (List.mem_cons_of_mem _ k4)) hd hR, S.2.2.2.2 _ (List.mem_cons_of_mem _ k3), S.2.2.2.2 _ (List.mem_cons_of_mem _ k5)⟩ hp rfl hn hz hst (lv_room hW) hdg hf
theorem y_runI (S : CallFix p m c cc nL s args (x :: yT) own) (hM : Met l y (Cond.code y bytes maxL none :: yT) rm Pc Qc mc ms free) (n : Nat) (k1 : Cond.code y bytes maxL none ∈ yT) (k2 : Cond.methodLink own index y ∈ yT) (k3 : Cond.instanceMethod y ∈ yT) (k4 : Cond.initialized y.cls ∈ yT) (hy1 : y.name = "<init>") (hrc : rm.cells = mc) (hrs : rm.slots = ms)
    (hd : y.cls ≠ "java/lang/invoke/MethodHandle" ∧ y.cls ≠ "java/lang/invoke/VarHandle" ∧ (parseMethodDescriptor y.desc).map (fun d => d.parameters.length) = some n) (hR : rm.frames + 1 ≤ R.frames ∧ 8 + (maxL + 11) + rm.locals ≤ R.locals) (hp : PreS s H Pc (.ref b :: As)) (hn : As.length = n) (hz : ls.size = nL) (hst : st0 = As.reverse ++ .ref b :: rest) (hW : (rest.map fun v => v.category).sum ≤ 8) (hdg : decode cc pc = .ok (.invokespecial index, 3)) (hf : cells + mc ≤ R.cells ∧ slots + ms ≤ R.slots) :
    va_Run p l e R s m args below meth c H locs cells slots mc ms (F0 m pc ls st0) rest (Qc (Value.ref b :: As).toArray) free :=
  va_runI (n := n) S hM ⟨callB_of n S.2.2.2.2 (y_good k1) rfl hrc hrs (S.2.2.2.2 _ (List.mem_cons_of_mem _ k4)) (S.2.2.2.2 _ (List.mem_cons_of_mem _ k2)) hd hR, hy1, S.2.2.2.2 _ (List.mem_cons_of_mem _ k3)⟩ hp rfl hn hz hst (lv_room hW) hdg hf
theorem y_runIN (S : CallFix p m c cc nL s args (x :: yT) own) (hM : Met l y (Cond.code y bytes maxL none :: yT) rm Pc Qc mc ms free) (n : Nat) (k1 : Cond.code y bytes maxL none ∈ yT) (k2 : va_Nw (.methodLinkNest own index y host) s) (k3 : Cond.instanceMethod y ∈ yT) (k4 : Cond.initialized y.cls ∈ yT) (hy1 : y.name = "<init>") (hrc : rm.cells = mc) (hrs : rm.slots = ms)
    (hd : y.cls ≠ "java/lang/invoke/MethodHandle" ∧ y.cls ≠ "java/lang/invoke/VarHandle" ∧ (parseMethodDescriptor y.desc).map (fun d => d.parameters.length) = some n) (hR : rm.frames + 1 ≤ R.frames ∧ 8 + (maxL + 11) + rm.locals ≤ R.locals) (hp : PreS s H Pc (.ref b :: As)) (hn : As.length = n) (hz : ls.size = nL) (hst : st0 = As.reverse ++ .ref b :: rest) (hW : (rest.map fun v => v.category).sum ≤ 8) (hdg : decode cc pc = .ok (.invokespecial index, 3)) (hf : cells + mc ≤ R.cells ∧ slots + ms ≤ R.slots) :
    va_Run p l e R s m args below meth c H locs cells slots mc ms (F0 m pc ls st0) rest (Qc (Value.ref b :: As).toArray) free :=
  va_runIN (n := n) S hM ⟨va_cnB n S.2.2.2.2 (y_good k1) rfl hrc hrs k2 (S.2.2.2.2 _ (List.mem_cons_of_mem _ k4)) hd hR, hy1, S.2.2.2.2 _ (List.mem_cons_of_mem _ k3)⟩ hp rfl hn hz hst (lv_room hW) hdg hf
end YR
