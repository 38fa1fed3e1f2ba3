/-! THE CLAIM OUT OF ONE WALK OF THE LAW'S BODY. Your part is whole_start (and what it stands on); all else here is the same for every law, but numbers. -/
def R_law : String := "NotePoolLaw"
def lw_P (b : Addr) (xs : List Int32) (args : Array Value) (s : State) : Prop := args = #[.ref b] ∧ s.IntsAt b xs ∧ xs.length ≤ 3072 ∧ (Jvm.Cond.and given_1 narrow_1).before args s = true
def lw_Q (_ : Array Value) (s : State) (o : Outcome) (t : State) : Prop := o = .returned (some (.int 1)) ∧ Framed s o t [] 600000 7302250
def lw_Z (below : List Frame) (a : Array Value) (s : State) : State → Prop := fun t => ∃ o, t.status = .running ∧ Ended t below o ∧ lw_Q a s o t
/-- the law's own end, with 1 on the stack, nothing written that was there before, its room as the claim has it -/
theorem lw_ret {p : Program} {l : Launch} {e : Env} {s : State} {m : MethodId} {below : List Frame} {meth : Method} {c : Code} {b : Nat} (hx : p.tables.exec = Jvm.exec) (hb : c.code = code) (hr : meth.sig.returnType = ret) (hlocks : meth.locks = false) {pc : Nat} {H : Heap} {ls : Array Slot} (hdg : decode code pc = .ok (.ireturn, 1)) : W p l e room_1 s m #[Value.ref b] below meth c H [] 600000 7302250 (lw_Z below #[Value.ref b] s) (F0 m pc ls [.int 1]) := by
  intro T hT X
  obtain ⟨fs, hret, hrun, hended, hW, hframe⟩ := X.leave (v := some (.int 1)) (hlocks := hlocks) (fun h => by rw [hr] at h; cases h)
  have hmeth' : T.vm.method? m = some meth := X.method'
  refine ⟨T.setFrames fs, ?_, .returned (some (.int 1)), hrun, hended, rfl, ⟨_, rfl⟩, hW, hframe⟩
  jvm_step X.here [X.here.top, hx, hb, hdg, hmeth', hr, ret, narrow_b1]
  (try refine ⟨rfl, ?_⟩); (try refine ⟨rfl, ?_⟩)
  first | (intro acts; rw [hret _ acts rfl rfl rfl]) | rw [hret _ _ rfl rfl rfl]
  exact Steps.refl _
/-- what holds at the law's entry: the machine, the code, the tables' words (any of lw_tbl by 'hts w (by decide +kernel)'), the script of L ints xs at the cell b, what the Statement gives of the start (any of its parts by flat_of_before) -/
def lw_At (p : Program) (s : State) (m : MethodId) (meth : Method) (c : Code) (b L : Nat) (xs : Nat → Int32) : Prop :=
  p.tables.exec = Jvm.exec ∧ c.code = code ∧ meth.sig.returnType = ret ∧ c.maxLocals = 4 ∧ s.vm.findClass R_law = some m.cls ∧ (∀ w ∈ lw_tbl, w.before #[Value.ref b] s = true) ∧ va_X b L xs s s.heap ∧ b < s.heap.size ∧ meth.locks = false ∧ (Jvm.Cond.and given_1 narrow_1).before #[Value.ref b] s = true
-- ===== YOUR PART BEGINS =====
theorem y_fsM : ∀ j, j < 33 → defaultValue (t_M j) = vp_V [.null, .null, .int (J 0), .null, .int (J 0), .null, .null, .null, .null, .null, .null, .null, .null, .int (J 0), .null, .null, .null, .null, .null, .null, .null, .null, .int (J 0), .int (J 0), .int (J 0), .null, .null, .null, .null, .null, .null, .null, .null] j
  | 0, _ => rfl
  | 1, _ => rfl
  | 2, _ => congrArg Value.int J0.symm
  | 3, _ => rfl
  | 4, _ => congrArg Value.int J0.symm
  | 5, _ => rfl
  | 6, _ => rfl
  | 7, _ => rfl
  | 8, _ => rfl
  | 9, _ => rfl
  | 10, _ => rfl
  | 11, _ => rfl
  | 12, _ => rfl
  | 13, _ => congrArg Value.int J0.symm
  | 14, _ => rfl
  | 15, _ => rfl
  | 16, _ => rfl
  | 17, _ => rfl
  | 18, _ => rfl
  | 19, _ => rfl
  | 20, _ => rfl
  | 21, _ => rfl
  | 22, _ => congrArg Value.int J0.symm
  | 23, _ => congrArg Value.int J0.symm
  | 24, _ => congrArg Value.int J0.symm
  | 25, _ => rfl
  | 26, _ => rfl
  | 27, _ => rfl
  | 28, _ => rfl
  | 29, _ => rfl
  | 30, _ => rfl
  | 31, _ => rfl
  | 32, _ => rfl
  | _ + 33, h => absurd h (by omega)
set_option maxHeartbeats 16000000 in
set_option maxRecDepth 100000 in
/-- YOUR PART: from the entry, for every script of at most 3072 ints, the law comes to its end with true -/
theorem whole_start {p : Program} {e : Env} {s : State} {m : MethodId} {below : List Frame} {meth : Method} {c : Code} (l : Launch) {b L : Nat} {xs : Nat → Int32} (hL : L ≤ 3072) (C0 : lw_At p s m meth c b L xs) : W p l e room_1 s m #[Value.ref b] below meth c s.heap [] 0 0 (lw_Z below #[Value.ref b] s) (entryFrame m ([Value.ref b] : List Value).toArray 4) := by
  obtain ⟨hx, hb, hr, hml, hown0, hts, hXs, hbl, hlocks, hgv⟩ := C0
  have hown : s.vm.findClass R_Law = some m.cls := hown0
  have hA : ∀ w ∈ yT, w.before #[Value.ref b] s = true := fun w h => hts w (List.mem_filter.mp h).1
  have hts2 : ∀ w ∈ (Cond.initialized R_P :: yT), w.before #[Value.ref b] s = true := fun w h => (List.mem_cons.mp h).elim (fun e => by rw [e]; exact hA _ k_in_P) (hA w)
  obtain ⟨G, hK2⟩ := y_G hts
  have hK := hK2.1
  have hl := lv_entry ([Value.ref b]) (n := 4) (Nat.le_of_ble_eq_true rfl)
  rw [lg_entry_eq]
  generalize (lg_sl ([Value.ref b]) ++ List.replicate (4 - (lg_sl ([Value.ref b])).length) Slot.unset).toArray = ls at hl ⊢
  have hl : lv_has ls 4 [(0, .ref b)] := hl
  obtain ⟨z, hz⟩ : ∃ q, q = s.heap.size := ⟨_, rfl⟩
  have hS : va_S (fun q => z ≤ q) s.heap s.heap [] := va_S.rf
  have hbA : ¬ (fun q => z ≤ q) b := by show ¬ z ≤ b; omega
  have hX0 : xX ycl G (fun _ => .inl (G.2 0, 0, .inl (fun _ => 0))) 0 0 z s.heap := xX_of (fun c hc => absurd hc (by omega))
  refine x_new (ci := 0) (fs := [.null, .null, .null, .null, .null, .int (J 0)]) hx hb hA in_P t_P tk_P hown (hA _ k_cl_Law_7) (hA _ k_it_P) (hA _ k_in_P) hK.1 hX0 hS (by omega) rfl (fun j hj => by rcases (by omega : j = 0 ∨ j = 1 ∨ j = 2 ∨ j = 3 ∨ j = 4 ∨ j = 5) with rfl | rfl | rfl | rfl | rfl | rfl <;> first | rfl | exact congrArg Value.int J0.symm) (Nat.le_of_ble_eq_true rfl) (Nat.le_of_ble_eq_true rfl) d_law_0 (fun H hX hS => ?_)
  have hX : xX ycl G (eu _ 0 _) 0 1 z H := hX
  refine W.eq (g2 := F0 m 3 ls [.ref (z + 0)]) rfl ?_
  refine lv_dup hx hb d_law_3 rfl ?_
  refine x_sz hX (by omega) (by omega) (fun hZ => ?_)
  refine x_ch (y_runI (As := []) (rest := [.ref (z + 0)]) ⟨hx, hb, hml, hown, hts2⟩ (c_P_init l G z) 0 k_co_P_init k_ml_Law_9 k_im_P_init k_in_P rfl rfl rfl (by decide +kernel) ⟨Nat.le_of_ble_eq_true rfl, Nat.le_of_ble_eq_true rfl⟩ (yPn_s (fun _ _ _ _ h => h) (fun _ _ _ => trivial) (by have h9 := xX_at hX (c := 0) (by omega); rw [eu_at] at h9; exact h9) (by omega) hK2) rfl hl.1 rfl (Nat.le_of_ble_eq_true rfl) d_law_4 ⟨Nat.le_of_ble_eq_true rfl, Nat.le_of_ble_eq_true rfl⟩) hS (fun b9 _ => Nat.le_add_right z b9) (fun τ4 H locs hp4 _ hP hS => ?_)
  refine lv_astore_n (lv' := [(1, .ref (z + 0)), (0, .ref b)]) hx hb d_law_7 rfl hl (by decide) rfl (fun ls hl => ?_)
  have hX1 : xX ycl G (yC yLP G.2 z τ4) 0 73 z H := hP
  refine x_sz hX1 (by omega) (by omega) (fun hZ => ?_)
  refine x_new (ci := 10) (fs := [.null, .null, .int (J 0), .null, .int (J 0), .null, .null, .null, .null, .null, .null, .null, .null, .int (J 0), .null, .null, .null, .null, .null, .null, .null, .null, .int (J 0), .int (J 0), .int (J 0), .null, .null, .null, .null, .null, .null, .null, .null]) hx hb hA in_M t_M tk_M hown (hA _ k_cl_Law_10) (hA _ k_it_M) (hA _ k_in_M) hK.1 hX1 hS hZ rfl y_fsM (Nat.le_of_ble_eq_true rfl) (Nat.le_of_ble_eq_true rfl) d_law_8 (fun H hX hS => ?_)
  have hX : xX ycl G (eu (yC yLP G.2 z τ4) 73 _) 0 74 z H := hX
  have hP : yW ycl G yLP 0 73 z τ4 H := xX_y hX (by omega) (by omega) (fun c hc => eu_ne (by omega))
  refine W.eq (g2 := F0 m 11 ls [.ref ((z + 73) + 0)]) rfl ?_
  refine lv_dup hx hb d_law_11 rfl ?_
  refine x_sz hX (by omega) (by omega) (fun hZ => ?_)
  refine x_ch (y_runI (As := []) (rest := [.ref ((z + 73) + 0)]) ⟨hx, hb, hml, hown, hts2⟩ (c_M_init l G (z + 73)) 0 k_co_M_init k_ml_Law_12 k_im_M_init k_in_M rfl rfl rfl (by decide +kernel) ⟨Nat.le_of_ble_eq_true rfl, Nat.le_of_ble_eq_true rfl⟩ (yPn_s (fun _ _ _ _ h => h) (fun _ _ _ => trivial) (by have h9 := xX_at hX (c := 73) (by omega); rw [eu_at] at h9; exact h9) (by omega) hK2) rfl hl.1 rfl (Nat.le_of_ble_eq_true rfl) d_law_12 ⟨Nat.le_of_ble_eq_true rfl, Nat.le_of_ble_eq_true rfl⟩) hS (fun b9 _ => by show z ≤ z + 73 + b9; omega) (fun τ12 H locs hp12 hk12 hM hS => ?_)
  have hP : yW ycl G yLP 0 73 z τ4 H := yW_kept hP (fun c hc h => hk12 _ h (by omega))
  refine lv_astore_n (lv' := [(2, .ref ((z + 73) + 0)), (1, .ref (z + 0)), (0, .ref b)]) hx hb d_law_15 rfl hl (by decide) rfl (fun ls hl => ?_)
  refine lv_iconst (v := J (0)) hx hb d_law_16 rfl ?_
  refine lv_istore_n (lv' := [(3, .int (J (0))), (2, .ref ((z + 73) + 0)), (1, .ref (z + 0)), (0, .ref b)]) hx hb d_law_17 rfl hl (by decide) rfl (fun ls hl => ?_)
  have loop18 : ∀ (q9 t : Nat), t + q9 = L / 6 → ∀ (σ τ : yM), RX σ τ → ∀ (ls : Array Slot) (H : Heap) (locs : List Loc), yW ycl G yLP 0 73 z σ H → yW ycl G yLM 0 28 (z + 73) τ H → va_S (fun q => z ≤ q) s.heap H locs → lv_has ls 4 [(3, .int (J (((6 * t : Nat) : Int)))), (2, .ref ((z + 73) + 0)), (1, .ref (z + 0)), (0, .ref b)] → W p l e room_1 s m #[Value.ref b] below meth c H locs 101 5750 (lw_Z below #[Value.ref b] s) (F0 m 18 ls []) := by
    intro q9
    induction q9 with
    | zero =>
      intro t htk σ τ hRX ls H locs hP hM hS hl
      refine lv_iload_n hx hb d_law_18 rfl (lv_at hl 0 rfl) ?_
      refine lv_aload_n hx hb d_law_19 rfl (lv_at hl 3 rfl) ?_
      refine y_slen hx hb hXs hbl hbA hS (by omega) d_law_20 ?_
      refine lv_bipush (v := J (6)) hx hb d_law_21 (by decide) ?_
      refine y_isub hx hb d_law_23 ?_
      refine y_icmp_gt (tgt := 561) hx hb d_law_24 (by decide) ⟨by omega, by omega⟩ ⟨by omega, by omega⟩ (fun hc1 => ?_) (fun hc1 => absurd hc1 (by omega))
      refine lv_iconst (v := 1) hx hb d_law_561 rfl ?_
      refine va_forget (fun q hq => by have := hS.2.2 q hq; show s.heap.size ≤ q.base; rw [← hz]; exact this) ?_
      refine W.widen (k := 600000) (n := 7302250) (by decide) (by decide) ?_
      exact lw_ret hx hb hr hlocks d_law_562
    | succ q9 ih =>
      intro t htk σ τ hRX ls H locs hP hM hS hl
      obtain ⟨nk, nb, fl, ns, no, up, sc, h⟩ := hRX
      have main : ∀ (σ τ : yM), RX σ τ → ∀ (ls : Array Slot) (H : Heap) (locs : List Loc), yW ycl G yLP 0 73 z σ H → yW ycl G yLM 0 28 (z + 73) τ H → va_S (fun q => z ≤ q) s.heap H locs → lv_has ls 4 [(3, .int (J (((6 * t : Nat) : Int)))), (2, .ref ((z + 73) + 0)), (1, .ref (z + 0)), (0, .ref b)] → W p l e room_1 s m #[Value.ref b] below meth c H locs 101 5750 (lw_Z below #[Value.ref b] s) (F0 m 555 ls []) := by
        intro σ τ hRX ls H locs hP hM hS hl
        refine lv_iinc (k := 0) (v := J (((6 * (t + 1) : Nat) : Int))) (lv' := [(3, .int (J (((6 * (t + 1) : Nat) : Int)))), (2, .ref ((z + 73) + 0)), (1, .ref (z + 0)), (0, .ref b)]) hx hb d_law_555 hl rfl (by rw [show ((6 * (t + 1) : Nat) : Int) = ((6 * t : Nat) : Int) + 6 by omega]; exact J_add _ _) (by decide) rfl (fun ls hl => ?_)
        refine lv_goto (tgt := 18) hx hb d_law_558 (by decide) ?_
        exact ih (t + 1) (by omega) σ τ hRX ls H locs hP hM hS hl
      refine lv_iload_n hx hb d_law_18 rfl (lv_at hl 0 rfl) ?_
      refine lv_aload_n hx hb d_law_19 rfl (lv_at hl 3 rfl) ?_
      refine y_slen hx hb hXs hbl hbA hS (by omega) d_law_20 ?_
      refine lv_bipush (v := J (6)) hx hb d_law_21 (by decide) ?_
      refine y_isub hx hb d_law_23 ?_
      refine y_icmp_gt (tgt := 561) hx hb d_law_24 (by decide) ⟨by omega, by omega⟩ ⟨by omega, by omega⟩ (fun hc2 => absurd hc2 (by omega)) (fun hc2 => ?_)
      refine lv_aload_n hx hb d_law_27 rfl (lv_at hl 3 rfl) ?_
      refine lv_iload_n hx hb d_law_28 rfl (lv_at hl 0 rfl) ?_
      refine y_sld hx hb hXs hbl hbA hS (6 * t) (by omega) (by omega) (by omega) d_law_29 ?_
      refine lv_bipush (v := J (31)) hx hb d_law_30 (by decide) ?_
      refine y_iand' hx hb d_law_32 (fun n33 hn33 => ?_)
      by_cases hs33_0 : n33 = 0
      · skip
        refine lv_tableIn (tgt := 116) (off := 83) hx hb d_law_33 (by rw [J_toInt hn33, hs33_0]; decide) (by rw [J_toInt hn33, hs33_0]; decide) (by rw [J_toInt hn33, hs33_0]; rfl) (by decide) ?_
        refine lv_aload_n hx hb d_law_116 rfl (lv_at hl 2 rfl) ?_
        refine lv_aload_n hx hb d_law_117 rfl (lv_at hl 3 rfl) ?_
        refine lv_iload_n hx hb d_law_118 rfl (lv_at hl 0 rfl) ?_
        refine lv_iconst (v := J (1)) hx hb d_law_119 rfl ?_
        refine y_iadd hx hb d_law_120 ?_
        refine y_sld hx hb hXs hbl hbA hS (6 * t + 1) (by omega) (by omega) (by omega) d_law_121 ?_
        refine l_cgP (y_runV (As := [.int (J ((xs (6 * t + 1)).toInt))]) (rest := []) ⟨hx, hb, hml, hown, hts2⟩ (c_P_key l G z σ nk h.K.n h.K.a fl h.B.fl16 h.B.fla (τ 24) h.T.op h.l14 h.l15 h.l13 h.hBs (xs (6 * t + 1)).toInt (jr_x _)) 1 k_co_P_key k_ml_Law_13 k_im_P_key k_se_P_key k_in_P rfl rfl (by decide +kernel) ⟨Nat.le_of_ble_eq_true rfl, Nat.le_of_ble_eq_true rfl⟩ (yPv (yK_bl G) (yK_mv G) hK hK.1 hP (by omega) lay_0 rfl (by omega) (by omega)) rfl hl.1 rfl (Nat.le_of_ble_eq_true rfl) d_law_122 ⟨Nat.le_of_ble_eq_true rfl, Nat.le_of_ble_eq_true rfl⟩) hS (fun _ h9 => h9) hM (fun vP σ1 H locs hpP hP hM hS => ?_)
        refine lv_aload_n hx hb d_law_125 rfl (lv_at hl 1 rfl) ?_
        refine lv_aload_n hx hb d_law_126 rfl (lv_at hl 3 rfl) ?_
        refine lv_iload_n hx hb d_law_127 rfl (lv_at hl 0 rfl) ?_
        refine lv_iconst (v := J (1)) hx hb d_law_128 rfl ?_
        refine y_iadd hx hb d_law_129 ?_
        refine y_sld hx hb hXs hbl hbA hS (6 * t + 1) (by omega) (by omega) (by omega) d_law_130 ?_
        refine l_cgM (y_runV (As := [.int (J ((xs (6 * t + 1)).toInt))]) (rest := [.int (J (vP))]) ⟨hx, hb, hml, hown, hts2⟩ (c_M_key l G (z + 73) τ nk h.K.n h.K.b (xs (6 * t + 1)).toInt (jr_x _)) 1 k_co_M_key k_ml_Law_17 k_im_M_key k_se_M_key k_in_M rfl rfl (by decide +kernel) ⟨Nat.le_of_ble_eq_true rfl, Nat.le_of_ble_eq_true rfl⟩ (yPv (yK_bl G) (yK_mv G) hK hK.1 hM (by omega) laym_0 rfl (by omega) (by omega)) rfl hl.1 rfl (Nat.le_of_ble_eq_true rfl) d_law_131 ⟨Nat.le_of_ble_eq_true rfl, Nat.le_of_ble_eq_true rfl⟩) hS (fun _ h9 => h9) hP (fun vM τ1 H locs hpM hP hM hS => ?_)
        obtain ⟨hE, hRX1⟩ := h.u_key hpP hpM
        refine lv_icmp_eq (tgt := 555) hx hb d_law_134 (by decide) (fun _ => ?_) (fun hne => absurd (congrArg J hE) hne)
        exact main _ _ hRX1 ls H locs hP hM hS hl
      by_cases hs33_1 : n33 = 1
      · skip
        refine lv_tableIn (tgt := 139) (off := 106) hx hb d_law_33 (by rw [J_toInt hn33, hs33_1]; decide) (by rw [J_toInt hn33, hs33_1]; decide) (by rw [J_toInt hn33, hs33_1]; rfl) (by decide) ?_
        refine lv_aload_n hx hb d_law_139 rfl (lv_at hl 2 rfl) ?_
        refine l_chP (y_runV (As := []) (rest := []) ⟨hx, hb, hml, hown, hts2⟩ (c_P_clear l G z σ) 0 k_co_P_clear k_ml_Law_18 k_im_P_clear k_se_P_clear k_in_P rfl rfl (by decide +kernel) ⟨Nat.le_of_ble_eq_true rfl, Nat.le_of_ble_eq_true rfl⟩ (yPv (yK_bl G) (yK_mv G) hK hK.1 hP (by omega) lay_0 rfl (by omega) (by omega)) rfl hl.1 rfl (Nat.le_of_ble_eq_true rfl) d_law_140 ⟨Nat.le_of_ble_eq_true rfl, Nat.le_of_ble_eq_true rfl⟩) hS (fun _ h9 => h9) hM (fun σ1 H locs hpP hP hM hS => ?_)
        refine lv_aload_n hx hb d_law_143 rfl (lv_at hl 1 rfl) ?_
        refine l_chM (y_runV (As := []) (rest := []) ⟨hx, hb, hml, hown, hts2⟩ (c_M_clear l G (z + 73) τ) 0 k_co_M_clear k_ml_Law_21 k_im_M_clear k_se_M_clear k_in_M rfl rfl (by decide +kernel) ⟨Nat.le_of_ble_eq_true rfl, Nat.le_of_ble_eq_true rfl⟩ (yPv (yK_bl G) (yK_mv G) hK hK.1 hM (by omega) laym_0 rfl (by omega) (by omega)) rfl hl.1 rfl (Nat.le_of_ble_eq_true rfl) d_law_144 ⟨Nat.le_of_ble_eq_true rfl, Nat.le_of_ble_eq_true rfl⟩) hS (fun _ h9 => h9) hP (fun τ1 H locs hpM hP hM hS => ?_)
        refine lv_goto (tgt := 555) hx hb d_law_147 (by decide) ?_
        exact main _ _ (h.u_clear hpP hpM) ls H locs hP hM hS hl
      by_cases hs33_2 : n33 = 2
      · skip
        refine lv_tableIn (tgt := 150) (off := 117) hx hb d_law_33 (by rw [J_toInt hn33, hs33_2]; decide) (by rw [J_toInt hn33, hs33_2]; decide) (by rw [J_toInt hn33, hs33_2]; rfl) (by decide) ?_
        refine lv_aload_n hx hb d_law_150 rfl (lv_at hl 2 rfl) ?_
        refine lv_aload_n hx hb d_law_151 rfl (lv_at hl 3 rfl) ?_
        refine lv_iload_n hx hb d_law_152 rfl (lv_at hl 0 rfl) ?_
        refine lv_iconst (v := J (1)) hx hb d_law_153 rfl ?_
        refine y_iadd hx hb d_law_154 ?_
        refine y_sld hx hb hXs hbl hbA hS (6 * t + 1) (by omega) (by omega) (by omega) d_law_155 ?_
        refine lv_aload_n hx hb d_law_156 rfl (lv_at hl 3 rfl) ?_
        refine lv_iload_n hx hb d_law_157 rfl (lv_at hl 0 rfl) ?_
        refine lv_iconst (v := J (2)) hx hb d_law_158 rfl ?_
        refine y_iadd hx hb d_law_159 ?_
        refine y_sld hx hb hXs hbl hbA hS (6 * t + 2) (by omega) (by omega) (by omega) d_law_160 ?_
        refine lv_aload_n hx hb d_law_161 rfl (lv_at hl 3 rfl) ?_
        refine lv_iload_n hx hb d_law_162 rfl (lv_at hl 0 rfl) ?_
        refine lv_iconst (v := J (3)) hx hb d_law_163 rfl ?_
        refine y_iadd hx hb d_law_164 ?_
        refine y_sld hx hb hXs hbl hbA hS (6 * t + 3) (by omega) (by omega) (by omega) d_law_165 ?_
        refine l_cgP (y_runV (As := [.int (J ((xs (6 * t + 1)).toInt)), .int (J ((xs (6 * t + 2)).toInt)), .int (J ((xs (6 * t + 3)).toInt))]) (rest := []) ⟨hx, hb, hml, hown, hts2⟩ (c_P_spend l G z σ nk h.K.n h.K.a fl h.B.fl16 h.B.fla h.fnd h.hBs ns h.D.n2 h.D.a h.val (xs (6 * t + 1)).toInt (xs (6 * t + 2)).toInt (xs (6 * t + 3)).toInt (jr_x _) (jr_x _) (jr_x _)) 3 k_co_P_spend k_ml_Law_22 k_im_P_spend k_se_P_spend k_in_P rfl rfl (by decide +kernel) ⟨Nat.le_of_ble_eq_true rfl, Nat.le_of_ble_eq_true rfl⟩ (yPv (yK_bl G) (yK_mv G) hK hK.1 hP (by omega) lay_0 rfl (by omega) (by omega)) rfl hl.1 rfl (Nat.le_of_ble_eq_true rfl) d_law_166 ⟨Nat.le_of_ble_eq_true rfl, Nat.le_of_ble_eq_true rfl⟩) hS (fun _ h9 => h9) hM (fun vP σ1 H locs hpP hP hM hS => ?_)
        refine lv_aload_n hx hb d_law_169 rfl (lv_at hl 1 rfl) ?_
        refine lv_aload_n hx hb d_law_170 rfl (lv_at hl 3 rfl) ?_
        refine lv_iload_n hx hb d_law_171 rfl (lv_at hl 0 rfl) ?_
        refine lv_iconst (v := J (1)) hx hb d_law_172 rfl ?_
        refine y_iadd hx hb d_law_173 ?_
        refine y_sld hx hb hXs hbl hbA hS (6 * t + 1) (by omega) (by omega) (by omega) d_law_174 ?_
        refine lv_aload_n hx hb d_law_175 rfl (lv_at hl 3 rfl) ?_
        refine lv_iload_n hx hb d_law_176 rfl (lv_at hl 0 rfl) ?_
        refine lv_iconst (v := J (2)) hx hb d_law_177 rfl ?_
        refine y_iadd hx hb d_law_178 ?_
        refine y_sld hx hb hXs hbl hbA hS (6 * t + 2) (by omega) (by omega) (by omega) d_law_179 ?_
        refine lv_aload_n hx hb d_law_180 rfl (lv_at hl 3 rfl) ?_
        refine lv_iload_n hx hb d_law_181 rfl (lv_at hl 0 rfl) ?_
        refine lv_iconst (v := J (3)) hx hb d_law_182 rfl ?_
        refine y_iadd hx hb d_law_183 ?_
        refine y_sld hx hb hXs hbl hbA hS (6 * t + 3) (by omega) (by omega) (by omega) d_law_184 ?_
        refine l_cgM (y_runV (As := [.int (J ((xs (6 * t + 1)).toInt)), .int (J ((xs (6 * t + 2)).toInt)), .int (J ((xs (6 * t + 3)).toInt))]) (rest := [.int (J (vP))]) ⟨hx, hb, hml, hown, hts2⟩ (c_M_spend l G (z + 73) τ h.hTb nk h.K.n h.K.b nb h.B.n h.B.b fl h.B.fl16 h.flm h.T.lr h.K.sec h.T.ld ns h.D.n2 h.D.b (xs (6 * t + 1)).toInt (xs (6 * t + 2)).toInt (xs (6 * t + 3)).toInt (jr_x _) (jr_x _) (jr_x _)) 3 k_co_M_spend k_ml_Law_26 k_im_M_spend k_se_M_spend k_in_M rfl rfl (by decide +kernel) ⟨Nat.le_of_ble_eq_true rfl, Nat.le_of_ble_eq_true rfl⟩ (yPv (yK_bl G) (yK_mv G) hK hK.1 hM (by omega) laym_0 rfl (by omega) (by omega)) rfl hl.1 rfl (Nat.le_of_ble_eq_true rfl) d_law_185 ⟨Nat.le_of_ble_eq_true rfl, Nat.le_of_ble_eq_true rfl⟩) hS (fun _ h9 => h9) hP (fun vM τ1 H locs hpM hP hM hS => ?_)
        obtain ⟨hE, hRX1⟩ := h.u_spend hpP hpM
        refine lv_icmp_eq (tgt := 555) hx hb d_law_188 (by decide) (fun _ => ?_) (fun hne => absurd (congrArg J hE) hne)
        exact main _ _ hRX1 ls H locs hP hM hS hl
      by_cases hs33_3 : n33 = 3
      · skip
        refine lv_tableIn (tgt := 193) (off := 160) hx hb d_law_33 (by rw [J_toInt hn33, hs33_3]; decide) (by rw [J_toInt hn33, hs33_3]; decide) (by rw [J_toInt hn33, hs33_3]; rfl) (by decide) ?_
        refine lv_aload_n hx hb d_law_193 rfl (lv_at hl 2 rfl) ?_
        refine lv_aload_n hx hb d_law_194 rfl (lv_at hl 3 rfl) ?_
        refine lv_iload_n hx hb d_law_195 rfl (lv_at hl 0 rfl) ?_
        refine lv_iconst (v := J (1)) hx hb d_law_196 rfl ?_
        refine y_iadd hx hb d_law_197 ?_
        refine y_sld hx hb hXs hbl hbA hS (6 * t + 1) (by omega) (by omega) (by omega) d_law_198 ?_
        refine lv_aload_n hx hb d_law_199 rfl (lv_at hl 3 rfl) ?_
        refine lv_iload_n hx hb d_law_200 rfl (lv_at hl 0 rfl) ?_
        refine lv_iconst (v := J (2)) hx hb d_law_201 rfl ?_
        refine y_iadd hx hb d_law_202 ?_
        refine y_sld hx hb hXs hbl hbA hS (6 * t + 2) (by omega) (by omega) (by omega) d_law_203 ?_
        refine lv_aload_n hx hb d_law_204 rfl (lv_at hl 3 rfl) ?_
        refine lv_iload_n hx hb d_law_205 rfl (lv_at hl 0 rfl) ?_
        refine lv_iconst (v := J (3)) hx hb d_law_206 rfl ?_
        refine y_iadd hx hb d_law_207 ?_
        refine y_sld hx hb hXs hbl hbA hS (6 * t + 3) (by omega) (by omega) (by omega) d_law_208 ?_
        refine lv_aload_n hx hb d_law_209 rfl (lv_at hl 3 rfl) ?_
        refine lv_iload_n hx hb d_law_210 rfl (lv_at hl 0 rfl) ?_
        refine lv_iconst (v := J (4)) hx hb d_law_211 rfl ?_
        refine y_iadd hx hb d_law_212 ?_
        refine y_sld hx hb hXs hbl hbA hS (6 * t + 4) (by omega) (by omega) (by omega) d_law_213 ?_
        refine lv_aload_n hx hb d_law_214 rfl (lv_at hl 3 rfl) ?_
        refine lv_iload_n hx hb d_law_215 rfl (lv_at hl 0 rfl) ?_
        refine lv_iconst (v := J (5)) hx hb d_law_216 rfl ?_
        refine y_iadd hx hb d_law_217 ?_
        refine y_sld hx hb hXs hbl hbA hS (6 * t + 5) (by omega) (by omega) (by omega) d_law_218 ?_
        refine l_cgP (y_runV (As := [.int (J ((xs (6 * t + 1)).toInt)), .int (J ((xs (6 * t + 2)).toInt)), .int (J ((xs (6 * t + 3)).toInt)), .int (J ((xs (6 * t + 4)).toInt)), .int (J ((xs (6 * t + 5)).toInt))]) (rest := []) ⟨hx, hb, hml, hown, hts2⟩ (c_P_output l G z σ nk h.K.n h.K.a h.hBs no h.D.o2 h.D.c (τ 3) h.K.s1 (xs (6 * t + 1)).toInt (xs (6 * t + 2)).toInt (xs (6 * t + 3)).toInt (xs (6 * t + 4)).toInt (xs (6 * t + 5)).toInt (jr_x _) (jr_x _) (jr_x _) (jr_x _) (jr_x _)) 5 k_co_P_output k_ml_Law_27 k_im_P_output k_se_P_output k_in_P rfl rfl (by decide +kernel) ⟨Nat.le_of_ble_eq_true rfl, Nat.le_of_ble_eq_true rfl⟩ (yPv (yK_bl G) (yK_mv G) hK hK.1 hP (by omega) lay_0 rfl (by omega) (by omega)) rfl hl.1 rfl (Nat.le_of_ble_eq_true rfl) d_law_219 ⟨Nat.le_of_ble_eq_true rfl, Nat.le_of_ble_eq_true rfl⟩) hS (fun _ h9 => h9) hM (fun vP σ1 H locs hpP hP hM hS => ?_)
        refine lv_aload_n hx hb d_law_222 rfl (lv_at hl 1 rfl) ?_
        refine lv_aload_n hx hb d_law_223 rfl (lv_at hl 3 rfl) ?_
        refine lv_iload_n hx hb d_law_224 rfl (lv_at hl 0 rfl) ?_
        refine lv_iconst (v := J (1)) hx hb d_law_225 rfl ?_
        refine y_iadd hx hb d_law_226 ?_
        refine y_sld hx hb hXs hbl hbA hS (6 * t + 1) (by omega) (by omega) (by omega) d_law_227 ?_
        refine lv_aload_n hx hb d_law_228 rfl (lv_at hl 3 rfl) ?_
        refine lv_iload_n hx hb d_law_229 rfl (lv_at hl 0 rfl) ?_
        refine lv_iconst (v := J (2)) hx hb d_law_230 rfl ?_
        refine y_iadd hx hb d_law_231 ?_
        refine y_sld hx hb hXs hbl hbA hS (6 * t + 2) (by omega) (by omega) (by omega) d_law_232 ?_
        refine lv_aload_n hx hb d_law_233 rfl (lv_at hl 3 rfl) ?_
        refine lv_iload_n hx hb d_law_234 rfl (lv_at hl 0 rfl) ?_
        refine lv_iconst (v := J (3)) hx hb d_law_235 rfl ?_
        refine y_iadd hx hb d_law_236 ?_
        refine y_sld hx hb hXs hbl hbA hS (6 * t + 3) (by omega) (by omega) (by omega) d_law_237 ?_
        refine lv_aload_n hx hb d_law_238 rfl (lv_at hl 3 rfl) ?_
        refine lv_iload_n hx hb d_law_239 rfl (lv_at hl 0 rfl) ?_
        refine lv_iconst (v := J (4)) hx hb d_law_240 rfl ?_
        refine y_iadd hx hb d_law_241 ?_
        refine y_sld hx hb hXs hbl hbA hS (6 * t + 4) (by omega) (by omega) (by omega) d_law_242 ?_
        refine lv_aload_n hx hb d_law_243 rfl (lv_at hl 3 rfl) ?_
        refine lv_iload_n hx hb d_law_244 rfl (lv_at hl 0 rfl) ?_
        refine lv_iconst (v := J (5)) hx hb d_law_245 rfl ?_
        refine y_iadd hx hb d_law_246 ?_
        refine y_sld hx hb hXs hbl hbA hS (6 * t + 5) (by omega) (by omega) (by omega) d_law_247 ?_
        refine l_cgM (y_runV (As := [.int (J ((xs (6 * t + 1)).toInt)), .int (J ((xs (6 * t + 2)).toInt)), .int (J ((xs (6 * t + 3)).toInt)), .int (J ((xs (6 * t + 4)).toInt)), .int (J ((xs (6 * t + 5)).toInt))]) (rest := [.int (J (vP))]) ⟨hx, hb, hml, hown, hts2⟩ (c_M_output l G (z + 73) τ h.hTb nk h.K.n h.K.b h.K.sec no h.D.o2 h.D.d (xs (6 * t + 1)).toInt (xs (6 * t + 2)).toInt (xs (6 * t + 3)).toInt (xs (6 * t + 4)).toInt (xs (6 * t + 5)).toInt (jr_x _) (jr_x _) (jr_x _) (jr_x _) (jr_x _)) 5 k_co_M_output k_ml_Law_31 k_im_M_output k_se_M_output k_in_M rfl rfl (by decide +kernel) ⟨Nat.le_of_ble_eq_true rfl, Nat.le_of_ble_eq_true rfl⟩ (yPv (yK_bl G) (yK_mv G) hK hK.1 hM (by omega) laym_0 rfl (by omega) (by omega)) rfl hl.1 rfl (Nat.le_of_ble_eq_true rfl) d_law_248 ⟨Nat.le_of_ble_eq_true rfl, Nat.le_of_ble_eq_true rfl⟩) hS (fun _ h9 => h9) hP (fun vM τ1 H locs hpM hP hM hS => ?_)
        obtain ⟨hE, hRX1⟩ := h.u_output hpP hpM
        refine lv_icmp_eq (tgt := 555) hx hb d_law_251 (by decide) (fun _ => ?_) (fun hne => absurd (congrArg J hE) hne)
        exact main _ _ hRX1 ls H locs hP hM hS hl
      by_cases hs33_4 : n33 = 4
      · skip
        refine lv_tableIn (tgt := 256) (off := 223) hx hb d_law_33 (by rw [J_toInt hn33, hs33_4]; decide) (by rw [J_toInt hn33, hs33_4]; decide) (by rw [J_toInt hn33, hs33_4]; rfl) (by decide) ?_
        refine lv_aload_n hx hb d_law_256 rfl (lv_at hl 2 rfl) ?_
        refine lv_aload_n hx hb d_law_257 rfl (lv_at hl 3 rfl) ?_
        refine lv_iload_n hx hb d_law_258 rfl (lv_at hl 0 rfl) ?_
        refine lv_iconst (v := J (1)) hx hb d_law_259 rfl ?_
        refine y_iadd hx hb d_law_260 ?_
        refine y_sld hx hb hXs hbl hbA hS (6 * t + 1) (by omega) (by omega) (by omega) d_law_261 ?_
        refine l_cgP (y_runV (As := [.int (J ((xs (6 * t + 1)).toInt))]) (rest := []) ⟨hx, hb, hml, hown, hts2⟩ (c_P_balance l G z σ (xs (6 * t + 1)).toInt (jr_x _)) 1 k_co_P_balance k_ml_Law_32 k_im_P_balance k_se_P_balance k_in_P rfl rfl (by decide +kernel) ⟨Nat.le_of_ble_eq_true rfl, Nat.le_of_ble_eq_true rfl⟩ (yPv (yK_bl G) (yK_mv G) hK hK.1 hP (by omega) lay_0 rfl (by omega) (by omega)) rfl hl.1 rfl (Nat.le_of_ble_eq_true rfl) d_law_262 ⟨Nat.le_of_ble_eq_true rfl, Nat.le_of_ble_eq_true rfl⟩) hS (fun _ h9 => h9) hM (fun vP σ1 H locs hpP hP hM hS => ?_)
        refine lv_aload_n hx hb d_law_265 rfl (lv_at hl 1 rfl) ?_
        refine lv_aload_n hx hb d_law_266 rfl (lv_at hl 3 rfl) ?_
        refine lv_iload_n hx hb d_law_267 rfl (lv_at hl 0 rfl) ?_
        refine lv_iconst (v := J (1)) hx hb d_law_268 rfl ?_
        refine y_iadd hx hb d_law_269 ?_
        refine y_sld hx hb hXs hbl hbA hS (6 * t + 1) (by omega) (by omega) (by omega) d_law_270 ?_
        refine l_cgM (y_runV (As := [.int (J ((xs (6 * t + 1)).toInt))]) (rest := [.int (J (vP))]) ⟨hx, hb, hml, hown, hts2⟩ (c_M_balance l G (z + 73) τ (xs (6 * t + 1)).toInt (jr_x _)) 1 k_co_M_balance k_ml_Law_36 k_im_M_balance k_se_M_balance k_in_M rfl rfl (by decide +kernel) ⟨Nat.le_of_ble_eq_true rfl, Nat.le_of_ble_eq_true rfl⟩ (yPv (yK_bl G) (yK_mv G) hK hK.1 hM (by omega) laym_0 rfl (by omega) (by omega)) rfl hl.1 rfl (Nat.le_of_ble_eq_true rfl) d_law_271 ⟨Nat.le_of_ble_eq_true rfl, Nat.le_of_ble_eq_true rfl⟩) hS (fun _ h9 => h9) hP (fun vM τ1 H locs hpM hP hM hS => ?_)
        obtain ⟨hE, hRX1⟩ := h.u_balance hpP hpM
        refine lv_icmp_eq (tgt := 555) hx hb d_law_274 (by decide) (fun _ => ?_) (fun hne => absurd (congrArg J hE) hne)
        exact main _ _ hRX1 ls H locs hP hM hS hl
      by_cases hs33_5 : n33 = 5
      · skip
        refine lv_tableIn (tgt := 279) (off := 246) hx hb d_law_33 (by rw [J_toInt hn33, hs33_5]; decide) (by rw [J_toInt hn33, hs33_5]; decide) (by rw [J_toInt hn33, hs33_5]; rfl) (by decide) ?_
        refine lv_aload_n hx hb d_law_279 rfl (lv_at hl 2 rfl) ?_
        refine lv_aload_n hx hb d_law_280 rfl (lv_at hl 3 rfl) ?_
        refine lv_iload_n hx hb d_law_281 rfl (lv_at hl 0 rfl) ?_
        refine lv_iconst (v := J (1)) hx hb d_law_282 rfl ?_
        refine y_iadd hx hb d_law_283 ?_
        refine y_sld hx hb hXs hbl hbA hS (6 * t + 1) (by omega) (by omega) (by omega) d_law_284 ?_
        refine lv_aload_n hx hb d_law_285 rfl (lv_at hl 3 rfl) ?_
        refine lv_iload_n hx hb d_law_286 rfl (lv_at hl 0 rfl) ?_
        refine lv_iconst (v := J (2)) hx hb d_law_287 rfl ?_
        refine y_iadd hx hb d_law_288 ?_
        refine y_sld hx hb hXs hbl hbA hS (6 * t + 2) (by omega) (by omega) (by omega) d_law_289 ?_
        refine l_cgP (y_runV (As := [.int (J ((xs (6 * t + 1)).toInt)), .int (J ((xs (6 * t + 2)).toInt))]) (rest := []) ⟨hx, hb, hml, hown, hts2⟩ (c_P_alter l G z σ ns no h.D.n2 h.D.o2 h.D.a h.D.c h.hBs h.c5 (xs (6 * t + 1)).toInt (xs (6 * t + 2)).toInt (jr_x _) (jr_x _)) 2 k_co_P_alter k_ml_Law_37 k_im_P_alter k_se_P_alter k_in_P rfl rfl (by decide +kernel) ⟨Nat.le_of_ble_eq_true rfl, Nat.le_of_ble_eq_true rfl⟩ (yPv (yK_bl G) (yK_mv G) hK hK.1 hP (by omega) lay_0 rfl (by omega) (by omega)) rfl hl.1 rfl (Nat.le_of_ble_eq_true rfl) d_law_290 ⟨Nat.le_of_ble_eq_true rfl, Nat.le_of_ble_eq_true rfl⟩) hS (fun _ h9 => h9) hM (fun vP σ1 H locs hpP hP hM hS => ?_)
        refine lv_aload_n hx hb d_law_293 rfl (lv_at hl 1 rfl) ?_
        refine lv_aload_n hx hb d_law_294 rfl (lv_at hl 3 rfl) ?_
        refine lv_iload_n hx hb d_law_295 rfl (lv_at hl 0 rfl) ?_
        refine lv_iconst (v := J (1)) hx hb d_law_296 rfl ?_
        refine y_iadd hx hb d_law_297 ?_
        refine y_sld hx hb hXs hbl hbA hS (6 * t + 1) (by omega) (by omega) (by omega) d_law_298 ?_
        refine lv_aload_n hx hb d_law_299 rfl (lv_at hl 3 rfl) ?_
        refine lv_iload_n hx hb d_law_300 rfl (lv_at hl 0 rfl) ?_
        refine lv_iconst (v := J (2)) hx hb d_law_301 rfl ?_
        refine y_iadd hx hb d_law_302 ?_
        refine y_sld hx hb hXs hbl hbA hS (6 * t + 2) (by omega) (by omega) (by omega) d_law_303 ?_
        refine l_cgM (y_runV (As := [.int (J ((xs (6 * t + 1)).toInt)), .int (J ((xs (6 * t + 2)).toInt))]) (rest := [.int (J (vP))]) ⟨hx, hb, hml, hown, hts2⟩ (c_M_alter l G (z + 73) τ ns no h.D.n2 h.D.o2 h.D.b h.D.d (xs (6 * t + 1)).toInt (xs (6 * t + 2)).toInt (jr_x _) (jr_x _)) 2 k_co_M_alter k_ml_Law_41 k_im_M_alter k_se_M_alter k_in_M rfl rfl (by decide +kernel) ⟨Nat.le_of_ble_eq_true rfl, Nat.le_of_ble_eq_true rfl⟩ (yPv (yK_bl G) (yK_mv G) hK hK.1 hM (by omega) laym_0 rfl (by omega) (by omega)) rfl hl.1 rfl (Nat.le_of_ble_eq_true rfl) d_law_304 ⟨Nat.le_of_ble_eq_true rfl, Nat.le_of_ble_eq_true rfl⟩) hS (fun _ h9 => h9) hP (fun vM τ1 H locs hpM hP hM hS => ?_)
        obtain ⟨hE, hRX1⟩ := h.u_alter hpP hpM
        refine lv_icmp_eq (tgt := 555) hx hb d_law_307 (by decide) (fun _ => ?_) (fun hne => absurd (congrArg J hE) hne)
        exact main _ _ hRX1 ls H locs hP hM hS hl
      by_cases hs33_6 : n33 = 6
      · skip
        refine lv_tableIn (tgt := 312) (off := 279) hx hb d_law_33 (by rw [J_toInt hn33, hs33_6]; decide) (by rw [J_toInt hn33, hs33_6]; decide) (by rw [J_toInt hn33, hs33_6]; rfl) (by decide) ?_
        refine lv_aload_n hx hb d_law_312 rfl (lv_at hl 2 rfl) ?_
        refine l_cgP (y_runV (As := []) (rest := []) ⟨hx, hb, hml, hown, hts2⟩ (c_P_connect l G z σ nk h.K.n h.K.a fl h.B.fl16 h.B.fla nb h.B.n h.B.a sc h.B.s h.nr ns no h.D.n2 h.D.o2 h.D.a h.D.c h.ht h.hsw h.how h.hemp h.hrt h.hBs h.hn2 (fun j => τ 3 (τ 4 j).toNat) (fun j => (τ 5 j).toNat) h.hsd (fun j => τ 3 (τ 12 j).toNat) h.hoa (τ 0 22) h.D.bal h.D.balr (fun j => 1281 * τ 6 j + 1369 * τ 8 j) (fun j => 1281 * τ 13 j + 1369 * τ 15 j) (τ 17) (fun j hj => (h.D.sp j hj).cv) (fun j hj => (h.D.ou j hj).cv) (fun j hj => (h.D.ou j hj).e) h.hov h.con_r (lfm τ fl) (lfm_rng h.T.lr) h.lzT (fun k => (τ 3 k).toNat) h.hsec) 0 k_co_P_connect k_ml_Law_42 k_im_P_connect k_se_P_connect k_in_P rfl rfl (by decide +kernel) ⟨Nat.le_of_ble_eq_true rfl, Nat.le_of_ble_eq_true rfl⟩ (yPv (yK_bl G) (yK_mv G) hK hK.1 hP (by omega) lay_0 rfl (by omega) (by omega)) rfl hl.1 rfl (Nat.le_of_ble_eq_true rfl) d_law_313 ⟨Nat.le_of_ble_eq_true rfl, Nat.le_of_ble_eq_true rfl⟩) hS (fun _ h9 => h9) hM (fun vP σ1 H locs hpP hP hM hS => ?_)
        refine lv_aload_n hx hb d_law_316 rfl (lv_at hl 1 rfl) ?_
        refine l_cgM (y_runV (As := []) (rest := [.int (J (vP))]) ⟨hx, hb, hml, hown, hts2⟩ (c_M_connect l G (z + 73) τ h.hTb nb h.B.n h.B.b fl h.B.fl16 h.flm up h.hup h.hsh ns no h.D.n2 h.D.o2 h.D.b h.D.d h.D.tur (fun j hj => (h.D.sp j hj).wr) (fun j hj => (h.D.ou j hj).wr) (fun j hj => (h.D.sp j hj).vr) (fun j hj => (h.D.ou j hj).vr) h.D.balr (fun j => (τ 4 j).toNat) (fun j => (τ 5 j).toNat) h.msd (fun j hj => jr_of (h.D.m10 j hj) (by decide)) (fun j => (τ 12 j).toNat) h.mod_ h.pl) 0 k_co_M_connect k_ml_Law_46 k_im_M_connect k_se_M_connect k_in_M rfl rfl (by decide +kernel) ⟨Nat.le_of_ble_eq_true rfl, Nat.le_of_ble_eq_true rfl⟩ (yPv (yK_bl G) (yK_mv G) hK hK.1 hM (by omega) laym_0 rfl (by omega) (by omega)) rfl hl.1 rfl (Nat.le_of_ble_eq_true rfl) d_law_317 ⟨Nat.le_of_ble_eq_true rfl, Nat.le_of_ble_eq_true rfl⟩) hS (fun _ h9 => h9) hP (fun vM τ1 H locs hpM hP hM hS => ?_)
        obtain ⟨hE, hRX1⟩ := h.u_connect hpP hpM
        refine lv_icmp_eq (tgt := 555) hx hb d_law_320 (by decide) (fun _ => ?_) (fun hne => absurd (congrArg J hE) hne)
        exact main _ _ hRX1 ls H locs hP hM hS hl
      by_cases hs33_7 : n33 = 7
      · skip
        refine lv_tableIn (tgt := 325) (off := 292) hx hb d_law_33 (by rw [J_toInt hn33, hs33_7]; decide) (by rw [J_toInt hn33, hs33_7]; decide) (by rw [J_toInt hn33, hs33_7]; rfl) (by decide) ?_
        refine lv_aload_n hx hb d_law_325 rfl (lv_at hl 2 rfl) ?_
        refine l_cgP (y_runV (As := []) (rest := []) ⟨hx, hb, hml, hown, hts2⟩ (c_P_disconnect l G z σ h.hBs nb h.B.n h.B.a fl h.B.fl16 h.B.fla (lfm τ fl) (lfm_rng h.T.lr) h.lzT (fun m => up m - (if m = 0 then 0 else up (m - 1))) h.hoc) 0 k_co_P_disconnect k_ml_Law_47 k_im_P_disconnect k_se_P_disconnect k_in_P rfl rfl (by decide +kernel) ⟨Nat.le_of_ble_eq_true rfl, Nat.le_of_ble_eq_true rfl⟩ (yPv (yK_bl G) (yK_mv G) hK hK.1 hP (by omega) lay_0 rfl (by omega) (by omega)) rfl hl.1 rfl (Nat.le_of_ble_eq_true rfl) d_law_326 ⟨Nat.le_of_ble_eq_true rfl, Nat.le_of_ble_eq_true rfl⟩) hS (fun _ h9 => h9) hM (fun vP σ1 H locs hpP hP hM hS => ?_)
        refine lv_aload_n hx hb d_law_329 rfl (lv_at hl 1 rfl) ?_
        refine l_cgM (y_runV (As := []) (rest := [.int (J (vP))]) ⟨hx, hb, hml, hown, hts2⟩ (c_M_disconnect l G (z + 73) τ nb h.B.n h.B.b) 0 k_co_M_disconnect k_ml_Law_50 k_im_M_disconnect k_se_M_disconnect k_in_M rfl rfl (by decide +kernel) ⟨Nat.le_of_ble_eq_true rfl, Nat.le_of_ble_eq_true rfl⟩ (yPv (yK_bl G) (yK_mv G) hK hK.1 hM (by omega) laym_0 rfl (by omega) (by omega)) rfl hl.1 rfl (Nat.le_of_ble_eq_true rfl) d_law_330 ⟨Nat.le_of_ble_eq_true rfl, Nat.le_of_ble_eq_true rfl⟩) hS (fun _ h9 => h9) hP (fun vM τ1 H locs hpM hP hM hS => ?_)
        obtain ⟨hE, hRX1⟩ := h.u_disconnect hpP hpM
        refine lv_icmp_eq (tgt := 555) hx hb d_law_333 (by decide) (fun _ => ?_) (fun hne => absurd (congrArg J hE) hne)
        exact main _ _ hRX1 ls H locs hP hM hS hl
      by_cases hs33_8 : n33 = 8
      · skip
        refine lv_tableIn (tgt := 338) (off := 305) hx hb d_law_33 (by rw [J_toInt hn33, hs33_8]; decide) (by rw [J_toInt hn33, hs33_8]; decide) (by rw [J_toInt hn33, hs33_8]; rfl) (by decide) ?_
        refine lv_aload_n hx hb d_law_338 rfl (lv_at hl 2 rfl) ?_
        refine l_ci (y_runV (As := []) (rest := []) ⟨hx, hb, hml, hown, hts2⟩ (c_P_blocks l G z σ) 0 k_co_P_blocks k_ml_Law_51 k_im_P_blocks k_se_P_blocks k_in_P rfl rfl (by decide +kernel) ⟨Nat.le_of_ble_eq_true rfl, Nat.le_of_ble_eq_true rfl⟩ (yPv (yK_bl G) (yK_mv G) hK hK.1 hP (by omega) lay_0 rfl (by omega) (by omega)) rfl hl.1 rfl (Nat.le_of_ble_eq_true rfl) d_law_339 ⟨Nat.le_of_ble_eq_true rfl, Nat.le_of_ble_eq_true rfl⟩) hS hP hM (fun H locs hP hM hS => ?_)
        refine lv_aload_n hx hb d_law_342 rfl (lv_at hl 1 rfl) ?_
        refine l_ci (y_runV (As := []) (rest := [_]) ⟨hx, hb, hml, hown, hts2⟩ (c_M_blocks l G (z + 73) τ) 0 k_co_M_blocks k_ml_Law_54 k_im_M_blocks k_se_M_blocks k_in_M rfl rfl (by decide +kernel) ⟨Nat.le_of_ble_eq_true rfl, Nat.le_of_ble_eq_true rfl⟩ (yPv (yK_bl G) (yK_mv G) hK hK.1 hM (by omega) laym_0 rfl (by omega) (by omega)) rfl hl.1 rfl (Nat.le_of_ble_eq_true rfl) d_law_343 ⟨Nat.le_of_ble_eq_true rfl, Nat.le_of_ble_eq_true rfl⟩) hS hP hM (fun H locs hP hM hS => ?_)
        refine lv_icmp_eq (tgt := 555) hx hb d_law_346 (by decide) (fun _ => ?_) (fun hne => absurd (congrArg J (h.B.a.trans h.B.b.symm)) hne)
        exact main _ _ ⟨nk, nb, fl, ns, no, up, sc, h⟩ ls H locs hP hM hS hl
      by_cases hs33_9 : n33 = 9
      · skip
        refine lv_tableIn (tgt := 351) (off := 318) hx hb d_law_33 (by rw [J_toInt hn33, hs33_9]; decide) (by rw [J_toInt hn33, hs33_9]; decide) (by rw [J_toInt hn33, hs33_9]; rfl) (by decide) ?_
        refine lv_aload_n hx hb d_law_351 rfl (lv_at hl 2 rfl) ?_
        refine l_ci (y_runV (As := []) (rest := []) ⟨hx, hb, hml, hown, hts2⟩ (c_P_leaves l G z σ) 0 k_co_P_leaves k_ml_Law_55 k_im_P_leaves k_se_P_leaves k_in_P rfl rfl (by decide +kernel) ⟨Nat.le_of_ble_eq_true rfl, Nat.le_of_ble_eq_true rfl⟩ (yPv (yK_bl G) (yK_mv G) hK hK.1 hP (by omega) lay_0 rfl (by omega) (by omega)) rfl hl.1 rfl (Nat.le_of_ble_eq_true rfl) d_law_352 ⟨Nat.le_of_ble_eq_true rfl, Nat.le_of_ble_eq_true rfl⟩) hS hP hM (fun H locs hP hM hS => ?_)
        refine lv_aload_n hx hb d_law_355 rfl (lv_at hl 1 rfl) ?_
        refine l_ci (y_runV (As := []) (rest := [_]) ⟨hx, hb, hml, hown, hts2⟩ (c_M_leaves l G (z + 73) τ nb h.B.n h.B.b) 0 k_co_M_leaves k_ml_Law_58 k_im_M_leaves k_se_M_leaves k_in_M rfl rfl (by decide +kernel) ⟨Nat.le_of_ble_eq_true rfl, Nat.le_of_ble_eq_true rfl⟩ (yPv (yK_bl G) (yK_mv G) hK hK.1 hM (by omega) laym_0 rfl (by omega) (by omega)) rfl hl.1 rfl (Nat.le_of_ble_eq_true rfl) d_law_356 ⟨Nat.le_of_ble_eq_true rfl, Nat.le_of_ble_eq_true rfl⟩) hS hP hM (fun H locs hP hM hS => ?_)
        refine lv_icmp_eq (tgt := 555) hx hb d_law_359 (by decide) (fun _ => ?_) (fun hne => absurd (congrArg J (h.B.fla.trans h.flm.symm)) hne)
        exact main _ _ ⟨nk, nb, fl, ns, no, up, sc, h⟩ ls H locs hP hM hS hl
      by_cases hs33_10 : n33 = 10
      · skip
        refine lv_tableIn (tgt := 364) (off := 331) hx hb d_law_33 (by rw [J_toInt hn33, hs33_10]; decide) (by rw [J_toInt hn33, hs33_10]; decide) (by rw [J_toInt hn33, hs33_10]; rfl) (by decide) ?_
        refine lv_aload_n hx hb d_law_364 rfl (lv_at hl 2 rfl) ?_
        refine lv_aload_n hx hb d_law_365 rfl (lv_at hl 3 rfl) ?_
        refine lv_iload_n hx hb d_law_366 rfl (lv_at hl 0 rfl) ?_
        refine lv_iconst (v := J (1)) hx hb d_law_367 rfl ?_
        refine y_iadd hx hb d_law_368 ?_
        refine y_sld hx hb hXs hbl hbA hS (6 * t + 1) (by omega) (by omega) (by omega) d_law_369 ?_
        refine lv_aload_n hx hb d_law_370 rfl (lv_at hl 3 rfl) ?_
        refine lv_iload_n hx hb d_law_371 rfl (lv_at hl 0 rfl) ?_
        refine lv_iconst (v := J (2)) hx hb d_law_372 rfl ?_
        refine y_iadd hx hb d_law_373 ?_
        refine y_sld hx hb hXs hbl hbA hS (6 * t + 2) (by omega) (by omega) (by omega) d_law_374 ?_
        refine l_ci (y_runV (As := [.int (J ((xs (6 * t + 1)).toInt)), .int (J ((xs (6 * t + 2)).toInt))]) (rest := []) ⟨hx, hb, hml, hown, hts2⟩ (c_P_node l G z σ (xs (6 * t + 1)).toInt (xs (6 * t + 2)).toInt (jr_x _) (jr_x _)) 2 k_co_P_node k_ml_Law_59 k_im_P_node k_se_P_node k_in_P rfl rfl (by decide +kernel) ⟨Nat.le_of_ble_eq_true rfl, Nat.le_of_ble_eq_true rfl⟩ (yPv (yK_bl G) (yK_mv G) hK hK.1 hP (by omega) lay_0 rfl (by omega) (by omega)) rfl hl.1 rfl (Nat.le_of_ble_eq_true rfl) d_law_375 ⟨Nat.le_of_ble_eq_true rfl, Nat.le_of_ble_eq_true rfl⟩) hS hP hM (fun H locs hP hM hS => ?_)
        refine lv_aload_n hx hb d_law_378 rfl (lv_at hl 1 rfl) ?_
        refine lv_aload_n hx hb d_law_379 rfl (lv_at hl 3 rfl) ?_
        refine lv_iload_n hx hb d_law_380 rfl (lv_at hl 0 rfl) ?_
        refine lv_iconst (v := J (1)) hx hb d_law_381 rfl ?_
        refine y_iadd hx hb d_law_382 ?_
        refine y_sld hx hb hXs hbl hbA hS (6 * t + 1) (by omega) (by omega) (by omega) d_law_383 ?_
        refine lv_aload_n hx hb d_law_384 rfl (lv_at hl 3 rfl) ?_
        refine lv_iload_n hx hb d_law_385 rfl (lv_at hl 0 rfl) ?_
        refine lv_iconst (v := J (2)) hx hb d_law_386 rfl ?_
        refine y_iadd hx hb d_law_387 ?_
        refine y_sld hx hb hXs hbl hbA hS (6 * t + 2) (by omega) (by omega) (by omega) d_law_388 ?_
        refine l_cgM (y_runV (As := [.int (J ((xs (6 * t + 1)).toInt)), .int (J ((xs (6 * t + 2)).toInt))]) (rest := [_]) ⟨hx, hb, hml, hown, hts2⟩ (c_M_node l G (z + 73) τ h.hTb nb h.B.n h.B.b fl h.B.fl16 h.flm h.T.lr (xs (6 * t + 1)).toInt (xs (6 * t + 2)).toInt (jr_x _) (jr_x _)) 2 k_co_M_node k_ml_Law_63 k_im_M_node k_se_M_node k_in_M rfl rfl (by decide +kernel) ⟨Nat.le_of_ble_eq_true rfl, Nat.le_of_ble_eq_true rfl⟩ (yPv (yK_bl G) (yK_mv G) hK hK.1 hM (by omega) laym_0 rfl (by omega) (by omega)) rfl hl.1 rfl (Nat.le_of_ble_eq_true rfl) d_law_389 ⟨Nat.le_of_ble_eq_true rfl, Nat.le_of_ble_eq_true rfl⟩) hS (fun _ h9 => h9) hP (fun vM τ1 H locs hpM hP hM hS => ?_)
        refine lv_icmp_eq (tgt := 555) hx hb d_law_392 (by decide) (fun _ => ?_) (fun hne => absurd (congrArg J ((h.q_node _ _).trans hpM.1.symm)) hne)
        exact main _ _ ⟨nk, nb, fl, ns, no, up, sc, h.row hpM.2⟩ ls H locs hP hM hS hl
      by_cases hs33_11 : n33 = 11
      · skip
        refine lv_tableIn (tgt := 397) (off := 364) hx hb d_law_33 (by rw [J_toInt hn33, hs33_11]; decide) (by rw [J_toInt hn33, hs33_11]; decide) (by rw [J_toInt hn33, hs33_11]; rfl) (by decide) ?_
        refine lv_aload_n hx hb d_law_397 rfl (lv_at hl 2 rfl) ?_
        refine l_ci (y_runV (As := []) (rest := []) ⟨hx, hb, hml, hown, hts2⟩ (c_P_pool l G z σ) 0 k_co_P_pool k_ml_Law_64 k_im_P_pool k_se_P_pool k_in_P rfl rfl (by decide +kernel) ⟨Nat.le_of_ble_eq_true rfl, Nat.le_of_ble_eq_true rfl⟩ (yPv (yK_bl G) (yK_mv G) hK hK.1 hP (by omega) lay_0 rfl (by omega) (by omega)) rfl hl.1 rfl (Nat.le_of_ble_eq_true rfl) d_law_398 ⟨Nat.le_of_ble_eq_true rfl, Nat.le_of_ble_eq_true rfl⟩) hS hP hM (fun H locs hP hM hS => ?_)
        refine lv_aload_n hx hb d_law_401 rfl (lv_at hl 1 rfl) ?_
        refine l_ci (y_runV (As := []) (rest := [_]) ⟨hx, hb, hml, hown, hts2⟩ (c_M_pool l G (z + 73) τ nb h.B.n h.B.b) 0 k_co_M_pool k_ml_Law_67 k_im_M_pool k_se_M_pool k_in_M rfl rfl (by decide +kernel) ⟨Nat.le_of_ble_eq_true rfl, Nat.le_of_ble_eq_true rfl⟩ (yPv (yK_bl G) (yK_mv G) hK hK.1 hM (by omega) laym_0 rfl (by omega) (by omega)) rfl hl.1 rfl (Nat.le_of_ble_eq_true rfl) d_law_402 ⟨Nat.le_of_ble_eq_true rfl, Nat.le_of_ble_eq_true rfl⟩) hS hP hM (fun H locs hP hM hS => ?_)
        refine lv_icmp_eq (tgt := 555) hx hb d_law_405 (by decide) (fun _ => ?_) (fun hne => absurd (congrArg J (h.B.con)) hne)
        exact main _ _ ⟨nk, nb, fl, ns, no, up, sc, h⟩ ls H locs hP hM hS hl
      by_cases hs33_12 : n33 = 12
      · skip
        refine lv_tableIn (tgt := 410) (off := 377) hx hb d_law_33 (by rw [J_toInt hn33, hs33_12]; decide) (by rw [J_toInt hn33, hs33_12]; decide) (by rw [J_toInt hn33, hs33_12]; rfl) (by decide) ?_
        refine lv_aload_n hx hb d_law_410 rfl (lv_at hl 2 rfl) ?_
        refine lv_aload_n hx hb d_law_411 rfl (lv_at hl 3 rfl) ?_
        refine lv_iload_n hx hb d_law_412 rfl (lv_at hl 0 rfl) ?_
        refine lv_iconst (v := J (1)) hx hb d_law_413 rfl ?_
        refine y_iadd hx hb d_law_414 ?_
        refine y_sld hx hb hXs hbl hbA hS (6 * t + 1) (by omega) (by omega) (by omega) d_law_415 ?_
        refine l_ci (y_runV (As := [.int (J ((xs (6 * t + 1)).toInt))]) (rest := []) ⟨hx, hb, hml, hown, hts2⟩ (c_P_revealed l G z σ nb h.B.n h.B.a sc h.B.s h.nr (xs (6 * t + 1)).toInt (jr_x _)) 1 k_co_P_revealed k_ml_Law_68 k_im_P_revealed k_se_P_revealed k_in_P rfl rfl (by decide +kernel) ⟨Nat.le_of_ble_eq_true rfl, Nat.le_of_ble_eq_true rfl⟩ (yPv (yK_bl G) (yK_mv G) hK hK.1 hP (by omega) lay_0 rfl (by omega) (by omega)) rfl hl.1 rfl (Nat.le_of_ble_eq_true rfl) d_law_416 ⟨Nat.le_of_ble_eq_true rfl, Nat.le_of_ble_eq_true rfl⟩) hS hP hM (fun H locs hP hM hS => ?_)
        refine lv_aload_n hx hb d_law_419 rfl (lv_at hl 1 rfl) ?_
        refine lv_aload_n hx hb d_law_420 rfl (lv_at hl 3 rfl) ?_
        refine lv_iload_n hx hb d_law_421 rfl (lv_at hl 0 rfl) ?_
        refine lv_iconst (v := J (1)) hx hb d_law_422 rfl ?_
        refine y_iadd hx hb d_law_423 ?_
        refine y_sld hx hb hXs hbl hbA hS (6 * t + 1) (by omega) (by omega) (by omega) d_law_424 ?_
        refine l_ci (y_runV (As := [.int (J ((xs (6 * t + 1)).toInt))]) (rest := [_]) ⟨hx, hb, hml, hown, hts2⟩ (c_M_revealed l G (z + 73) τ nb h.B.n h.B.b (xs (6 * t + 1)).toInt (jr_x _) h.hsh) 1 k_co_M_revealed k_ml_Law_71 k_im_M_revealed k_se_M_revealed k_in_M rfl rfl (by decide +kernel) ⟨Nat.le_of_ble_eq_true rfl, Nat.le_of_ble_eq_true rfl⟩ (yPv (yK_bl G) (yK_mv G) hK hK.1 hM (by omega) laym_0 rfl (by omega) (by omega)) rfl hl.1 rfl (Nat.le_of_ble_eq_true rfl) d_law_425 ⟨Nat.le_of_ble_eq_true rfl, Nat.le_of_ble_eq_true rfl⟩) hS hP hM (fun H locs hP hM hS => ?_)
        refine lv_icmp_eq (tgt := 555) hx hb d_law_428 (by decide) (fun _ => ?_) (fun hne => absurd (congrArg J (b01_c (h.rev _))) hne)
        exact main _ _ ⟨nk, nb, fl, ns, no, up, sc, h⟩ ls H locs hP hM hS hl
      by_cases hs33_13 : n33 = 13
      · skip
        refine lv_tableIn (tgt := 433) (off := 400) hx hb d_law_33 (by rw [J_toInt hn33, hs33_13]; decide) (by rw [J_toInt hn33, hs33_13]; decide) (by rw [J_toInt hn33, hs33_13]; rfl) (by decide) ?_
        refine lv_aload_n hx hb d_law_433 rfl (lv_at hl 2 rfl) ?_
        refine lv_aload_n hx hb d_law_434 rfl (lv_at hl 3 rfl) ?_
        refine lv_iload_n hx hb d_law_435 rfl (lv_at hl 0 rfl) ?_
        refine lv_iconst (v := J (1)) hx hb d_law_436 rfl ?_
        refine y_iadd hx hb d_law_437 ?_
        refine y_sld hx hb hXs hbl hbA hS (6 * t + 1) (by omega) (by omega) (by omega) d_law_438 ?_
        refine lv_aload_n hx hb d_law_439 rfl (lv_at hl 3 rfl) ?_
        refine lv_iload_n hx hb d_law_440 rfl (lv_at hl 0 rfl) ?_
        refine lv_iconst (v := J (2)) hx hb d_law_441 rfl ?_
        refine y_iadd hx hb d_law_442 ?_
        refine y_sld hx hb hXs hbl hbA hS (6 * t + 2) (by omega) (by omega) (by omega) d_law_443 ?_
        refine lv_aload_n hx hb d_law_444 rfl (lv_at hl 3 rfl) ?_
        refine lv_iload_n hx hb d_law_445 rfl (lv_at hl 0 rfl) ?_
        refine lv_iconst (v := J (3)) hx hb d_law_446 rfl ?_
        refine y_iadd hx hb d_law_447 ?_
        refine y_sld hx hb hXs hbl hbA hS (6 * t + 3) (by omega) (by omega) (by omega) d_law_448 ?_
        refine l_ci (y_runV (As := [.int (J ((xs (6 * t + 1)).toInt)), .int (J ((xs (6 * t + 2)).toInt)), .int (J ((xs (6 * t + 3)).toInt))]) (rest := []) ⟨hx, hb, hml, hown, hts2⟩ (c_P_note l G z σ nk h.K.n h.K.a fl h.B.fl16 h.B.fla h.fnd nb h.B.n h.B.a sc h.B.s h.nr h.nul (xs (6 * t + 1)).toInt (xs (6 * t + 2)).toInt (xs (6 * t + 3)).toInt (jr_x _) (jr_x _) (jr_x _)) 3 k_co_P_note k_ml_Law_72 k_im_P_note k_se_P_note k_in_P rfl rfl (by decide +kernel) ⟨Nat.le_of_ble_eq_true rfl, Nat.le_of_ble_eq_true rfl⟩ (yPv (yK_bl G) (yK_mv G) hK hK.1 hP (by omega) lay_0 rfl (by omega) (by omega)) rfl hl.1 rfl (Nat.le_of_ble_eq_true rfl) d_law_449 ⟨Nat.le_of_ble_eq_true rfl, Nat.le_of_ble_eq_true rfl⟩) hS hP hM (fun H locs hP hM hS => ?_)
        refine lv_aload_n hx hb d_law_452 rfl (lv_at hl 1 rfl) ?_
        refine lv_aload_n hx hb d_law_453 rfl (lv_at hl 3 rfl) ?_
        refine lv_iload_n hx hb d_law_454 rfl (lv_at hl 0 rfl) ?_
        refine lv_iconst (v := J (1)) hx hb d_law_455 rfl ?_
        refine y_iadd hx hb d_law_456 ?_
        refine y_sld hx hb hXs hbl hbA hS (6 * t + 1) (by omega) (by omega) (by omega) d_law_457 ?_
        refine lv_aload_n hx hb d_law_458 rfl (lv_at hl 3 rfl) ?_
        refine lv_iload_n hx hb d_law_459 rfl (lv_at hl 0 rfl) ?_
        refine lv_iconst (v := J (2)) hx hb d_law_460 rfl ?_
        refine y_iadd hx hb d_law_461 ?_
        refine y_sld hx hb hXs hbl hbA hS (6 * t + 2) (by omega) (by omega) (by omega) d_law_462 ?_
        refine lv_aload_n hx hb d_law_463 rfl (lv_at hl 3 rfl) ?_
        refine lv_iload_n hx hb d_law_464 rfl (lv_at hl 0 rfl) ?_
        refine lv_iconst (v := J (3)) hx hb d_law_465 rfl ?_
        refine y_iadd hx hb d_law_466 ?_
        refine y_sld hx hb hXs hbl hbA hS (6 * t + 3) (by omega) (by omega) (by omega) d_law_467 ?_
        refine l_ci (y_runV (As := [.int (J ((xs (6 * t + 1)).toInt)), .int (J ((xs (6 * t + 2)).toInt)), .int (J ((xs (6 * t + 3)).toInt))]) (rest := [_]) ⟨hx, hb, hml, hown, hts2⟩ (c_M_note l G (z + 73) τ h.hTb nk h.K.n h.K.b nb h.B.n h.B.b fl h.B.fl16 h.flm h.T.lr h.K.sec h.T.ld h.hsh (xs (6 * t + 1)).toInt (xs (6 * t + 2)).toInt (xs (6 * t + 3)).toInt (jr_x _) (jr_x _) (jr_x _)) 3 k_co_M_note k_ml_Law_76 k_im_M_note k_se_M_note k_in_M rfl rfl (by decide +kernel) ⟨Nat.le_of_ble_eq_true rfl, Nat.le_of_ble_eq_true rfl⟩ (yPv (yK_bl G) (yK_mv G) hK hK.1 hM (by omega) laym_0 rfl (by omega) (by omega)) rfl hl.1 rfl (Nat.le_of_ble_eq_true rfl) d_law_468 ⟨Nat.le_of_ble_eq_true rfl, Nat.le_of_ble_eq_true rfl⟩) hS hP hM (fun H locs hP hM hS => ?_)
        refine lv_icmp_eq (tgt := 555) hx hb d_law_471 (by decide) (fun _ => ?_) (fun hne => absurd (congrArg J (h.q_note _ _ _)) hne)
        exact main _ _ ⟨nk, nb, fl, ns, no, up, sc, h⟩ ls H locs hP hM hS hl
      by_cases hs33_14 : n33 = 14
      · skip
        refine lv_tableIn (tgt := 476) (off := 443) hx hb d_law_33 (by rw [J_toInt hn33, hs33_14]; decide) (by rw [J_toInt hn33, hs33_14]; decide) (by rw [J_toInt hn33, hs33_14]; rfl) (by decide) ?_
        refine lv_aload_n hx hb d_law_476 rfl (lv_at hl 2 rfl) ?_
        refine lv_aload_n hx hb d_law_477 rfl (lv_at hl 3 rfl) ?_
        refine lv_iload_n hx hb d_law_478 rfl (lv_at hl 0 rfl) ?_
        refine lv_iconst (v := J (1)) hx hb d_law_479 rfl ?_
        refine y_iadd hx hb d_law_480 ?_
        refine y_sld hx hb hXs hbl hbA hS (6 * t + 1) (by omega) (by omega) (by omega) d_law_481 ?_
        refine l_ci (y_runV (As := [.int (J ((xs (6 * t + 1)).toInt))]) (rest := []) ⟨hx, hb, hml, hown, hts2⟩ (c_P_total l G z σ nk h.K.n h.K.a fl h.B.fl16 h.B.fla h.fnd nb h.B.n h.B.a sc h.B.s h.nr h.nul (xs (6 * t + 1)).toInt (jr_x _)) 1 k_co_P_total k_ml_Law_77 k_im_P_total k_se_P_total k_in_P rfl rfl (by decide +kernel) ⟨Nat.le_of_ble_eq_true rfl, Nat.le_of_ble_eq_true rfl⟩ (yPv (yK_bl G) (yK_mv G) hK hK.1 hP (by omega) lay_0 rfl (by omega) (by omega)) rfl hl.1 rfl (Nat.le_of_ble_eq_true rfl) d_law_482 ⟨Nat.le_of_ble_eq_true rfl, Nat.le_of_ble_eq_true rfl⟩) hS hP hM (fun H locs hP hM hS => ?_)
        refine lv_aload_n hx hb d_law_485 rfl (lv_at hl 1 rfl) ?_
        refine lv_aload_n hx hb d_law_486 rfl (lv_at hl 3 rfl) ?_
        refine lv_iload_n hx hb d_law_487 rfl (lv_at hl 0 rfl) ?_
        refine lv_iconst (v := J (1)) hx hb d_law_488 rfl ?_
        refine y_iadd hx hb d_law_489 ?_
        refine y_sld hx hb hXs hbl hbA hS (6 * t + 1) (by omega) (by omega) (by omega) d_law_490 ?_
        refine l_ci (y_runV (As := [.int (J ((xs (6 * t + 1)).toInt))]) (rest := [_]) ⟨hx, hb, hml, hown, hts2⟩ (c_M_total l G (z + 73) τ h.hTb nk h.K.n h.K.b nb h.B.n h.B.b fl h.B.fl16 h.flm h.T.lr h.K.sec h.T.ld h.hsh (xs (6 * t + 1)).toInt (jr_x _)) 1 k_co_M_total k_ml_Law_80 k_im_M_total k_se_M_total k_in_M rfl rfl (by decide +kernel) ⟨Nat.le_of_ble_eq_true rfl, Nat.le_of_ble_eq_true rfl⟩ (yPv (yK_bl G) (yK_mv G) hK hK.1 hM (by omega) laym_0 rfl (by omega) (by omega)) rfl hl.1 rfl (Nat.le_of_ble_eq_true rfl) d_law_491 ⟨Nat.le_of_ble_eq_true rfl, Nat.le_of_ble_eq_true rfl⟩) hS hP hM (fun H locs hP hM hS => ?_)
        refine lv_icmp_eq (tgt := 555) hx hb d_law_494 (by decide) (fun _ => ?_) (fun hne => absurd (congrArg J (h.q_total _)) hne)
        exact main _ _ ⟨nk, nb, fl, ns, no, up, sc, h⟩ ls H locs hP hM hS hl
      by_cases hs33_15 : n33 = 15
      · skip
        refine lv_tableIn (tgt := 499) (off := 466) hx hb d_law_33 (by rw [J_toInt hn33, hs33_15]; decide) (by rw [J_toInt hn33, hs33_15]; decide) (by rw [J_toInt hn33, hs33_15]; rfl) (by decide) ?_
        refine lv_aload_n hx hb d_law_499 rfl (lv_at hl 2 rfl) ?_
        refine lv_aload_n hx hb d_law_500 rfl (lv_at hl 3 rfl) ?_
        refine lv_iload_n hx hb d_law_501 rfl (lv_at hl 0 rfl) ?_
        refine lv_iconst (v := J (1)) hx hb d_law_502 rfl ?_
        refine y_iadd hx hb d_law_503 ?_
        refine y_sld hx hb hXs hbl hbA hS (6 * t + 1) (by omega) (by omega) (by omega) d_law_504 ?_
        refine lv_aload_n hx hb d_law_505 rfl (lv_at hl 3 rfl) ?_
        refine lv_iload_n hx hb d_law_506 rfl (lv_at hl 0 rfl) ?_
        refine lv_iconst (v := J (2)) hx hb d_law_507 rfl ?_
        refine y_iadd hx hb d_law_508 ?_
        refine y_sld hx hb hXs hbl hbA hS (6 * t + 2) (by omega) (by omega) (by omega) d_law_509 ?_
        refine l_ci (y_runV (As := [.int (J ((xs (6 * t + 1)).toInt)), .int (J ((xs (6 * t + 2)).toInt))]) (rest := []) ⟨hx, hb, hml, hown, hts2⟩ (c_P_address l G z σ nk h.K.n h.K.a (τ 3) h.K.s1 (xs (6 * t + 1)).toInt (xs (6 * t + 2)).toInt (jr_x _) (jr_x _)) 2 k_co_P_address k_ml_Law_81 k_im_P_address k_se_P_address k_in_P rfl rfl (by decide +kernel) ⟨Nat.le_of_ble_eq_true rfl, Nat.le_of_ble_eq_true rfl⟩ (yPv (yK_bl G) (yK_mv G) hK hK.1 hP (by omega) lay_0 rfl (by omega) (by omega)) rfl hl.1 rfl (Nat.le_of_ble_eq_true rfl) d_law_510 ⟨Nat.le_of_ble_eq_true rfl, Nat.le_of_ble_eq_true rfl⟩) hS hP hM (fun H locs hP hM hS => ?_)
        refine lv_aload_n hx hb d_law_513 rfl (lv_at hl 1 rfl) ?_
        refine lv_aload_n hx hb d_law_514 rfl (lv_at hl 3 rfl) ?_
        refine lv_iload_n hx hb d_law_515 rfl (lv_at hl 0 rfl) ?_
        refine lv_iconst (v := J (1)) hx hb d_law_516 rfl ?_
        refine y_iadd hx hb d_law_517 ?_
        refine y_sld hx hb hXs hbl hbA hS (6 * t + 1) (by omega) (by omega) (by omega) d_law_518 ?_
        refine lv_aload_n hx hb d_law_519 rfl (lv_at hl 3 rfl) ?_
        refine lv_iload_n hx hb d_law_520 rfl (lv_at hl 0 rfl) ?_
        refine lv_iconst (v := J (2)) hx hb d_law_521 rfl ?_
        refine y_iadd hx hb d_law_522 ?_
        refine y_sld hx hb hXs hbl hbA hS (6 * t + 2) (by omega) (by omega) (by omega) d_law_523 ?_
        refine l_ci (y_runV (As := [.int (J ((xs (6 * t + 1)).toInt)), .int (J ((xs (6 * t + 2)).toInt))]) (rest := [_]) ⟨hx, hb, hml, hown, hts2⟩ (c_M_address l G (z + 73) τ h.hTb nk h.K.n h.K.b h.K.sec (xs (6 * t + 1)).toInt (xs (6 * t + 2)).toInt (jr_x _) (jr_x _)) 2 k_co_M_address k_ml_Law_84 k_im_M_address k_se_M_address k_in_M rfl rfl (by decide +kernel) ⟨Nat.le_of_ble_eq_true rfl, Nat.le_of_ble_eq_true rfl⟩ (yPv (yK_bl G) (yK_mv G) hK hK.1 hM (by omega) laym_0 rfl (by omega) (by omega)) rfl hl.1 rfl (Nat.le_of_ble_eq_true rfl) d_law_524 ⟨Nat.le_of_ble_eq_true rfl, Nat.le_of_ble_eq_true rfl⟩) hS hP hM (fun H locs hP hM hS => ?_)
        refine lv_icmp_eq (tgt := 555) hx hb d_law_527 (by decide) (fun _ => ?_) (fun hne => absurd (congrArg J (rfl)) hne)
        exact main _ _ ⟨nk, nb, fl, ns, no, up, sc, h⟩ ls H locs hP hM hS hl
      by_cases hs33_16 : n33 = 16
      · skip
        refine lv_tableIn (tgt := 532) (off := 499) hx hb d_law_33 (by rw [J_toInt hn33, hs33_16]; decide) (by rw [J_toInt hn33, hs33_16]; decide) (by rw [J_toInt hn33, hs33_16]; rfl) (by decide) ?_
        refine lv_aload_n hx hb d_law_532 rfl (lv_at hl 2 rfl) ?_
        refine lv_aload_n hx hb d_law_533 rfl (lv_at hl 3 rfl) ?_
        refine lv_iload_n hx hb d_law_534 rfl (lv_at hl 0 rfl) ?_
        refine lv_iconst (v := J (1)) hx hb d_law_535 rfl ?_
        refine y_iadd hx hb d_law_536 ?_
        refine y_sld hx hb hXs hbl hbA hS (6 * t + 1) (by omega) (by omega) (by omega) d_law_537 ?_
        refine l_ci (y_runV (As := [.int (J ((xs (6 * t + 1)).toInt))]) (rest := []) ⟨hx, hb, hml, hown, hts2⟩ (c_P_draft l G z σ ns no h.D.n2 h.D.o2 h.D.a h.D.c h.ht h.hsw h.how (fun j => τ 6 j * 1281 + τ 8 j * 1369) (fun j => τ 13 j * 1281 + τ 15 j * 1369) (τ 17) h.dcs (fun j hj => (h.D.ou j hj).e) h.dco (xs (6 * t + 1)).toInt (jr_x _)) 1 k_co_P_draft k_ml_Law_85 k_im_P_draft k_se_P_draft k_in_P rfl rfl (by decide +kernel) ⟨Nat.le_of_ble_eq_true rfl, Nat.le_of_ble_eq_true rfl⟩ (yPv (yK_bl G) (yK_mv G) hK hK.1 hP (by omega) lay_0 rfl (by omega) (by omega)) rfl hl.1 rfl (Nat.le_of_ble_eq_true rfl) d_law_538 ⟨Nat.le_of_ble_eq_true rfl, Nat.le_of_ble_eq_true rfl⟩) hS hP hM (fun H locs hP hM hS => ?_)
        refine lv_aload_n hx hb d_law_541 rfl (lv_at hl 1 rfl) ?_
        refine lv_aload_n hx hb d_law_542 rfl (lv_at hl 3 rfl) ?_
        refine lv_iload_n hx hb d_law_543 rfl (lv_at hl 0 rfl) ?_
        refine lv_iconst (v := J (1)) hx hb d_law_544 rfl ?_
        refine y_iadd hx hb d_law_545 ?_
        refine y_sld hx hb hXs hbl hbA hS (6 * t + 1) (by omega) (by omega) (by omega) d_law_546 ?_
        refine l_ci (y_runV (As := [.int (J ((xs (6 * t + 1)).toInt))]) (rest := [_]) ⟨hx, hb, hml, hown, hts2⟩ (c_M_draft l G (z + 73) τ h.hTb ns no h.D.n2 h.D.o2 h.D.b h.D.d h.D.tur (fun j hj => (h.D.sp j hj).wr) (fun j hj => (h.D.ou j hj).wr) (fun j hj => (h.D.sp j hj).vr) (fun j hj => (h.D.ou j hj).vr) (fun j hj => (h.D.ou j hj).er) (xs (6 * t + 1)).toInt (jr_x _)) 1 k_co_M_draft k_ml_Law_88 k_im_M_draft k_se_M_draft k_in_M rfl rfl (by decide +kernel) ⟨Nat.le_of_ble_eq_true rfl, Nat.le_of_ble_eq_true rfl⟩ (yPv (yK_bl G) (yK_mv G) hK hK.1 hM (by omega) laym_0 rfl (by omega) (by omega)) rfl hl.1 rfl (Nat.le_of_ble_eq_true rfl) d_law_547 ⟨Nat.le_of_ble_eq_true rfl, Nat.le_of_ble_eq_true rfl⟩) hS hP hM (fun H locs hP hM hS => ?_)
        refine lv_icmp_eq (tgt := 555) hx hb d_law_550 (by decide) (fun _ => ?_) (fun hne => absurd (congrArg J (h.q_draft _)) hne)
        exact main _ _ ⟨nk, nb, fl, ns, no, up, sc, h⟩ ls H locs hP hM hS hl
      refine lv_tableOut (tgt := 555) hx hb d_law_33 (by rw [J_toInt hn33]; omega) (by decide) ?_
      exact main _ _ ⟨nk, nb, fl, ns, no, up, sc, h⟩ ls H locs hP hM hS hl
  exact loop18 (L / 6) 0 (by omega) τ4 τ12 (RX_0 hp4 hp12) ls H locs hP hM hS hl
-- ===== YOUR PART ENDS =====
set_option maxHeartbeats 4000000 in
theorem lw_walk (l : Launch) (b : Addr) (xs : List Int32) : MetFree l x (headSpec (Jvm.Cond.code x code maxLocals ret :: tables_1) room_1) (lw_P b xs) (fun _ _ _ _ _ => True) lw_Q := by
  refine MetFree.of_bodyS (code := code) (maxLocals := maxLocals) (ret := ret) (by decide) ?_ ?_
  · intro args s m h hn
    obtain ⟨meth, c, h1, h2, h3, h4, h5, h6, -, -⟩ := Cond.code_spec hn (atoms_spec (ws := Jvm.Cond.code x code maxLocals ret :: tables_1) h _ List.mem_cons_self)
    exact ⟨meth, c, h1, h2, h3, h4, h5, h6⟩
  · intro p e s m args below meth c s₁ B hml0 hP _
    obtain ⟨rfl, hx, hbd, hgv⟩ := hP
    obtain ⟨scr, harrAt, hlist, hof, hsmall⟩ := hx
    obtain ⟨hcb, hkn, -, -⟩ := State.arrayAt?_spec harrAt
    have hown : s.vm.findClass R_law = some m.cls := findClass_of_methodNamed B.named
    have hts0 : ∀ c ∈ (Jvm.Cond.code x code maxLocals ret :: tables_1), c.before #[Value.ref b] s = true := atoms_spec (ws := Jvm.Cond.code x code maxLocals ret :: tables_1) B.pre
    have hts : ∀ w ∈ lw_tbl, w.before #[Value.ref b] s = true := k2_hts_sels lw_privs (fun w hw => hts0 w (List.mem_cons_of_mem _ hw)) lw_privs_ok
    have hml : c.maxLocals = 4 := B.maxLocals_eq (hts0 _ List.mem_cons_self)
    have X₀ : Stand p l e room_1 s m #[Value.ref b] below meth c s₁ [] 0 0 := Stand.of_body B
    have hh0 : s₁.heap = s.heap := by rw [B.state]; rfl
    have hsz : scr.slots.size = xs.length := by rw [← Array.length_toList, hlist, List.length_map]
    have hval : ∀ j : Nat, j < xs.length → scr.slots[j]? = some (.int (xs.getD j 0)) := fun j hj => by
      rw [← Array.getElem?_toList, hlist]
      simp [hj]
    have hbl : b < s.heap.size := (Array.getElem?_eq_some_iff.mp hcb).1
    have hX : va_X b xs.length (fun j => xs.getD j 0) s s.heap := ⟨scr, hcb, hof, hkn, hsz, hval⟩
    have K : W p l e room_1 s m #[Value.ref b] below meth c s₁.heap [] 0 0 (lw_Z below #[Value.ref b] s) (entryFrame m ([Value.ref b] : List Value).toArray 4) := by
      rw [hh0]
      exact whole_start l hbd ⟨B.exec, B.bytes, B.returns, hml, hown, hts, hX, hbl, B.notSynchronized, hgv⟩
    obtain ⟨t, a1, o, b1, b2, b3⟩ := K s₁ rfl X₀
    exact ⟨t, o, a1, b1, b2, b3⟩
theorem lw_pre_spec {args : Array Value} {s : State} (h : (Jvm.Cond.and given_1 narrow_1).before args s = true) (hr : rest_1_c.before args s = true) : ∃ (b : Addr) (xs : List Int32), lw_P b xs args s := by
  have hs := flat_of_before _ h
  have hq := flat_of_before _ hr
  have hc : (Cond.count 1).before args s = true := hs _ (by decide +kernel)
  have harr : (Cond.arrayOf (.arg 0) .int).before args s = true := hs _ (by decide +kernel)
  have hle : (Cond.le (.length (.arg 0)) (.int 3072)).before args s = true := hs _ (by decide +kernel)
  have hlen : (Cond.isInt (.length (.arg 0))).before args s = true := hq _ (by decide +kernel)
  have hall : (Cond.all (.arg 0) (.isInt (.elem (.arg 0) (.index 0)))).before args s = true := hq _ (by decide +kernel)
  obtain ⟨b, xs, hb, hx⟩ := State.ints_of_pre rfl harr hlen hall
  have hsm : xs.length < 2 ^ 31 := hx.choose_spec.2.2.2
  have hev : (Term.length (.arg 0)).eval args s none [] s = some (.int xs.length.toInt32) := hx.length_eval hb
  have hv := Cond.le_ints hev (show (Term.int 3072).eval args s none [] s = some (.int 3072) from rfl)
  have hd : xs.length.toInt32 ≤ 3072 := by
    simpa [Cond.before, Cond.holds, hv] using hle
  have hN : xs.length ≤ 3072 := (Int32.ofNat_le_ofNat hsm (by decide)).mp (show Int32.ofNat xs.length ≤ Int32.ofNat 3072 from hd)
  exact ⟨b, xs, Cond.one_arg hc (show args[0]? = some (.ref b) from hb), hx, hN, h⟩
theorem lw_comes (l : Launch) : Comes l x (Jvm.Cond.code x code maxLocals ret :: tables_1) room_1 (fun tb e args s => Calls_1 tb e args s ∧ rest_1 tb e args s ∧ Pre_1 tb e args s)
    (fun _ _ args s o t => lw_Q args s o t) := by
  intro p e ha hc hk s m args below hf hfit hheap happ hpre
  obtain ⟨b, xs, hP⟩ := lw_pre_spec hpre.2.2 hpre.2.1
  obtain ⟨k, o, h1, h2, h3, hQ⟩ := lw_walk l b xs p e ha hc hk s m args below hf ((Spec.applies_iff_loose hf).mp happ).1 hP trivial
  exact ⟨k, o, h1, h2, h3, hQ⟩
theorem lw_frame {s t : State} {o : Outcome} {args : Array Value} (h : Framed s o t [] 600000 7302250) :
    Framed s o t (fieldLocs frame_1_writes args s ++ arrayLocs frame_1_arrays args s ++ staticLocs frame_1_statics s) 600000 7302250 := h
theorem lw_limb (L : Cond) (hL : ∀ (args : Array Value) (s t : State), L.after args s (.returned (some (.int 1))) t = true) :
    ArmFor flags0 classFile x code maxLocals ret World_1 tables_1 room_1 Calls_1 rest_1 Pre_1
      (fun tb e a s o t => postC L tb e a s o t ∧ Framed s o t (fieldLocs frame_1_writes a s ++ arrayLocs frame_1_arrays a s ++ staticLocs frame_1_statics s) 600000 7302250) := by
  intro l _ _ _ p e ha hc hk s m args below hf hfit hheap happ hpre
  obtain ⟨k, o, h1, h2, h3, rfl, hF⟩ := lw_comes l p e ha hc hk s m args below hf hfit hheap happ hpre
  exact ⟨k, _, h1, h2, h3, hL args s _, lw_frame hF⟩
theorem i_vc : Claimed_1_1 ∧ Claimed_1_2 := ⟨lw_limb limb_1_1 (fun args s t => by simp [limb_1_1, Cond.after, Cond.holds, Cond.value]), lw_limb limb_1_2 (fun args s t => Cond.after_iff.mpr (by
  first | (rw [show limb_1_2 = Cond.eq .result (.int 1) from rfl, Cond.eq_ints (x := 1) (y := 1) rfl rfl]; simp; done) | (simp [limb_1_2, Cond.value, Term.eval]; done)))⟩
