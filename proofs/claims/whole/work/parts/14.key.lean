/-! What a key sees at a leaf, and what is written. -/
theorem y2_cl {σ : yM} {c i d j : Nat} {v : Int} (h : d ≠ c) : y2 σ c i v d j = σ d j := by rw [y2_ne h]
theorem yBs_y2 {σ : yM} {c i : Nat} {v : Int} (hc : 11 < c) (h : yBs σ) : yBs (y2 σ c i v) :=
  yBs_to h (y2_ne (by omega)) (y2_ne (by omega)) (y2_ne (by omega)) (y2_ne (by omega)) (y2_ne (by omega))
def vOf (s e f : Int) : Int := (f - eX (s * e)) % 1000
def tOf (s e g : Int) : Int := (g - eY (s * e)) % 2473
def cOf (s v t : Int) : Int := eX (1281 * v + 1369 * t + s)
def nOf (s i : Int) : Int := eX (2409 * s + 1499 * (i + 1))
theorem vOf_rng (s e f : Int) : 0 ≤ vOf s e f ∧ vOf s e f < 1000 := by unfold vOf; omega
theorem tOf_rng (s e f : Int) : 0 ≤ tOf s e f ∧ tOf s e f < 2473 := by unfold tOf; omega
theorem cOf_rng (s v t : Int) : 0 ≤ cOf s v t ∧ cOf s v t < 10009 := eX_rng _
theorem nOf_rng (s i : Int) : 0 ≤ nOf s i ∧ nOf s i < 10009 := eX_rng _
theorem xq_all : ∀ i, i < 16 → ∀ L, L < 4 → i / 2 ^ L ^^^ 1 < 16 / 2 ^ L := by decide +kernel
theorem xq_lt {i L : Nat} (hi : i < 16) (hL : L < 4) : i / 2 ^ L ^^^ 1 < 16 / 2 ^ L := xq_all i hi L hL
/-- leaf i is set in the arrays beside the tree -/
def yApp (σ τ : yM) (f o : Nat) : Prop := (∀ d, d ≠ 12 → d ≠ 13 → d ≠ 14 → d ≠ 15 → d ≠ 16 → τ d = σ d) ∧ τ 12 5 = (f : Int) + 1 ∧ (∀ j, j ≠ f → τ 14 j = σ 14 j ∧ τ 15 j = σ 15 j ∧ τ 16 j = σ 16 j) ∧ τ 14 f = σ (50 + o) 5 ∧ τ 15 f = σ (50 + o) 6 ∧ τ 16 f = σ (50 + o) 4


set_option maxHeartbeats 4000000 in
set_option maxRecDepth 100000 in
theorem c_Tree_copyPath (l : Launch) (G : yG) (z : Nat) (σ : yM) (q : Nat) (hq : q < 2) (i : Nat) (hi : i < 16) : Met l y_Tree_copyPath (Cond.code y_Tree_copyPath b_Tree_copyPath 4 (Option.none : Option Jvm.ClassFile.FieldType) :: yT) ({ frames := 1, cells := 0, slots := 0, locals := 21 } : Room) (yP ycl G yLP 0 73 z σ (yK G) [.ref (z + 12), .int (J ((i : Int))), .ref (z + (46 + 2 * q + 1))]) (yQh ycl G yLP 0 73 z (fun τ => (∀ d, d ≠ (46 + 2 * q + 1) → τ d = σ d) ∧ ∀ L, L < 4 → τ (46 + 2 * q + 1) L = σ 13 (tpl L (i / 2 ^ L ^^^ 1)))) 0 0 (yA z 0 73) := by
  refine y_met (by decide +kernel) (Nat.le_of_ble_eq_true rfl) ?_
  intro p e s m below meth c ls hx hb hr hml hlocks hown hname hts hv hl
  have hA : ∀ w ∈ yT, w.before _ s = true := fun w h => hts w (List.mem_cons_of_mem _ h)
  have hl : lv_has ls 4 [(0, .ref (z + 12)), (1, .int (J ((i : Int)))), (2, .ref (z + (46 + 2 * q + 1)))] := hl
  obtain ⟨hW, hK⟩ := hv
  have hS : va_S (yA z 0 73) s.heap s.heap [] := va_S.rf
  have hAr : ∀ d, 0 ≤ d ∧ d < 0 + 73 → yA z 0 73 (z + d) := yA_all
  refine lv_iconst (v := J (0)) hx hb d_Tree_copyPath_0 rfl ?_
  refine lv_istore_n (lv' := [(3, .int (J (0))), (0, .ref (z + 12)), (1, .int (J ((i : Int)))), (2, .ref (z + (46 + 2 * q + 1)))]) hx hb d_Tree_copyPath_1 rfl hl (by decide) rfl (fun ls hl => ?_)
  have loop : ∀ (k M : Nat), M + k = 4 → ∀ (ls : Array Slot) (τ : yM) (H : Heap) (locs : List Loc), (∀ d, d ≠ (46 + 2 * q + 1) → τ d = σ d) → (∀ L, L < M → τ (46 + 2 * q + 1) L = σ 13 (tpl L (i / 2 ^ L ^^^ 1))) → yW ycl G yLP 0 73 z τ H → va_S (yA z 0 73) s.heap H locs → lv_has ls 4 [(3, .int (J ((M : Int)))), (0, .ref (z + 12)), (1, .int (J ((i : Int)))), (2, .ref (z + (46 + 2 * q + 1)))] → W p l e ({ frames := 1, cells := 0, slots := 0, locals := 21 } : Room) s m ([.ref (z + 12), .int (J ((i : Int))), .ref (z + (46 + 2 * q + 1))] : List Value).toArray below meth c H locs 0 0 (MQ below (yQh ycl G yLP 0 73 z (fun τ => (∀ d, d ≠ (46 + 2 * q + 1) → τ d = σ d) ∧ ∀ L, L < 4 → τ (46 + 2 * q + 1) L = σ 13 (tpl L (i / 2 ^ L ^^^ 1)))) ([.ref (z + 12), .int (J ((i : Int))), .ref (z + (46 + 2 * q + 1))] : List Value).toArray s 0 0 (yA z 0 73)) (F0 m 2 ls []) := by
    intro k
    induction k with
    | zero =>
      intro M hMk ls τ H locs ho hI hW hS hl
      have hM4 : M = 4 := by omega
      subst hM4
      refine lv_iload_n hx hb d_Tree_copyPath_2 rfl (lv_at hl 0 rfl) ?_
      refine lv_iconst (v := J (4)) hx hb d_Tree_copyPath_3 rfl ?_
      refine y_icmp_ge (tgt := 30) hx hb d_Tree_copyPath_4 (by decide) ⟨by omega, by omega⟩ ⟨by omega, by omega⟩ (fun hc1 => ?_) (fun hc1 => absurd hc1 (by omega))
      exact y_reth hx hb hr hlocks hS hW ⟨ho, hI⟩ d_Tree_copyPath_30
    | succ k ih =>
      intro M hMk ls τ H locs ho hI hW hS hl
      have hdiv : (i : Int) / 2 ^ M = ((i / 2 ^ M : Nat) : Int) := by rw [Int.natCast_ediv, Int.natCast_pow]; rfl
      have hdle : i / 2 ^ M ≤ i := Nat.div_le_self _ _
      have hxq := xq_lt hi (show M < 4 by omega)
      refine lv_iload_n hx hb d_Tree_copyPath_2 rfl (lv_at hl 0 rfl) ?_
      refine lv_iconst (v := J (4)) hx hb d_Tree_copyPath_3 rfl ?_
      refine y_icmp_ge (tgt := 30) hx hb d_Tree_copyPath_4 (by decide) ⟨by omega, by omega⟩ ⟨by omega, by omega⟩ (fun hc2 => absurd hc2 (by omega)) (fun hc2 => ?_)
      refine lv_aload_n hx hb d_Tree_copyPath_7 rfl (lv_at hl 3 rfl) ?_
      refine lv_iload_n hx hb d_Tree_copyPath_8 rfl (lv_at hl 0 rfl) ?_
      refine lv_aload_n hx hb d_Tree_copyPath_9 rfl (lv_at hl 1 rfl) ?_
      refine y_getr hx hb hA in_Tree hown hK.1 hW 12 (by omega) lay_12 rfl 1 (by decide) (hA _ k_fl_Tree_9) rfl d_Tree_copyPath_10 ?_
      refine lv_iload_n hx hb d_Tree_copyPath_13 rfl (lv_at hl 0 rfl) ?_
      refine lv_iload_n hx hb d_Tree_copyPath_14 rfl (lv_at hl 2 rfl) ?_
      refine lv_iload_n hx hb d_Tree_copyPath_15 rfl (lv_at hl 0 rfl) ?_
      refine y_ishr hx hb d_Tree_copyPath_16 M rfl (by omega) (by omega) (by omega) ?_
      refine lv_iconst (v := J (1)) hx hb d_Tree_copyPath_17 rfl ?_
      refine y_ixor (n := ((i / 2 ^ M ^^^ 1 : Nat) : Int)) hx hb d_Tree_copyPath_18 (by rw [hdiv]; exact J_xor1 _ (by omega)) ?_
      refine y_ci (y_runS (As := [.int (J ((M : Int))), .int (J (((i / 2 ^ M ^^^ 1 : Nat) : Int)))]) (rest := [.ref (z + 13), .int (J ((M : Int))), .ref (z + (46 + 2 * q + 1))]) ⟨hx, hb, hml, hown, hts⟩ (c_Tree_place l G M (by omega) ((M : Int)) (((i / 2 ^ M ^^^ 1 : Nat) : Int)) rfl) 2 k_co_Tree_place k_ml_Tree_28 k_st_Tree_place k_in_Tree rfl rfl (by decide +kernel) ⟨Nat.le_of_ble_eq_true rfl, Nat.le_of_ble_eq_true rfl⟩ (yPs0 (yK_bl G) (yK_mv G) hK) rfl hl.1 rfl (Nat.le_of_ble_eq_true rfl) d_Tree_copyPath_19 ⟨Nat.zero_le _, Nat.zero_le _⟩) hS hW (fun H locs hW hS => ?_)
      refine y_iald hx hb hK.1 hW 13 (by omega) lay_13 rfl (by decide) (tpl M (i / 2 ^ M ^^^ 1)) (by rw [tpl_int (by omega)]) (tpl_lt (by omega) hxq) d_Tree_copyPath_22 ?_
      refine y_iast hx hb hK.1 hW (46 + 2 * q + 1) (by omega) (lay_path (n := q) (by omega)) rfl (by decide) hS hAr M rfl (by omega) d_Tree_copyPath_23 (fun H locs hW hS => ?_)
      refine lv_iinc (k := 0) (v := J (((M + 1 : Nat) : Int))) (lv' := [(3, .int (J (((M + 1 : Nat) : Int)))), (0, .ref (z + 12)), (1, .int (J ((i : Int)))), (2, .ref (z + (46 + 2 * q + 1)))]) hx hb d_Tree_copyPath_24 hl rfl (by rw [Int.natCast_add M 1]; exact J_add _ _) (by decide) rfl (fun ls hl => ?_)
      refine lv_goto (tgt := 2) hx hb d_Tree_copyPath_27 (by decide) ?_
      refine ih (M + 1) (by omega) ls _ H locs (fun d hd => (y2_ne hd).trans (ho d hd)) ?_ hW hS hl
      intro L hL
      by_cases e : L = M
      · subst e; rw [y2_at, ho 13 (by omega)]
      · rw [y2_ot e]; exact hI L (by omega)
  exact loop 4 0 rfl ls _ _ _ (fun _ _ => rfl) (fun L h => absurd h (Nat.not_lt_zero L)) hW hS hl

set_option maxHeartbeats 4000000 in
set_option maxRecDepth 100000 in
theorem c_Tree_append (l : Launch) (G : yG) (z : Nat) (σ : yM) (hBs : yBs σ) (lf : Nat → Int) (hT : yTr σ lf) (hlf : ∀ i, 0 ≤ lf i ∧ lf i < 10009) (f o : Nat) (hf : f < 16) (ho : o < 2) (hfl : σ 12 5 = (f : Int)) (hc0 : 0 ≤ σ (50 + o) 3 ∧ σ (50 + o) 3 < 10009) : Met l y_Tree_append (Cond.code y_Tree_append b_Tree_append 2 (Option.none : Option Jvm.ClassFile.FieldType) :: yT) ({ frames := 5, cells := 0, slots := 0, locals := 128 } : Room) (yP ycl G yLP 0 73 z σ (yK G) [.ref (z + 12), .ref (z + (50 + o))]) (yQh ycl G yLP 0 73 z (fun τ => yApp σ τ f o ∧ yTr τ (lfu lf f (σ (50 + o) 3)))) 0 0 (yA z 0 73) := by
  refine y_met (by decide +kernel) (Nat.le_of_ble_eq_true rfl) ?_
  intro p e s m below meth c ls hx hb hr hml hlocks hown hname hts hv hl
  have hA : ∀ w ∈ yT, w.before _ s = true := fun w h => hts w (List.mem_cons_of_mem _ h)
  have hl : lv_has ls 2 [(0, .ref (z + 12)), (1, .ref (z + (50 + o)))] := hl
  obtain ⟨hW, hK⟩ := hv
  have hS : va_S (yA z 0 73) s.heap s.heap [] := va_S.rf
  have hAr : ∀ d, 0 ≤ d ∧ d < 0 + 73 → yA z 0 73 (z + d) := yA_all
  refine lv_aload_n hx hb d_Tree_append_0 rfl (lv_at hl 0 rfl) ?_
  refine y_getr hx hb hA in_Tree hown hK.1 hW 12 (by omega) lay_12 rfl 2 (by decide) (hA _ k_fl_Tree_15) rfl d_Tree_append_1 ?_
  refine lv_aload_n hx hb d_Tree_append_4 rfl (lv_at hl 0 rfl) ?_
  refine y_geti hx hb hA in_Tree hown hK.1 hW 12 (by omega) lay_12 rfl 5 (by decide) (hA _ k_fl_Tree_38) rfl d_Tree_append_5 ?_
  rw [hfl]
  refine lv_aload_n hx hb d_Tree_append_8 rfl (lv_at hl 1 rfl) ?_
  refine y_geti hx hb hA in_Output hown hK.1 hW (50 + o) (by omega) (lay_Output (n := o) (by omega)) rfl 5 (by decide) (hA _ k_fl_Tree_42) rfl d_Tree_append_9 ?_
  refine y_iast hx hb hK.1 hW 14 (by omega) lay_14 rfl (by decide) hS hAr f rfl (by omega) d_Tree_append_12 (fun H locs hW hS => ?_)
  refine lv_aload_n hx hb d_Tree_append_13 rfl (lv_at hl 0 rfl) ?_
  refine y_getr hx hb hA in_Tree hown hK.1 hW 12 (by omega) lay_12 rfl 3 (by decide) (hA _ k_fl_Tree_18) rfl d_Tree_append_14 ?_
  refine lv_aload_n hx hb d_Tree_append_17 rfl (lv_at hl 0 rfl) ?_
  refine y_geti hx hb hA in_Tree hown hK.1 hW 12 (by omega) lay_12 rfl 5 (by decide) (hA _ k_fl_Tree_38) rfl d_Tree_append_18 ?_
  rw [y2_cl (show 12 ≠ 14 by omega)]
  rw [hfl]
  refine lv_aload_n hx hb d_Tree_append_21 rfl (lv_at hl 1 rfl) ?_
  refine y_geti hx hb hA in_Output hown hK.1 hW (50 + o) (by omega) (lay_Output (n := o) (by omega)) rfl 6 (by decide) (hA _ k_fl_Tree_47) rfl d_Tree_append_22 ?_
  rw [y2_cl (show (50 + o) ≠ 14 by omega)]
  refine y_iast hx hb hK.1 hW 15 (by omega) lay_15 rfl (by decide) hS hAr f rfl (by omega) d_Tree_append_25 (fun H locs hW hS => ?_)
  refine lv_aload_n hx hb d_Tree_append_26 rfl (lv_at hl 0 rfl) ?_
  refine y_getr hx hb hA in_Tree hown hK.1 hW 12 (by omega) lay_12 rfl 4 (by decide) (hA _ k_fl_Tree_21) rfl d_Tree_append_27 ?_
  refine lv_aload_n hx hb d_Tree_append_30 rfl (lv_at hl 0 rfl) ?_
  refine y_geti hx hb hA in_Tree hown hK.1 hW 12 (by omega) lay_12 rfl 5 (by decide) (hA _ k_fl_Tree_38) rfl d_Tree_append_31 ?_
  rw [y2_cl (show 12 ≠ 15 by omega), y2_cl (show 12 ≠ 14 by omega)]
  rw [hfl]
  refine lv_aload_n hx hb d_Tree_append_34 rfl (lv_at hl 1 rfl) ?_
  refine y_geti hx hb hA in_Output hown hK.1 hW (50 + o) (by omega) (lay_Output (n := o) (by omega)) rfl 4 (by decide) (hA _ k_fl_Tree_50) rfl d_Tree_append_35 ?_
  rw [y2_cl (show (50 + o) ≠ 15 by omega), y2_cl (show (50 + o) ≠ 14 by omega)]
  refine y_iast hx hb hK.1 hW 16 (by omega) lay_16 rfl (by decide) hS hAr f rfl (by omega) d_Tree_append_38 (fun H locs hW hS => ?_)
  refine lv_aload_n hx hb d_Tree_append_39 rfl (lv_at hl 0 rfl) ?_
  refine lv_aload_n hx hb d_Tree_append_40 rfl (lv_at hl 0 rfl) ?_
  refine y_geti hx hb hA in_Tree hown hK.1 hW 12 (by omega) lay_12 rfl 5 (by decide) (hA _ k_fl_Tree_38) rfl d_Tree_append_41 ?_
  rw [y2_cl (show 12 ≠ 16 by omega), y2_cl (show 12 ≠ 15 by omega), y2_cl (show 12 ≠ 14 by omega)]
  rw [hfl]
  refine lv_aload_n hx hb d_Tree_append_44 rfl (lv_at hl 1 rfl) ?_
  refine y_geti hx hb hA in_Output hown hK.1 hW (50 + o) (by omega) (lay_Output (n := o) (by omega)) rfl 3 (by decide) (hA _ k_fl_Tree_53) rfl d_Tree_append_45 ?_
  rw [y2_cl (show (50 + o) ≠ 16 by omega), y2_cl (show (50 + o) ≠ 15 by omega), y2_cl (show (50 + o) ≠ 14 by omega)]
  refine y_ch (y_runV (As := [.int (J ((f : Int))), .int (J (σ (50 + o) 3))]) (rest := []) ⟨hx, hb, hml, hown, hts⟩ (c_Tree_setLeaf l G z (y2 (y2 (y2 σ 14 f (σ (50 + o) 5)) 15 f (σ (50 + o) 6)) 16 f (σ (50 + o) 4)) (yBs_y2 (by omega) (yBs_y2 (by omega) (yBs_y2 (by omega) hBs))) lf (fun L k h1 h2 => by rw [y2_cl (by decide), y2_cl (by decide), y2_cl (by decide)]; exact hT L k h1 h2) hlf f hf (σ (50 + o) 3) hc0) 2 k_co_Tree_setLeaf k_ml_Tree_56 k_im_Tree_setLeaf k_se_Tree_setLeaf k_in_Tree rfl rfl (by decide +kernel) ⟨Nat.le_of_ble_eq_true rfl, Nat.le_of_ble_eq_true rfl⟩ (yPv (yK_bl G) (yK_mv G) hK hK.1 hW (by omega) lay_12 rfl (by omega) (by omega)) rfl hl.1 rfl (Nat.le_of_ble_eq_true rfl) d_Tree_append_48 ⟨Nat.zero_le _, Nat.zero_le _⟩) hS hAr (fun τ48 H locs hp48 hk48 hW hS => ?_)
  refine lv_aload_n hx hb d_Tree_append_51 rfl (lv_at hl 0 rfl) ?_
  refine lv_dup hx hb d_Tree_append_52 rfl ?_
  refine y_geti hx hb hA in_Tree hown hK.1 hW 12 (by omega) lay_12 rfl 5 (by decide) (hA _ k_fl_Tree_38) rfl d_Tree_append_53 ?_
  rw [hp48.1 12 (by omega), y2_cl (show 12 ≠ 16 by omega), y2_cl (show 12 ≠ 15 by omega), y2_cl (show 12 ≠ 14 by omega)]
  rw [hfl]
  refine lv_iconst (v := J (1)) hx hb d_Tree_append_56 rfl ?_
  refine y_iadd hx hb d_Tree_append_57 ?_
  refine y_puti hx hb hA in_Tree hown hK.1 hW 12 (by omega) lay_12 rfl 5 (by decide) t_Tree tk_Tree nm_Tree hS hAr (hA _ k_fl_Tree_38) rfl (by decide +kernel) rfl d_Tree_append_58 (fun H locs hW hS => ?_)
  exact y_reth hx hb hr hlocks hS hW (by
    obtain ⟨g1, g2⟩ := hp48
    refine ⟨⟨fun d h2 h3 h4 h5 h6 => ?_, y2_at, fun j hj => ⟨?_, ?_, ?_⟩, ?_, ?_, ?_⟩, fun L k h1 h2 => ?_⟩
    · rw [y2_ne h2, g1 d h3, y2_ne h6, y2_ne h5, y2_ne h4]
    · rw [y2_cl (by decide), g1 14 (by decide), y2_cl (by decide), y2_cl (by decide), y2_ot hj]
    · rw [y2_cl (by decide), g1 15 (by decide), y2_cl (by decide), y2_ot hj, y2_cl (by decide)]
    · rw [y2_cl (by decide), g1 16 (by decide), y2_ot hj, y2_cl (by decide), y2_cl (by decide)]
    · rw [y2_cl (by decide), g1 14 (by decide), y2_cl (by decide), y2_cl (by decide), y2_at]
    · rw [y2_cl (by decide), g1 15 (by decide), y2_cl (by decide), y2_at]
    · rw [y2_cl (by decide), g1 16 (by decide), y2_at]
    · rw [y2_cl (by decide)]; exact g2 L k h1 h2) d_Tree_append_61

set_option maxHeartbeats 4000000 in
set_option maxRecDepth 100000 in
theorem c_Tree_removeLatest (l : Launch) (G : yG) (z : Nat) (σ : yM) (hBs : yBs σ) (lf : Nat → Int) (hT : yTr σ lf) (hlf : ∀ i, 0 ≤ lf i ∧ lf i < 10009) (f : Nat) (hf : f < 16) (hfl : σ 12 5 = (f : Int) + 1) : Met l y_Tree_removeLatest (Cond.code y_Tree_removeLatest b_Tree_removeLatest 1 (Option.none : Option Jvm.ClassFile.FieldType) :: yT) ({ frames := 5, cells := 0, slots := 0, locals := 128 } : Room) (yP ycl G yLP 0 73 z σ (yK G) [.ref (z + 12)]) (yQh ycl G yLP 0 73 z (fun τ => (∀ d, d ≠ 12 → d ≠ 13 → τ d = σ d) ∧ τ 12 5 = (f : Int) ∧ yTr τ (lfu lf f 0))) 0 0 (yA z 0 73) := by
  refine y_met (by decide +kernel) (Nat.le_of_ble_eq_true rfl) ?_
  intro p e s m below meth c ls hx hb hr hml hlocks hown hname hts hv hl
  have hA : ∀ w ∈ yT, w.before _ s = true := fun w h => hts w (List.mem_cons_of_mem _ h)
  have hl : lv_has ls 1 [(0, .ref (z + 12))] := hl
  obtain ⟨hW, hK⟩ := hv
  have hS : va_S (yA z 0 73) s.heap s.heap [] := va_S.rf
  have hAr : ∀ d, 0 ≤ d ∧ d < 0 + 73 → yA z 0 73 (z + d) := yA_all
  refine lv_aload_n hx hb d_Tree_removeLatest_0 rfl (lv_at hl 0 rfl) ?_
  refine lv_dup hx hb d_Tree_removeLatest_1 rfl ?_
  refine y_geti hx hb hA in_Tree hown hK.1 hW 12 (by omega) lay_12 rfl 5 (by decide) (hA _ k_fl_Tree_38) rfl d_Tree_removeLatest_2 ?_
  rw [hfl]
  refine lv_iconst (v := J (1)) hx hb d_Tree_removeLatest_5 rfl ?_
  refine y_isub hx hb d_Tree_removeLatest_6 ?_
  rw [show (f : Int) + 1 - 1 = (f : Int) by omega]
  refine y_puti hx hb hA in_Tree hown hK.1 hW 12 (by omega) lay_12 rfl 5 (by decide) t_Tree tk_Tree nm_Tree hS hAr (hA _ k_fl_Tree_38) rfl (by decide +kernel) rfl d_Tree_removeLatest_7 (fun H locs hW hS => ?_)
  refine lv_aload_n hx hb d_Tree_removeLatest_10 rfl (lv_at hl 0 rfl) ?_
  refine lv_aload_n hx hb d_Tree_removeLatest_11 rfl (lv_at hl 0 rfl) ?_
  refine y_geti hx hb hA in_Tree hown hK.1 hW 12 (by omega) lay_12 rfl 5 (by decide) (hA _ k_fl_Tree_38) rfl d_Tree_removeLatest_12 ?_
  rw [y2_at]
  refine lv_iconst (v := J (0)) hx hb d_Tree_removeLatest_15 rfl ?_
  refine y_ch (y_runV (As := [.int (J ((f : Int))), .int (J (0))]) (rest := []) ⟨hx, hb, hml, hown, hts⟩ (c_Tree_setLeaf l G z (y2 σ 12 5 ((f : Int))) (yBs_y2 (by omega) hBs) lf (fun L k h1 h2 => by rw [y2_cl (by decide)]; exact hT L k h1 h2) hlf f hf (0) (by omega)) 2 k_co_Tree_setLeaf k_ml_Tree_56 k_im_Tree_setLeaf k_se_Tree_setLeaf k_in_Tree rfl rfl (by decide +kernel) ⟨Nat.le_of_ble_eq_true rfl, Nat.le_of_ble_eq_true rfl⟩ (yPv (yK_bl G) (yK_mv G) hK hK.1 hW (by omega) lay_12 rfl (by omega) (by omega)) rfl hl.1 rfl (Nat.le_of_ble_eq_true rfl) d_Tree_removeLatest_16 ⟨Nat.zero_le _, Nat.zero_le _⟩) hS hAr (fun τ16 H locs hp16 hk16 hW hS => ?_)
  exact y_reth hx hb hr hlocks hS hW ⟨fun d h2 h3 => (hp16.1 d h3).trans (y2_ne h2), by rw [hp16.1 12 (by decide), y2_at], hp16.2⟩ d_Tree_removeLatest_19

theorem d_Key_begin_0 : decode b_Key_begin 0 = .ok (.aload_n 0, 1) := by decide +kernel
theorem d_Key_begin_1 : decode b_Key_begin 1 = .ok (.iload_n 2, 1) := by decide +kernel
theorem d_Key_begin_2 : decode b_Key_begin 2 = .ok (.putfield 25, 3) := by decide +kernel
theorem d_Key_begin_5 : decode b_Key_begin 5 = .ok (.aload_n 0, 1) := by decide +kernel
theorem d_Key_begin_6 : decode b_Key_begin 6 = .ok (.aload_n 1, 1) := by decide +kernel
theorem d_Key_begin_7 : decode b_Key_begin 7 = .ok (.getfield 29, 3) := by decide +kernel
theorem d_Key_begin_10 : decode b_Key_begin 10 = .ok (.iload_n 2, 1) := by decide +kernel
theorem d_Key_begin_11 : decode b_Key_begin 11 = .ok (.invokevirtual 35, 3) := by decide +kernel
theorem d_Key_begin_14 : decode b_Key_begin 14 = .ok (.putfield 41, 3) := by decide +kernel
theorem d_Key_begin_17 : decode b_Key_begin 17 = .ok (.return_, 1) := by decide +kernel
theorem d_Key_look_0 : decode b_Key_look 0 = .ok (.aload_n 0, 1) := by decide +kernel
theorem d_Key_look_1 : decode b_Key_look 1 = .ok (.getfield 25, 3) := by decide +kernel
theorem d_Key_look_4 : decode b_Key_look 4 = .ok (.aload_n 2, 1) := by decide +kernel
theorem d_Key_look_5 : decode b_Key_look 5 = .ok (.getfield 44, 3) := by decide +kernel
theorem d_Key_look_8 : decode b_Key_look 8 = .ok (.iload_n 3, 1) := by decide +kernel
theorem d_Key_look_9 : decode b_Key_look 9 = .ok (.iaload, 1) := by decide +kernel
theorem d_Key_look_10 : decode b_Key_look 10 = .ok (.invokestatic 49, 3) := by decide +kernel
theorem d_Key_look_13 : decode b_Key_look 13 = .ok (.istore 4, 2) := by decide +kernel
theorem d_Key_look_15 : decode b_Key_look 15 = .ok (.aload_n 2, 1) := by decide +kernel
theorem d_Key_look_16 : decode b_Key_look 16 = .ok (.getfield 55, 3) := by decide +kernel
theorem d_Key_look_19 : decode b_Key_look 19 = .ok (.iload_n 3, 1) := by decide +kernel
theorem d_Key_look_20 : decode b_Key_look 20 = .ok (.iaload, 1) := by decide +kernel
theorem d_Key_look_21 : decode b_Key_look 21 = .ok (.iload 4, 2) := by decide +kernel
theorem d_Key_look_23 : decode b_Key_look 23 = .ok (.iconst 0, 1) := by decide +kernel
theorem d_Key_look_24 : decode b_Key_look 24 = .ok (.invokestatic 58, 3) := by decide +kernel
theorem d_Key_look_27 : decode b_Key_look 27 = .ok (.isub, 1) := by decide +kernel
theorem d_Key_look_28 : decode b_Key_look 28 = .ok (.sipush 1000, 3) := by decide +kernel
theorem d_Key_look_31 : decode b_Key_look 31 = .ok (.invokestatic 61, 3) := by decide +kernel
theorem d_Key_look_34 : decode b_Key_look 34 = .ok (.istore 5, 2) := by decide +kernel
theorem d_Key_look_36 : decode b_Key_look 36 = .ok (.aload_n 2, 1) := by decide +kernel
theorem d_Key_look_37 : decode b_Key_look 37 = .ok (.getfield 66, 3) := by decide +kernel
theorem d_Key_look_40 : decode b_Key_look 40 = .ok (.iload_n 3, 1) := by decide +kernel
theorem d_Key_look_41 : decode b_Key_look 41 = .ok (.iaload, 1) := by decide +kernel
theorem d_Key_look_42 : decode b_Key_look 42 = .ok (.iload 4, 2) := by decide +kernel
theorem d_Key_look_44 : decode b_Key_look 44 = .ok (.iconst 1, 1) := by decide +kernel
theorem d_Key_look_45 : decode b_Key_look 45 = .ok (.invokestatic 58, 3) := by decide +kernel
theorem d_Key_look_48 : decode b_Key_look 48 = .ok (.isub, 1) := by decide +kernel
theorem d_Key_look_49 : decode b_Key_look 49 = .ok (.sipush 2473, 3) := by decide +kernel
theorem d_Key_look_52 : decode b_Key_look 52 = .ok (.invokestatic 61, 3) := by decide +kernel
theorem d_Key_look_55 : decode b_Key_look 55 = .ok (.istore 6, 2) := by decide +kernel
theorem d_Key_look_57 : decode b_Key_look 57 = .ok (.aload_n 0, 1) := by decide +kernel
theorem d_Key_look_58 : decode b_Key_look 58 = .ok (.getfield 9, 3) := by decide +kernel
theorem d_Key_look_61 : decode b_Key_look 61 = .ok (.iload_n 3, 1) := by decide +kernel
theorem d_Key_look_62 : decode b_Key_look 62 = .ok (.aload_n 1, 1) := by decide +kernel
theorem d_Key_look_63 : decode b_Key_look 63 = .ok (.aload_n 0, 1) := by decide +kernel
theorem d_Key_look_64 : decode b_Key_look 64 = .ok (.getfield 41, 3) := by decide +kernel
theorem d_Key_look_67 : decode b_Key_look 67 = .ok (.iload 5, 2) := by decide +kernel
theorem d_Key_look_69 : decode b_Key_look 69 = .ok (.iload 6, 2) := by decide +kernel
theorem d_Key_look_71 : decode b_Key_look 71 = .ok (.invokevirtual 69, 3) := by decide +kernel
theorem d_Key_look_74 : decode b_Key_look 74 = .ok (.aload_n 2, 1) := by decide +kernel
theorem d_Key_look_75 : decode b_Key_look 75 = .ok (.getfield 73, 3) := by decide +kernel
theorem d_Key_look_78 : decode b_Key_look 78 = .ok (.iload_n 3, 1) := by decide +kernel
theorem d_Key_look_79 : decode b_Key_look 79 = .ok (.iaload, 1) := by decide +kernel
theorem d_Key_look_80 : decode b_Key_look 80 = .ok (.if_icmp .ne 7, 3) := by decide +kernel
theorem d_Key_look_83 : decode b_Key_look 83 = .ok (.iconst 1, 1) := by decide +kernel
theorem d_Key_look_84 : decode b_Key_look 84 = .ok (.goto 4, 3) := by decide +kernel
theorem d_Key_look_87 : decode b_Key_look 87 = .ok (.iconst 0, 1) := by decide +kernel
theorem d_Key_look_88 : decode b_Key_look 88 = .ok (.bastore, 1) := by decide +kernel
theorem d_Key_look_89 : decode b_Key_look 89 = .ok (.aload_n 0, 1) := by decide +kernel
theorem d_Key_look_90 : decode b_Key_look 90 = .ok (.getfield 15, 3) := by decide +kernel
theorem d_Key_look_93 : decode b_Key_look 93 = .ok (.iload_n 3, 1) := by decide +kernel
theorem d_Key_look_94 : decode b_Key_look 94 = .ok (.iload 5, 2) := by decide +kernel
theorem d_Key_look_96 : decode b_Key_look 96 = .ok (.iastore, 1) := by decide +kernel
theorem d_Key_look_97 : decode b_Key_look 97 = .ok (.aload_n 0, 1) := by decide +kernel
theorem d_Key_look_98 : decode b_Key_look 98 = .ok (.getfield 19, 3) := by decide +kernel
theorem d_Key_look_101 : decode b_Key_look 101 = .ok (.iload_n 3, 1) := by decide +kernel
theorem d_Key_look_102 : decode b_Key_look 102 = .ok (.iload 6, 2) := by decide +kernel
theorem d_Key_look_104 : decode b_Key_look 104 = .ok (.iastore, 1) := by decide +kernel
theorem d_Key_look_105 : decode b_Key_look 105 = .ok (.aload_n 0, 1) := by decide +kernel
theorem d_Key_look_106 : decode b_Key_look 106 = .ok (.getfield 22, 3) := by decide +kernel
theorem d_Key_look_109 : decode b_Key_look 109 = .ok (.iload_n 3, 1) := by decide +kernel
theorem d_Key_look_110 : decode b_Key_look 110 = .ok (.aload_n 1, 1) := by decide +kernel
theorem d_Key_look_111 : decode b_Key_look 111 = .ok (.aload_n 0, 1) := by decide +kernel
theorem d_Key_look_112 : decode b_Key_look 112 = .ok (.getfield 25, 3) := by decide +kernel
theorem d_Key_look_115 : decode b_Key_look 115 = .ok (.iload_n 3, 1) := by decide +kernel
theorem d_Key_look_116 : decode b_Key_look 116 = .ok (.invokevirtual 76, 3) := by decide +kernel
theorem d_Key_look_119 : decode b_Key_look 119 = .ok (.iastore, 1) := by decide +kernel
theorem d_Key_look_120 : decode b_Key_look 120 = .ok (.return_, 1) := by decide +kernel

set_option maxHeartbeats 4000000 in
set_option maxRecDepth 100000 in
theorem c_Key_begin (l : Launch) (G : yG) (z : Nat) (σ : yM) (hBs : yBs σ) (k : Nat) (hk : k < 4) (s0 : Int) (hs : jr s0) : Met l y_Key_begin (Cond.code y_Key_begin b_Key_begin 3 (Option.none : Option Jvm.ClassFile.FieldType) :: yT) ({ frames := 3, cells := 0, slots := 0, locals := 78 } : Room) (yP ycl G yLP 0 73 z σ (yK G) [.ref (z + (53 + 5 * k)), .ref (z + 1), .int (J (s0))]) (yQh ycl G yLP 0 73 z (fun τ => (∀ d, d ≠ (53 + 5 * k) → τ d = σ d) ∧ τ (53 + 5 * k) 0 = s0 ∧ τ (53 + 5 * k) 1 = eE s0)) 0 0 (yA z 0 73) := by
  refine y_met (by decide +kernel) (Nat.le_of_ble_eq_true rfl) ?_
  intro p e s m below meth c ls hx hb hr hml hlocks hown hname hts hv hl
  have hA : ∀ w ∈ yT, w.before _ s = true := fun w h => hts w (List.mem_cons_of_mem _ h)
  have hl : lv_has ls 3 [(0, .ref (z + (53 + 5 * k))), (1, .ref (z + 1)), (2, .int (J (s0)))] := hl
  obtain ⟨hW, hK⟩ := hv
  have hS : va_S (yA z 0 73) s.heap s.heap [] := va_S.rf
  have hAr : ∀ d, 0 ≤ d ∧ d < 0 + 73 → yA z 0 73 (z + d) := yA_all
  refine lv_aload_n hx hb d_Key_begin_0 rfl (lv_at hl 0 rfl) ?_
  refine lv_iload_n hx hb d_Key_begin_1 rfl (lv_at hl 2 rfl) ?_
  refine y_puti hx hb hA in_Key hown hK.1 hW (53 + 5 * k) (by omega) (lay_Key (n := k) (by omega)) rfl 0 (by decide) t_Key tk_Key nm_Key hS hAr (hA _ k_fl_Key_25) rfl (by decide +kernel) rfl d_Key_begin_2 (fun H locs hW hS => ?_)
  refine lv_aload_n hx hb d_Key_begin_5 rfl (lv_at hl 0 rfl) ?_
  refine lv_aload_n hx hb d_Key_begin_6 rfl (lv_at hl 1 rfl) ?_
  refine y_getr hx hb hA in_Bases hown hK.1 hW 1 (by omega) lay_1 rfl 0 (by decide) (hA _ k_fl_Key_29) rfl d_Key_begin_7 ?_
  refine lv_iload_n hx hb d_Key_begin_10 rfl (lv_at hl 2 rfl) ?_
  refine y_ci (y_runV (As := [.int (J (s0))]) (rest := [.ref (z + (53 + 5 * k))]) ⟨hx, hb, hml, hown, hts⟩ (c_Base_times l G z (y2 σ (53 + 5 * k) 0 (s0)) 2 1 lay_2 lay_3 (by decide) (fun b h => ((yBs_y2 (by omega) hBs) b h).1) (s0) hs) 1 k_co_Base_times k_ml_Key_35 k_im_Base_times k_se_Base_times k_in_Base rfl rfl (by decide +kernel) ⟨Nat.le_of_ble_eq_true rfl, Nat.le_of_ble_eq_true rfl⟩ (yPv (yK_bl G) (yK_mv G) hK hK.1 hW (by omega) lay_2 rfl (by omega) (by omega)) rfl hl.1 rfl (Nat.le_of_ble_eq_true rfl) d_Key_begin_11 ⟨Nat.zero_le _, Nat.zero_le _⟩) hS hW (fun H locs hW hS => ?_)
  refine y_puti hx hb hA in_Key hown hK.1 hW (53 + 5 * k) (by omega) (lay_Key (n := k) (by omega)) rfl 1 (by decide) t_Key tk_Key nm_Key hS hAr (hA _ k_fl_Key_41) rfl (by decide +kernel) rfl d_Key_begin_14 (fun H locs hW hS => ?_)
  exact y_reth hx hb hr hlocks hS hW ⟨fun d hd => by rw [y2_ne hd, y2_ne hd], by rw [y2_ot (by decide), y2_at], by rw [y2_at, Int.one_mul]⟩ d_Key_begin_17

set_option maxHeartbeats 4000000 in
set_option maxRecDepth 100000 in
theorem c_Key_look (l : Launch) (G : yG) (z : Nat) (σ : yM) (hBs : yBs σ) (k : Nat) (hk : k < 4) (s0 : Nat) (hs : s0 < 2473) (hs0 : σ (53 + 5 * k) 0 = (s0 : Int)) (ha0 : σ (53 + 5 * k) 1 = eE (s0 : Int)) (i : Nat) (hi : i < 16) (e0 : Int) (he0 : σ 16 i = eE e0) (hv0 : 0 ≤ σ 14 i ∧ σ 14 i < 1000) (ht0 : 0 ≤ σ 15 i ∧ σ 15 i < 2473) (hn0 : 0 ≤ σ 13 i ∧ σ 13 i < 10009) : Met l y_Key_look (Cond.code y_Key_look b_Key_look 7 (Option.none : Option Jvm.ClassFile.FieldType) :: yT) ({ frames := 4, cells := 0, slots := 0, locals := 102 } : Room) (yP ycl G yLP 0 73 z σ (yK G) [.ref (z + (53 + 5 * k)), .ref (z + 1), .ref (z + 12), .int (J ((i : Int)))]) (yQh ycl G yLP 0 73 z (fun τ => (∀ d, d ≠ (53 + 5 * k + 1) → d ≠ (53 + 5 * k + 2) → d ≠ (53 + 5 * k + 3) → d ≠ (53 + 5 * k + 4) → τ d = σ d) ∧ (∀ d j, j ≠ i → τ d j = σ d j) ∧ τ (53 + 5 * k + 1) i = (if cOf (s0 : Int) (vOf (s0 : Int) e0 (σ 14 i)) (tOf (s0 : Int) e0 (σ 15 i)) = σ 13 i then 1 else 0) ∧ τ (53 + 5 * k + 2) i = (vOf (s0 : Int) e0 (σ 14 i)) ∧ τ (53 + 5 * k + 3) i = (tOf (s0 : Int) e0 (σ 15 i)) ∧ τ (53 + 5 * k + 4) i = nOf (s0 : Int) (i : Int))) 0 0 (yA z 0 73) := by
  refine y_met (by decide +kernel) (Nat.le_of_ble_eq_true rfl) ?_
  intro p e s m below meth c ls hx hb hr hml hlocks hown hname hts hv hl
  have hA : ∀ w ∈ yT, w.before _ s = true := fun w h => hts w (List.mem_cons_of_mem _ h)
  have hl : lv_has ls 7 [(0, .ref (z + (53 + 5 * k))), (1, .ref (z + 1)), (2, .ref (z + 12)), (3, .int (J ((i : Int))))] := hl
  obtain ⟨hW, hK⟩ := hv
  have hS : va_S (yA z 0 73) s.heap s.heap [] := va_S.rf
  have hAr : ∀ d, 0 ≤ d ∧ d < 0 + 73 → yA z 0 73 (z + d) := yA_all
  refine lv_aload_n hx hb d_Key_look_0 rfl (lv_at hl 0 rfl) ?_
  refine y_geti hx hb hA in_Key hown hK.1 hW (53 + 5 * k) (by omega) (lay_Key (n := k) (by omega)) rfl 0 (by decide) (hA _ k_fl_Key_25) rfl d_Key_look_1 ?_
  rw [hs0]
  refine lv_aload_n hx hb d_Key_look_4 rfl (lv_at hl 2 rfl) ?_
  refine y_getr hx hb hA in_Tree hown hK.1 hW 12 (by omega) lay_12 rfl 4 (by decide) (hA _ k_fl_Key_44) rfl d_Key_look_5 ?_
  refine lv_iload_n hx hb d_Key_look_8 rfl (lv_at hl 3 rfl) ?_
  refine y_iald hx hb hK.1 hW 16 (by omega) lay_16 rfl (by decide) i rfl (by omega) d_Key_look_9 ?_
  rw [he0]
  refine y_ci (y_runS (As := [.int (J ((s0 : Int))), .int (J (eE e0))]) (rest := []) ⟨hx, hb, hml, hown, hts⟩ (c_Curve_multiple l G s0 (by omega) e0) 2 k_co_Curve_multiple k_ml_Key_49 k_st_Curve_multiple k_in_Curve rfl rfl (by decide +kernel) ⟨Nat.le_of_ble_eq_true rfl, Nat.le_of_ble_eq_true rfl⟩ (yPs0 (yK_bl G) (yK_mv G) hK) rfl hl.1 rfl (Nat.le_of_ble_eq_true rfl) d_Key_look_10 ⟨Nat.zero_le _, Nat.zero_le _⟩) hS hW (fun H locs hW hS => ?_)
  refine lv_istore (lv' := [(4, .int (J (eE ((s0 : Int) * e0)))), (0, .ref (z + (53 + 5 * k))), (1, .ref (z + 1)), (2, .ref (z + 12)), (3, .int (J ((i : Int))))]) hx hb d_Key_look_13 hl (by decide) rfl (fun ls hl => ?_)
  have hXr := eX_rng ((s0 : Int) * e0)
  have hYr := eY_rng ((s0 : Int) * e0)
  have hvr := vOf_rng (s0 : Int) e0 (σ 14 i)
  have htr := tOf_rng (s0 : Int) e0 (σ 15 i)
  have hcr := cOf_rng (s0 : Int) (vOf (s0 : Int) e0 (σ 14 i)) (tOf (s0 : Int) e0 (σ 15 i))
  unfold cOf at hcr
  refine lv_aload_n hx hb d_Key_look_15 rfl (lv_at hl 3 rfl) ?_
  refine y_getr hx hb hA in_Tree hown hK.1 hW 12 (by omega) lay_12 rfl 2 (by decide) (hA _ k_fl_Key_55) rfl d_Key_look_16 ?_
  refine lv_iload_n hx hb d_Key_look_19 rfl (lv_at hl 4 rfl) ?_
  refine y_iald hx hb hK.1 hW 14 (by omega) lay_14 rfl (by decide) i rfl (by omega) d_Key_look_20 ?_
  refine lv_iload hx hb d_Key_look_21 (lv_at hl 0 rfl) ?_
  refine lv_iconst (v := J (0)) hx hb d_Key_look_23 rfl ?_
  refine y_ci (y_runS (As := [.int (J (eE ((s0 : Int) * e0))), .int (J (0))]) (rest := [.int (J (σ 14 i))]) ⟨hx, hb, hml, hown, hts⟩ (c_Curve_coordinate l G ((s0 : Int) * e0) (0) ⟨by omega, by omega⟩) 2 k_co_Curve_coordinate k_ml_Key_58 k_st_Curve_coordinate k_in_Curve rfl rfl (by decide +kernel) ⟨Nat.le_of_ble_eq_true rfl, Nat.le_of_ble_eq_true rfl⟩ (yPs0 (yK_bl G) (yK_mv G) hK) rfl hl.1 rfl (Nat.le_of_ble_eq_true rfl) d_Key_look_24 ⟨Nat.zero_le _, Nat.zero_le _⟩) hS hW (fun H locs hW hS => ?_)
  rw [if_pos rfl]
  refine y_isub hx hb d_Key_look_27 ?_
  refine lv_sipush (v := J (1000)) hx hb d_Key_look_28 (by decide) ?_
  refine y_ci (y_runS (As := [.int (J ((σ 14 i) - (eX ((s0 : Int) * e0)))), .int (J (1000))]) (rest := []) ⟨hx, hb, hml, hown, hts⟩ (c_floorMod l G ((σ 14 i) - (eX ((s0 : Int) * e0))) (1000) ⟨by omega, by omega⟩ ⟨by omega, by omega⟩) 2 k_co_Math_floorMod k_ml_Key_61 k_st_Math_floorMod k_in_Math rfl rfl (by decide +kernel) ⟨Nat.le_of_ble_eq_true rfl, Nat.le_of_ble_eq_true rfl⟩ (yPs0 (yK_bl G) (yK_mv G) hK) rfl hl.1 rfl (Nat.le_of_ble_eq_true rfl) d_Key_look_31 ⟨Nat.zero_le _, Nat.zero_le _⟩) hS hW (fun H locs hW hS => ?_)
  have hX := eX_rng ((s0 : Int) * e0)
  rw [show (σ 14 i - eX ((s0 : Int) * e0)) % 1000 = vOf (s0 : Int) e0 (σ 14 i) from rfl]
  refine lv_istore (lv' := [(5, .int (J (vOf (s0 : Int) e0 (σ 14 i)))), (4, .int (J (eE ((s0 : Int) * e0)))), (0, .ref (z + (53 + 5 * k))), (1, .ref (z + 1)), (2, .ref (z + 12)), (3, .int (J ((i : Int))))]) hx hb d_Key_look_34 hl (by decide) rfl (fun ls hl => ?_)
  refine lv_aload_n hx hb d_Key_look_36 rfl (lv_at hl 4 rfl) ?_
  refine y_getr hx hb hA in_Tree hown hK.1 hW 12 (by omega) lay_12 rfl 3 (by decide) (hA _ k_fl_Key_66) rfl d_Key_look_37 ?_
  refine lv_iload_n hx hb d_Key_look_40 rfl (lv_at hl 5 rfl) ?_
  refine y_iald hx hb hK.1 hW 15 (by omega) lay_15 rfl (by decide) i rfl (by omega) d_Key_look_41 ?_
  refine lv_iload hx hb d_Key_look_42 (lv_at hl 1 rfl) ?_
  refine lv_iconst (v := J (1)) hx hb d_Key_look_44 rfl ?_
  refine y_ci (y_runS (As := [.int (J (eE ((s0 : Int) * e0))), .int (J (1))]) (rest := [.int (J (σ 15 i))]) ⟨hx, hb, hml, hown, hts⟩ (c_Curve_coordinate l G ((s0 : Int) * e0) (1) ⟨by omega, by omega⟩) 2 k_co_Curve_coordinate k_ml_Key_58 k_st_Curve_coordinate k_in_Curve rfl rfl (by decide +kernel) ⟨Nat.le_of_ble_eq_true rfl, Nat.le_of_ble_eq_true rfl⟩ (yPs0 (yK_bl G) (yK_mv G) hK) rfl hl.1 rfl (Nat.le_of_ble_eq_true rfl) d_Key_look_45 ⟨Nat.zero_le _, Nat.zero_le _⟩) hS hW (fun H locs hW hS => ?_)
  rw [if_neg (show ¬ (1 : Int) = 0 by decide)]
  refine y_isub hx hb d_Key_look_48 ?_
  refine lv_sipush (v := J (2473)) hx hb d_Key_look_49 (by decide) ?_
  refine y_ci (y_runS (As := [.int (J ((σ 15 i) - (eY ((s0 : Int) * e0)))), .int (J (2473))]) (rest := []) ⟨hx, hb, hml, hown, hts⟩ (c_floorMod l G ((σ 15 i) - (eY ((s0 : Int) * e0))) (2473) ⟨by omega, by omega⟩ ⟨by omega, by omega⟩) 2 k_co_Math_floorMod k_ml_Key_61 k_st_Math_floorMod k_in_Math rfl rfl (by decide +kernel) ⟨Nat.le_of_ble_eq_true rfl, Nat.le_of_ble_eq_true rfl⟩ (yPs0 (yK_bl G) (yK_mv G) hK) rfl hl.1 rfl (Nat.le_of_ble_eq_true rfl) d_Key_look_52 ⟨Nat.zero_le _, Nat.zero_le _⟩) hS hW (fun H locs hW hS => ?_)
  rw [show (σ 15 i - eY ((s0 : Int) * e0)) % 2473 = tOf (s0 : Int) e0 (σ 15 i) from rfl]
  refine lv_istore (lv' := [(6, .int (J (tOf (s0 : Int) e0 (σ 15 i)))), (5, .int (J (vOf (s0 : Int) e0 (σ 14 i)))), (4, .int (J (eE ((s0 : Int) * e0)))), (0, .ref (z + (53 + 5 * k))), (1, .ref (z + 1)), (2, .ref (z + 12)), (3, .int (J ((i : Int))))]) hx hb d_Key_look_55 hl (by decide) rfl (fun ls hl => ?_)
  refine lv_aload_n hx hb d_Key_look_57 rfl (lv_at hl 3 rfl) ?_
  refine y_getr hx hb hA in_Key hown hK.1 hW (53 + 5 * k) (by omega) (lay_Key (n := k) (by omega)) rfl 2 (by decide) (hA _ k_fl_Key_9) rfl d_Key_look_58 ?_
  refine lv_iload_n hx hb d_Key_look_61 rfl (lv_at hl 6 rfl) ?_
  refine lv_aload_n hx hb d_Key_look_62 rfl (lv_at hl 4 rfl) ?_
  refine lv_aload_n hx hb d_Key_look_63 rfl (lv_at hl 3 rfl) ?_
  refine y_geti hx hb hA in_Key hown hK.1 hW (53 + 5 * k) (by omega) (lay_Key (n := k) (by omega)) rfl 1 (by decide) (hA _ k_fl_Key_41) rfl d_Key_look_64 ?_
  rw [ha0]
  refine lv_iload hx hb d_Key_look_67 (lv_at hl 1 rfl) ?_
  refine lv_iload hx hb d_Key_look_69 (lv_at hl 0 rfl) ?_
  refine y_ci (y_runV (As := [.int (J (eE (s0 : Int))), .int (J (vOf (s0 : Int) e0 (σ 14 i))), .int (J (tOf (s0 : Int) e0 (σ 15 i)))]) (rest := [.int (J ((i : Int))), .ref (z + (53 + 5 * k + 1))]) ⟨hx, hb, hml, hown, hts⟩ (c_Bases_commitment l G z σ hBs (s0 : Int) (vOf (s0 : Int) e0 (σ 14 i)) (tOf (s0 : Int) e0 (σ 15 i)) ⟨by omega, by omega⟩ ⟨by omega, by omega⟩) 3 k_co_Bases_commitment k_ml_Key_69 k_im_Bases_commitment k_se_Bases_commitment k_in_Bases rfl rfl (by decide +kernel) ⟨Nat.le_of_ble_eq_true rfl, Nat.le_of_ble_eq_true rfl⟩ (yPv (yK_bl G) (yK_mv G) hK hK.1 hW (by omega) lay_1 rfl (by omega) (by omega)) rfl hl.1 rfl (Nat.le_of_ble_eq_true rfl) d_Key_look_71 ⟨Nat.zero_le _, Nat.zero_le _⟩) hS hW (fun H locs hW hS => ?_)
  refine lv_aload_n hx hb d_Key_look_74 rfl (lv_at hl 5 rfl) ?_
  refine y_getr hx hb hA in_Tree hown hK.1 hW 12 (by omega) lay_12 rfl 1 (by decide) (hA _ k_fl_Key_73) rfl d_Key_look_75 ?_
  refine lv_iload_n hx hb d_Key_look_78 rfl (lv_at hl 6 rfl) ?_
  refine y_iald hx hb hK.1 hW 13 (by omega) lay_13 rfl (by decide) i rfl (by omega) d_Key_look_79 ?_
  refine y_icmp_ne (tgt := 87) hx hb d_Key_look_80 (by decide) ⟨by omega, by omega⟩ ⟨by omega, by omega⟩ (fun hcc => ?_) (fun hcc => ?_)
  · skip
    refine lv_iconst (v := J (0)) hx hb d_Key_look_87 rfl ?_
    refine y_zast hx hb hK.1 hW (53 + 5 * k + 1) (by omega) (lay_Kfnd (n := k) (by omega)) rfl (by decide) hS hAr (Or.inl rfl) i rfl (by omega) d_Key_look_88 (fun H locs hW hS => ?_)
    refine lv_aload_n hx hb d_Key_look_89 rfl (lv_at hl 3 rfl) ?_
    refine y_getr hx hb hA in_Key hown hK.1 hW (53 + 5 * k) (by omega) (lay_Key (n := k) (by omega)) rfl 3 (by decide) (hA _ k_fl_Key_15) rfl d_Key_look_90 ?_
    refine lv_iload_n hx hb d_Key_look_93 rfl (lv_at hl 6 rfl) ?_
    refine lv_iload hx hb d_Key_look_94 (lv_at hl 1 rfl) ?_
    refine y_iast hx hb hK.1 hW (53 + 5 * k + 2) (by omega) (lay_Kval (n := k) (by omega)) rfl (by decide) hS hAr i rfl (by omega) d_Key_look_96 (fun H locs hW hS => ?_)
    refine lv_aload_n hx hb d_Key_look_97 rfl (lv_at hl 3 rfl) ?_
    refine y_getr hx hb hA in_Key hown hK.1 hW (53 + 5 * k) (by omega) (lay_Key (n := k) (by omega)) rfl 4 (by decide) (hA _ k_fl_Key_19) rfl d_Key_look_98 ?_
    refine lv_iload_n hx hb d_Key_look_101 rfl (lv_at hl 6 rfl) ?_
    refine lv_iload hx hb d_Key_look_102 (lv_at hl 0 rfl) ?_
    refine y_iast hx hb hK.1 hW (53 + 5 * k + 3) (by omega) (lay_Ktrp (n := k) (by omega)) rfl (by decide) hS hAr i rfl (by omega) d_Key_look_104 (fun H locs hW hS => ?_)
    refine lv_aload_n hx hb d_Key_look_105 rfl (lv_at hl 3 rfl) ?_
    refine y_getr hx hb hA in_Key hown hK.1 hW (53 + 5 * k) (by omega) (lay_Key (n := k) (by omega)) rfl 5 (by decide) (hA _ k_fl_Key_22) rfl d_Key_look_106 ?_
    refine lv_iload_n hx hb d_Key_look_109 rfl (lv_at hl 6 rfl) ?_
    refine lv_aload_n hx hb d_Key_look_110 rfl (lv_at hl 4 rfl) ?_
    refine lv_aload_n hx hb d_Key_look_111 rfl (lv_at hl 3 rfl) ?_
    refine y_geti hx hb hA in_Key hown hK.1 hW (53 + 5 * k) (by omega) (lay_Key (n := k) (by omega)) rfl 0 (by decide) (hA _ k_fl_Key_25) rfl d_Key_look_112 ?_
    rw [y2_cl (show (53 + 5 * k) ≠ (53 + 5 * k + 3) by omega), y2_cl (show (53 + 5 * k) ≠ (53 + 5 * k + 2) by omega), y2_cl (show (53 + 5 * k) ≠ (53 + 5 * k + 1) by omega)]
    rw [hs0]
    refine lv_iload_n hx hb d_Key_look_115 rfl (lv_at hl 6 rfl) ?_
    refine y_ci (y_runV (As := [.int (J ((s0 : Int))), .int (J ((i : Int)))]) (rest := [.int (J ((i : Int))), .ref (z + (53 + 5 * k + 4))]) ⟨hx, hb, hml, hown, hts⟩ (c_Bases_nullifier l G z (y2 (y2 (y2 σ (53 + 5 * k + 1) i (0)) (53 + 5 * k + 2) i (vOf (s0 : Int) e0 (σ 14 i))) (53 + 5 * k + 3) i (tOf (s0 : Int) e0 (σ 15 i))) (yBs_y2 (by omega) (yBs_y2 (by omega) (yBs_y2 (by omega) hBs))) ((s0 : Int)) ((i : Int)) ⟨by omega, by omega⟩ ⟨by omega, by omega⟩) 2 k_co_Bases_nullifier k_ml_Key_76 k_im_Bases_nullifier k_se_Bases_nullifier k_in_Bases rfl rfl (by decide +kernel) ⟨Nat.le_of_ble_eq_true rfl, Nat.le_of_ble_eq_true rfl⟩ (yPv (yK_bl G) (yK_mv G) hK hK.1 hW (by omega) lay_1 rfl (by omega) (by omega)) rfl hl.1 rfl (Nat.le_of_ble_eq_true rfl) d_Key_look_116 ⟨Nat.zero_le _, Nat.zero_le _⟩) hS hW (fun H locs hW hS => ?_)
    refine y_iast hx hb hK.1 hW (53 + 5 * k + 4) (by omega) (lay_Knul (n := k) (by omega)) rfl (by decide) hS hAr i rfl (by omega) d_Key_look_119 (fun H locs hW hS => ?_)
    exact y_reth hx hb hr hlocks hS hW (by
        refine ⟨fun d h1 h2 h3 h4 => by rw [y2_ne h4, y2_ne h3, y2_ne h2, y2_ne h1], fun d j hj => by simp [y2, hj], ?_, ?_, ?_, ?_⟩
        · rw [y2_cl (by omega), y2_cl (by omega), y2_cl (by omega), y2_at]; first | exact (if_pos hcc).symm | exact (if_neg hcc).symm
        · rw [y2_cl (by omega), y2_cl (by omega), y2_at]
        · rw [y2_cl (by omega), y2_at]
        · rw [y2_at]; rfl) d_Key_look_120
  · skip
    refine lv_iconst (v := J (1)) hx hb d_Key_look_83 rfl ?_
    refine lv_goto (tgt := 88) hx hb d_Key_look_84 (by decide) ?_
    refine y_zast hx hb hK.1 hW (53 + 5 * k + 1) (by omega) (lay_Kfnd (n := k) (by omega)) rfl (by decide) hS hAr (Or.inr rfl) i rfl (by omega) d_Key_look_88 (fun H locs hW hS => ?_)
    refine lv_aload_n hx hb d_Key_look_89 rfl (lv_at hl 3 rfl) ?_
    refine y_getr hx hb hA in_Key hown hK.1 hW (53 + 5 * k) (by omega) (lay_Key (n := k) (by omega)) rfl 3 (by decide) (hA _ k_fl_Key_15) rfl d_Key_look_90 ?_
    refine lv_iload_n hx hb d_Key_look_93 rfl (lv_at hl 6 rfl) ?_
    refine lv_iload hx hb d_Key_look_94 (lv_at hl 1 rfl) ?_
    refine y_iast hx hb hK.1 hW (53 + 5 * k + 2) (by omega) (lay_Kval (n := k) (by omega)) rfl (by decide) hS hAr i rfl (by omega) d_Key_look_96 (fun H locs hW hS => ?_)
    refine lv_aload_n hx hb d_Key_look_97 rfl (lv_at hl 3 rfl) ?_
    refine y_getr hx hb hA in_Key hown hK.1 hW (53 + 5 * k) (by omega) (lay_Key (n := k) (by omega)) rfl 4 (by decide) (hA _ k_fl_Key_19) rfl d_Key_look_98 ?_
    refine lv_iload_n hx hb d_Key_look_101 rfl (lv_at hl 6 rfl) ?_
    refine lv_iload hx hb d_Key_look_102 (lv_at hl 0 rfl) ?_
    refine y_iast hx hb hK.1 hW (53 + 5 * k + 3) (by omega) (lay_Ktrp (n := k) (by omega)) rfl (by decide) hS hAr i rfl (by omega) d_Key_look_104 (fun H locs hW hS => ?_)
    refine lv_aload_n hx hb d_Key_look_105 rfl (lv_at hl 3 rfl) ?_
    refine y_getr hx hb hA in_Key hown hK.1 hW (53 + 5 * k) (by omega) (lay_Key (n := k) (by omega)) rfl 5 (by decide) (hA _ k_fl_Key_22) rfl d_Key_look_106 ?_
    refine lv_iload_n hx hb d_Key_look_109 rfl (lv_at hl 6 rfl) ?_
    refine lv_aload_n hx hb d_Key_look_110 rfl (lv_at hl 4 rfl) ?_
    refine lv_aload_n hx hb d_Key_look_111 rfl (lv_at hl 3 rfl) ?_
    refine y_geti hx hb hA in_Key hown hK.1 hW (53 + 5 * k) (by omega) (lay_Key (n := k) (by omega)) rfl 0 (by decide) (hA _ k_fl_Key_25) rfl d_Key_look_112 ?_
    rw [y2_cl (show (53 + 5 * k) ≠ (53 + 5 * k + 3) by omega), y2_cl (show (53 + 5 * k) ≠ (53 + 5 * k + 2) by omega), y2_cl (show (53 + 5 * k) ≠ (53 + 5 * k + 1) by omega)]
    rw [hs0]
    refine lv_iload_n hx hb d_Key_look_115 rfl (lv_at hl 6 rfl) ?_
    refine y_ci (y_runV (As := [.int (J ((s0 : Int))), .int (J ((i : Int)))]) (rest := [.int (J ((i : Int))), .ref (z + (53 + 5 * k + 4))]) ⟨hx, hb, hml, hown, hts⟩ (c_Bases_nullifier l G z (y2 (y2 (y2 σ (53 + 5 * k + 1) i (1)) (53 + 5 * k + 2) i (vOf (s0 : Int) e0 (σ 14 i))) (53 + 5 * k + 3) i (tOf (s0 : Int) e0 (σ 15 i))) (yBs_y2 (by omega) (yBs_y2 (by omega) (yBs_y2 (by omega) hBs))) ((s0 : Int)) ((i : Int)) ⟨by omega, by omega⟩ ⟨by omega, by omega⟩) 2 k_co_Bases_nullifier k_ml_Key_76 k_im_Bases_nullifier k_se_Bases_nullifier k_in_Bases rfl rfl (by decide +kernel) ⟨Nat.le_of_ble_eq_true rfl, Nat.le_of_ble_eq_true rfl⟩ (yPv (yK_bl G) (yK_mv G) hK hK.1 hW (by omega) lay_1 rfl (by omega) (by omega)) rfl hl.1 rfl (Nat.le_of_ble_eq_true rfl) d_Key_look_116 ⟨Nat.zero_le _, Nat.zero_le _⟩) hS hW (fun H locs hW hS => ?_)
    refine y_iast hx hb hK.1 hW (53 + 5 * k + 4) (by omega) (lay_Knul (n := k) (by omega)) rfl (by decide) hS hAr i rfl (by omega) d_Key_look_119 (fun H locs hW hS => ?_)
    exact y_reth hx hb hr hlocks hS hW (by
        refine ⟨fun d h1 h2 h3 h4 => by rw [y2_ne h4, y2_ne h3, y2_ne h2, y2_ne h1], fun d j hj => by simp [y2, hj], ?_, ?_, ?_, ?_⟩
        · rw [y2_cl (by omega), y2_cl (by omega), y2_cl (by omega), y2_at]; first | exact (if_pos hcc).symm | exact (if_neg hcc).symm
        · rw [y2_cl (by omega), y2_cl (by omega), y2_at]
        · rw [y2_cl (by omega), y2_at]
        · rw [y2_at]; rfl) d_Key_look_120
