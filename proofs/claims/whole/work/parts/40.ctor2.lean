theorem yC_inl {L : Nat → yL} {a : Nat → ClassId} {z c ci : Nat} {σ : yM} {ks : List (Option Nat)} (h : L c = .inl (ci, ks)) : yC L a z σ c = .inr (ci, yfs z (σ c) ks) := by unfold yC; rw [h]
def rfj (g : Nat → Nat) (j : Nat) : Nat → Option Nat := fun i => if i < j then some (g i) else none
theorem rfj_s {g : Nat → Nat} {j : Nat} : va_up (rfj g j) j (some (g j)) = rfj g (j + 1) := by
  funext i
  unfold va_up rfj
  by_cases h : i = j
  · subst h; rw [if_pos rfl, if_pos (by omega)]
  · rw [if_neg h]
    by_cases h2 : i < j
    · rw [if_pos h2, if_pos (by omega)]
    · rw [if_neg h2, if_neg (by omega)]
theorem rfj_0 {g : Nat → Nat} : (fun _ => none) = rfj g 0 := by
  funext i
  unfold rfj
  rw [if_neg (by omega)]
theorem rf_cell {cA : ClassId} {N : Nat} {f g : Nat → Option Nat} (h : ∀ i, i < N → f i = g i) : vp_cell cA (N, .inr (.inr (.inr (.inr f)))) = vp_cell cA (N, .inr (.inr (.inr (.inr g)))) := by
  rw [vp_cell_q, vp_cell_q]
  unfold arrV
  congr 2
  funext j
  show va_rf (f j.val) = va_rf (g j.val)
  rw [h j.val j.isLt]
theorem p16 {v : Nat} (h : v < 4) : 0 < 16 / 2 ^ v := by
  have hv3 : v = 0 ∨ v = 1 ∨ v = 2 ∨ v = 3 := by omega
  rcases hv3 with rfl | rfl | rfl | rfl <;> decide
theorem xX_re {cl : List vw_C} {G : yG} {E : Nat → va_E} {lo n z d : Nat} {H : Heap} {cA : ClassId} {N : Nat} {f g : Nat → Option Nat} (h : xX cl G E lo n z H) (hd : lo ≤ d ∧ d < lo + n) (hE : E d = .inl (cA, N, .inr (.inr (.inr (.inr f))))) (hf : ∀ i, i < N → f i = g i) : xX cl G (eu E d (.inl (cA, N, .inr (.inr (.inr (.inr g)))))) lo n z H := xX_of fun c hc => by
  by_cases e : c = d
  · subst e
    rw [eu_at]
    have h1 := xX_at h hc
    rw [hE] at h1
    show H[z + c]? = some (vp_cell _ _)
    rw [← rf_cell hf]
    exact h1
  · rw [eu_ne e]; exact xX_at h hc
theorem rfj_all {g : Nat → Nat} {N : Nat} : ∀ i, i < N → rfj g N i = some (g i) := fun i h => if_pos h
theorem nd0 : ∀ (L k : Nat), nd (fun _ => 0) L k = nd (fun _ => 0) L 0
  | 0, _ => rfl
  | L + 1, k => by
    unfold nd
    rw [nd0 L (2 * k), nd0 L (2 * k + 1), nd0 L (2 * 0 + 1)]

theorem d_Base_init_0 : decode b_Base_init 0 = .ok (.aload_n 0, 1) := by decide +kernel
theorem d_Base_init_1 : decode b_Base_init 1 = .ok (.invokespecial 3, 3) := by decide +kernel
theorem d_Base_init_4 : decode b_Base_init 4 = .ok (.aload_n 0, 1) := by decide +kernel
theorem d_Base_init_5 : decode b_Base_init 5 = .ok (.bipush 12, 2) := by decide +kernel
theorem d_Base_init_7 : decode b_Base_init 7 = .ok (.newarray .int, 2) := by decide +kernel
theorem d_Base_init_9 : decode b_Base_init 9 = .ok (.putfield 9, 3) := by decide +kernel
theorem d_Base_init_12 : decode b_Base_init 12 = .ok (.iload_n 1, 1) := by decide +kernel
theorem d_Base_init_13 : decode b_Base_init 13 = .ok (.iload_n 2, 1) := by decide +kernel
theorem d_Base_init_14 : decode b_Base_init 14 = .ok (.invokestatic 15, 3) := by decide +kernel
theorem d_Base_init_17 : decode b_Base_init 17 = .ok (.istore_n 3, 1) := by decide +kernel
theorem d_Base_init_18 : decode b_Base_init 18 = .ok (.iconst 0, 1) := by decide +kernel
theorem d_Base_init_19 : decode b_Base_init 19 = .ok (.istore 4, 2) := by decide +kernel
theorem d_Base_init_21 : decode b_Base_init 21 = .ok (.iload 4, 2) := by decide +kernel
theorem d_Base_init_23 : decode b_Base_init 23 = .ok (.bipush 12, 2) := by decide +kernel
theorem d_Base_init_25 : decode b_Base_init 25 = .ok (.if_icmp .ge 23, 3) := by decide +kernel
theorem d_Base_init_28 : decode b_Base_init 28 = .ok (.aload_n 0, 1) := by decide +kernel
theorem d_Base_init_29 : decode b_Base_init 29 = .ok (.getfield 9, 3) := by decide +kernel
theorem d_Base_init_32 : decode b_Base_init 32 = .ok (.iload 4, 2) := by decide +kernel
theorem d_Base_init_34 : decode b_Base_init 34 = .ok (.iload_n 3, 1) := by decide +kernel
theorem d_Base_init_35 : decode b_Base_init 35 = .ok (.iastore, 1) := by decide +kernel
theorem d_Base_init_36 : decode b_Base_init 36 = .ok (.iload_n 3, 1) := by decide +kernel
theorem d_Base_init_37 : decode b_Base_init 37 = .ok (.iload_n 3, 1) := by decide +kernel
theorem d_Base_init_38 : decode b_Base_init 38 = .ok (.invokestatic 21, 3) := by decide +kernel
theorem d_Base_init_41 : decode b_Base_init 41 = .ok (.istore_n 3, 1) := by decide +kernel
theorem d_Base_init_42 : decode b_Base_init 42 = .ok (.iinc 4 1, 3) := by decide +kernel
theorem d_Base_init_45 : decode b_Base_init 45 = .ok (.goto (-24), 3) := by decide +kernel
theorem d_Base_init_48 : decode b_Base_init 48 = .ok (.return_, 1) := by decide +kernel
theorem d_Bases_init_0 : decode b_Bases_init 0 = .ok (.aload_n 0, 1) := by decide +kernel
theorem d_Bases_init_1 : decode b_Bases_init 1 = .ok (.invokespecial 1, 3) := by decide +kernel
theorem d_Bases_init_4 : decode b_Bases_init 4 = .ok (.aload_n 0, 1) := by decide +kernel
theorem d_Bases_init_5 : decode b_Bases_init 5 = .ok (.new 7, 3) := by decide +kernel
theorem d_Bases_init_8 : decode b_Bases_init 8 = .ok (.dup, 1) := by decide +kernel
theorem d_Bases_init_9 : decode b_Bases_init 9 = .ok (.sipush 5090, 3) := by decide +kernel
theorem d_Bases_init_12 : decode b_Bases_init 12 = .ok (.sipush 9579, 3) := by decide +kernel
theorem d_Bases_init_15 : decode b_Bases_init 15 = .ok (.invokespecial 9, 3) := by decide +kernel
theorem d_Bases_init_18 : decode b_Bases_init 18 = .ok (.putfield 12, 3) := by decide +kernel
theorem d_Bases_init_21 : decode b_Bases_init 21 = .ok (.aload_n 0, 1) := by decide +kernel
theorem d_Bases_init_22 : decode b_Bases_init 22 = .ok (.new 7, 3) := by decide +kernel
theorem d_Bases_init_25 : decode b_Bases_init 25 = .ok (.dup, 1) := by decide +kernel
theorem d_Bases_init_26 : decode b_Bases_init 26 = .ok (.sipush 592, 3) := by decide +kernel
theorem d_Bases_init_29 : decode b_Bases_init 29 = .ok (.sipush 1212, 3) := by decide +kernel
theorem d_Bases_init_32 : decode b_Bases_init 32 = .ok (.invokespecial 9, 3) := by decide +kernel
theorem d_Bases_init_35 : decode b_Bases_init 35 = .ok (.putfield 18, 3) := by decide +kernel
theorem d_Bases_init_38 : decode b_Bases_init 38 = .ok (.aload_n 0, 1) := by decide +kernel
theorem d_Bases_init_39 : decode b_Bases_init 39 = .ok (.new 7, 3) := by decide +kernel
theorem d_Bases_init_42 : decode b_Bases_init 42 = .ok (.dup, 1) := by decide +kernel
theorem d_Bases_init_43 : decode b_Bases_init 43 = .ok (.sipush 5529, 3) := by decide +kernel
theorem d_Bases_init_46 : decode b_Bases_init 46 = .ok (.sipush 7488, 3) := by decide +kernel
theorem d_Bases_init_49 : decode b_Bases_init 49 = .ok (.invokespecial 9, 3) := by decide +kernel
theorem d_Bases_init_52 : decode b_Bases_init 52 = .ok (.putfield 21, 3) := by decide +kernel
theorem d_Bases_init_55 : decode b_Bases_init 55 = .ok (.aload_n 0, 1) := by decide +kernel
theorem d_Bases_init_56 : decode b_Bases_init 56 = .ok (.new 7, 3) := by decide +kernel
theorem d_Bases_init_59 : decode b_Bases_init 59 = .ok (.dup, 1) := by decide +kernel
theorem d_Bases_init_60 : decode b_Bases_init 60 = .ok (.sipush 3794, 3) := by decide +kernel
theorem d_Bases_init_63 : decode b_Bases_init 63 = .ok (.sipush 270, 3) := by decide +kernel
theorem d_Bases_init_66 : decode b_Bases_init 66 = .ok (.invokespecial 9, 3) := by decide +kernel
theorem d_Bases_init_69 : decode b_Bases_init 69 = .ok (.putfield 24, 3) := by decide +kernel
theorem d_Bases_init_72 : decode b_Bases_init 72 = .ok (.aload_n 0, 1) := by decide +kernel
theorem d_Bases_init_73 : decode b_Bases_init 73 = .ok (.new 7, 3) := by decide +kernel
theorem d_Bases_init_76 : decode b_Bases_init 76 = .ok (.dup, 1) := by decide +kernel
theorem d_Bases_init_77 : decode b_Bases_init 77 = .ok (.sipush 1113, 3) := by decide +kernel
theorem d_Bases_init_80 : decode b_Bases_init 80 = .ok (.sipush 7823, 3) := by decide +kernel
theorem d_Bases_init_83 : decode b_Bases_init 83 = .ok (.invokespecial 9, 3) := by decide +kernel
theorem d_Bases_init_86 : decode b_Bases_init 86 = .ok (.putfield 27, 3) := by decide +kernel
theorem d_Bases_init_89 : decode b_Bases_init 89 = .ok (.return_, 1) := by decide +kernel
theorem d_Tree_init_0 : decode b_Tree_init 0 = .ok (.aload_n 0, 1) := by decide +kernel
theorem d_Tree_init_1 : decode b_Tree_init 1 = .ok (.invokespecial 3, 3) := by decide +kernel
theorem d_Tree_init_4 : decode b_Tree_init 4 = .ok (.aload_n 0, 1) := by decide +kernel
theorem d_Tree_init_5 : decode b_Tree_init 5 = .ok (.bipush 31, 2) := by decide +kernel
theorem d_Tree_init_7 : decode b_Tree_init 7 = .ok (.newarray .int, 2) := by decide +kernel
theorem d_Tree_init_9 : decode b_Tree_init 9 = .ok (.putfield 9, 3) := by decide +kernel
theorem d_Tree_init_12 : decode b_Tree_init 12 = .ok (.aload_n 0, 1) := by decide +kernel
theorem d_Tree_init_13 : decode b_Tree_init 13 = .ok (.bipush 16, 2) := by decide +kernel
theorem d_Tree_init_15 : decode b_Tree_init 15 = .ok (.newarray .int, 2) := by decide +kernel
theorem d_Tree_init_17 : decode b_Tree_init 17 = .ok (.putfield 15, 3) := by decide +kernel
theorem d_Tree_init_20 : decode b_Tree_init 20 = .ok (.aload_n 0, 1) := by decide +kernel
theorem d_Tree_init_21 : decode b_Tree_init 21 = .ok (.bipush 16, 2) := by decide +kernel
theorem d_Tree_init_23 : decode b_Tree_init 23 = .ok (.newarray .int, 2) := by decide +kernel
theorem d_Tree_init_25 : decode b_Tree_init 25 = .ok (.putfield 18, 3) := by decide +kernel
theorem d_Tree_init_28 : decode b_Tree_init 28 = .ok (.aload_n 0, 1) := by decide +kernel
theorem d_Tree_init_29 : decode b_Tree_init 29 = .ok (.bipush 16, 2) := by decide +kernel
theorem d_Tree_init_31 : decode b_Tree_init 31 = .ok (.newarray .int, 2) := by decide +kernel
theorem d_Tree_init_33 : decode b_Tree_init 33 = .ok (.putfield 21, 3) := by decide +kernel
theorem d_Tree_init_36 : decode b_Tree_init 36 = .ok (.aload_n 0, 1) := by decide +kernel
theorem d_Tree_init_37 : decode b_Tree_init 37 = .ok (.aload_n 1, 1) := by decide +kernel
theorem d_Tree_init_38 : decode b_Tree_init 38 = .ok (.putfield 24, 3) := by decide +kernel
theorem d_Tree_init_41 : decode b_Tree_init 41 = .ok (.iconst 1, 1) := by decide +kernel
theorem d_Tree_init_42 : decode b_Tree_init 42 = .ok (.istore_n 2, 1) := by decide +kernel
theorem d_Tree_init_43 : decode b_Tree_init 43 = .ok (.iload_n 2, 1) := by decide +kernel
theorem d_Tree_init_44 : decode b_Tree_init 44 = .ok (.iconst 4, 1) := by decide +kernel
theorem d_Tree_init_45 : decode b_Tree_init 45 = .ok (.if_icmp .gt 62, 3) := by decide +kernel
theorem d_Tree_init_48 : decode b_Tree_init 48 = .ok (.aload_n 0, 1) := by decide +kernel
theorem d_Tree_init_49 : decode b_Tree_init 49 = .ok (.getfield 9, 3) := by decide +kernel
theorem d_Tree_init_52 : decode b_Tree_init 52 = .ok (.iload_n 2, 1) := by decide +kernel
theorem d_Tree_init_53 : decode b_Tree_init 53 = .ok (.iconst 1, 1) := by decide +kernel
theorem d_Tree_init_54 : decode b_Tree_init 54 = .ok (.isub, 1) := by decide +kernel
theorem d_Tree_init_55 : decode b_Tree_init 55 = .ok (.iconst 0, 1) := by decide +kernel
theorem d_Tree_init_56 : decode b_Tree_init 56 = .ok (.invokestatic 28, 3) := by decide +kernel
theorem d_Tree_init_59 : decode b_Tree_init 59 = .ok (.iaload, 1) := by decide +kernel
theorem d_Tree_init_60 : decode b_Tree_init 60 = .ok (.istore_n 3, 1) := by decide +kernel
theorem d_Tree_init_61 : decode b_Tree_init 61 = .ok (.aload_n 1, 1) := by decide +kernel
theorem d_Tree_init_62 : decode b_Tree_init 62 = .ok (.iload_n 3, 1) := by decide +kernel
theorem d_Tree_init_63 : decode b_Tree_init 63 = .ok (.iload_n 3, 1) := by decide +kernel
theorem d_Tree_init_64 : decode b_Tree_init 64 = .ok (.iload_n 2, 1) := by decide +kernel
theorem d_Tree_init_65 : decode b_Tree_init 65 = .ok (.invokevirtual 32, 3) := by decide +kernel
theorem d_Tree_init_68 : decode b_Tree_init 68 = .ok (.istore 4, 2) := by decide +kernel
theorem d_Tree_init_70 : decode b_Tree_init 70 = .ok (.iconst 0, 1) := by decide +kernel
theorem d_Tree_init_71 : decode b_Tree_init 71 = .ok (.istore 5, 2) := by decide +kernel
theorem d_Tree_init_73 : decode b_Tree_init 73 = .ok (.iload 5, 2) := by decide +kernel
theorem d_Tree_init_75 : decode b_Tree_init 75 = .ok (.bipush 16, 2) := by decide +kernel
theorem d_Tree_init_77 : decode b_Tree_init 77 = .ok (.iload_n 2, 1) := by decide +kernel
theorem d_Tree_init_78 : decode b_Tree_init 78 = .ok (.ishr, 1) := by decide +kernel
theorem d_Tree_init_79 : decode b_Tree_init 79 = .ok (.if_icmp .ge 22, 3) := by decide +kernel
theorem d_Tree_init_82 : decode b_Tree_init 82 = .ok (.aload_n 0, 1) := by decide +kernel
theorem d_Tree_init_83 : decode b_Tree_init 83 = .ok (.getfield 9, 3) := by decide +kernel
theorem d_Tree_init_86 : decode b_Tree_init 86 = .ok (.iload_n 2, 1) := by decide +kernel
theorem d_Tree_init_87 : decode b_Tree_init 87 = .ok (.iload 5, 2) := by decide +kernel
theorem d_Tree_init_89 : decode b_Tree_init 89 = .ok (.invokestatic 28, 3) := by decide +kernel
theorem d_Tree_init_92 : decode b_Tree_init 92 = .ok (.iload 4, 2) := by decide +kernel
theorem d_Tree_init_94 : decode b_Tree_init 94 = .ok (.iastore, 1) := by decide +kernel
theorem d_Tree_init_95 : decode b_Tree_init 95 = .ok (.iinc 5 1, 3) := by decide +kernel
theorem d_Tree_init_98 : decode b_Tree_init 98 = .ok (.goto (-25), 3) := by decide +kernel
theorem d_Tree_init_101 : decode b_Tree_init 101 = .ok (.iinc 2 1, 3) := by decide +kernel
theorem d_Tree_init_104 : decode b_Tree_init 104 = .ok (.goto (-61), 3) := by decide +kernel
theorem d_Tree_init_107 : decode b_Tree_init 107 = .ok (.aload_n 0, 1) := by decide +kernel
theorem d_Tree_init_108 : decode b_Tree_init 108 = .ok (.iconst 0, 1) := by decide +kernel
theorem d_Tree_init_109 : decode b_Tree_init 109 = .ok (.putfield 38, 3) := by decide +kernel
theorem d_Tree_init_112 : decode b_Tree_init 112 = .ok (.return_, 1) := by decide +kernel

set_option maxHeartbeats 4000000 in
set_option maxRecDepth 100000 in
theorem c_Base_init (l : Launch) (G : yG) (z d : Nat) (hL1 : yLP d = .inl (1, [some (d + 1)])) (hL2 : yLP (d + 1) = .inr (.inl (0, 12))) (x y B : Int) (hB9 : x * 10009 + y = eE B) : Met l y_Base_init (Cond.code y_Base_init b_Base_init 5 (Option.none : Option Jvm.ClassFile.FieldType) :: yT) ({ frames := 2, cells := 1, slots := 12, locals := 54 } : Room) (yPn G z d 1 [.null] (fun _ => True) [.ref (z + d), .int (J (x)), .int (J (y))]) (yQn G yLP d 2 z (fun τ => ∀ b, b < 12 → τ (d + 1) b = eE (2 ^ b * B))) 1 12 (fun b9 => z + d ≤ b9) := by
  refine y_met (by decide +kernel) (Nat.le_of_ble_eq_true rfl) ?_
  intro p e s m below meth c ls hx hb hr hml hlocks hown hname hts hv hl
  have hA : ∀ w ∈ yT, w.before _ s = true := fun w h => hts w (List.mem_cons_of_mem _ h)
  obtain ⟨hat, hsz, hB, hK2⟩ := hv
  have hK := hK2.1
  have hl : lv_has ls 5 [(0, .ref (z + d)), (1, .int (J (x))), (2, .int (J (y)))] := hl
  have hX : xX ycl G (fun _ => .inr (1, [.null])) d 1 z s.heap := xX_of (fun c hc => by have e : c = d := (by omega); subst e; exact hat)
  have hS : va_S (fun b9 => z + d ≤ b9) s.heap s.heap [] := va_S.rf
  have hAr : ∀ b9, d ≤ b9 → (fun b9 => z + d ≤ b9) (z + b9) := fun b9 h => Nat.add_le_add_left h z
  refine lv_aload_n hx hb d_Base_init_0 rfl (lv_at hl 0 rfl) ?_
  refine W.objInit hx hb hown (hA _ k_ml_Base_3) (hA _ k_im_Object_init) (hA _ k_co_Object_init) rfl (by rw [hml]; exact hl.1) rfl d_Base_init_1 (Nat.le_of_ble_eq_true rfl) (Nat.le_of_ble_eq_true rfl) ?_
  refine W.eq (g2 := F0 m 4 ls []) rfl ?_
  refine lv_aload_n hx hb d_Base_init_4 rfl (lv_at hl 0 rfl) ?_
  refine lv_bipush (v := J (12)) hx hb d_Base_init_5 (by decide) ?_
  refine x_sz hX (by omega) (by omega) (fun hZ => ?_)
  refine x_newa (a0 := (12, .inl (fun _ => J 0))) hx hb (hA _ k_ac_int) (hK.1.2 0 _ rfl).2 hX hS hZ (fun cA => by rw [J0]; rfl) (by decide +kernel) (N' := 12) (by decide +kernel) (by decide) (by show _ ≤ 1; omega) (by show _ ≤ 12; omega) d_Base_init_7 (fun H hX hS => ?_)
  have hX : xX ycl G (eu _ (d + 1) _) d 2 z H := hX
  refine W.eq (g2 := F0 m 9 ls [.ref (z + (d + 1)), .ref (z + d)]) rfl ?_
  refine x_putF (ty := (.array .int)) hx hb hA in_Base t_Base tk_Base nm_Base hown hK.1 hX hAr hS d (by omega) ((eu_ne (by omega)).trans rfl) rfl 0 (by decide) (hA _ k_fl_Base_9) rfl hname rfl (by decide +kernel) rfl rfl (Nat.le_of_ble_eq_true rfl) d_Base_init_9 (fun H locs hX hS => ?_)
  have hW : yW ycl G yLP d 2 z (fun _ _ => 0) H := (xX_y hX (by omega) (by omega) (fun c hc => by rcases (by omega : c = d ∨ c = (d + 1)) with rfl | rfl; exact eu_at.trans (by unfold yC; rw [hL1]; try rfl); exact ((eu_ne (by omega)).trans eu_at).trans (by unfold yC; rw [hL2]; try rfl)))
  have hAr : ∀ e9, d ≤ e9 ∧ e9 < d + 2 → (fun b9 => z + d ≤ b9) (z + e9) := fun e9 h => hAr e9 h.1
  refine lv_iload_n hx hb d_Base_init_12 rfl (lv_at hl 1 rfl) ?_
  refine lv_iload_n hx hb d_Base_init_13 rfl (lv_at hl 2 rfl) ?_
  refine y_ci (y_runS (As := [.int (J (x)), .int (J (y))]) (rest := []) ⟨hx, hb, hml, hown, hts⟩ (c_Curve_point l G (x) (y)) 2 k_co_Curve_point k_ml_Base_15 k_st_Curve_point k_in_Curve rfl rfl (by decide +kernel) ⟨Nat.le_of_ble_eq_true rfl, Nat.le_of_ble_eq_true rfl⟩ (yPs0 (yK_bl G) (yK_mv G) hK) rfl hl.1 rfl (Nat.le_of_ble_eq_true rfl) d_Base_init_14 ⟨Nat.le_of_ble_eq_true rfl, Nat.le_of_ble_eq_true rfl⟩) hS hW (fun H locs hW hS => ?_)
  rw [hB9]
  refine lv_istore_n (lv' := [(3, .int (J (eE B))), (0, .ref (z + d)), (1, .int (J (x))), (2, .int (J (y)))]) hx hb d_Base_init_17 rfl hl (by decide) rfl (fun ls hl => ?_)
  refine lv_iconst (v := J (0)) hx hb d_Base_init_18 rfl ?_
  refine lv_istore (lv' := [(4, .int (J (0))), (3, .int (J (eE B))), (0, .ref (z + d)), (1, .int (J (x))), (2, .int (J (y)))]) hx hb d_Base_init_19 hl (by decide) rfl (fun ls hl => ?_)
  have loop21 : ∀ (q9 b : Nat), b + q9 = 12 → ∀ (τ : yM), (∀ t, t < b → τ (d + 1) t = eE (2 ^ t * B)) → ∀ (ls : Array Slot) (H : Heap) (locs : List Loc), yW ycl G yLP d 2 z τ H → va_S (fun b9 => z + d ≤ b9) s.heap H locs → lv_has ls 5 [(4, .int (J (((b : Nat) : Int)))), (3, .int (J (eE (2 ^ b * B)))), (0, .ref (z + d)), (1, .int (J (x))), (2, .int (J (y)))] → W p l e ({ frames := 2, cells := 1, slots := 12, locals := 54 } : Room) s m ([.ref (z + d), .int (J (x)), .int (J (y))] : List Value).toArray below meth c H locs (1) (12) (MQ below (yQn G yLP d 2 z (fun τ => ∀ b, b < 12 → τ (d + 1) b = eE (2 ^ b * B))) ([.ref (z + d), .int (J (x)), .int (J (y))] : List Value).toArray s 1 12 (fun b9 => z + d ≤ b9)) (F0 m 21 ls []) := by
    intro q9
    induction q9 with
    | zero =>
      intro b hbk τ hI ls H locs hW hS hl
      have hb12 : b = 12 := by omega
      subst hb12
      refine lv_iload hx hb d_Base_init_21 (lv_at hl 0 rfl) ?_
      refine lv_bipush (v := J (12)) hx hb d_Base_init_23 (by decide) ?_
      refine y_icmp_ge (tgt := 48) hx hb d_Base_init_25 (by decide) ⟨by omega, by omega⟩ ⟨by omega, by omega⟩ (fun hc1 => ?_) (fun hc1 => absurd hc1 (by omega))
      exact x_ret hx hb hr hlocks hS hW hI d_Base_init_48
    | succ q9 ih =>
      intro b hbk τ hI ls H locs hW hS hl
      refine lv_iload hx hb d_Base_init_21 (lv_at hl 0 rfl) ?_
      refine lv_bipush (v := J (12)) hx hb d_Base_init_23 (by decide) ?_
      refine y_icmp_ge (tgt := 48) hx hb d_Base_init_25 (by decide) ⟨by omega, by omega⟩ ⟨by omega, by omega⟩ (fun hc2 => absurd hc2 (by omega)) (fun hc2 => ?_)
      refine lv_aload_n hx hb d_Base_init_28 rfl (lv_at hl 2 rfl) ?_
      refine y_getr hx hb hA in_Base hown hK.1 hW d (by omega) hL1 rfl 0 (by decide) (hA _ k_fl_Base_9) rfl d_Base_init_29 ?_
      refine lv_iload hx hb d_Base_init_32 (lv_at hl 0 rfl) ?_
      refine lv_iload_n hx hb d_Base_init_34 rfl (lv_at hl 1 rfl) ?_
      refine y_iast hx hb hK.1 hW (d + 1) (by omega) hL2 rfl (by decide) hS hAr b rfl (by omega) d_Base_init_35 (fun H locs hW hS => ?_)
      refine lv_iload_n hx hb d_Base_init_36 rfl (lv_at hl 1 rfl) ?_
      refine lv_iload_n hx hb d_Base_init_37 rfl (lv_at hl 1 rfl) ?_
      refine y_ci (y_runS (As := [.int (J (eE (2 ^ b * B))), .int (J (eE (2 ^ b * B)))]) (rest := []) ⟨hx, hb, hml, hown, hts⟩ (c_Curve_sum l G (2 ^ b * B) (2 ^ b * B)) 2 k_co_Curve_sum k_ml_Base_21 k_st_Curve_sum k_in_Curve rfl rfl (by decide +kernel) ⟨Nat.le_of_ble_eq_true rfl, Nat.le_of_ble_eq_true rfl⟩ (yPs0 (yK_bl G) (yK_mv G) hK) rfl hl.1 rfl (Nat.le_of_ble_eq_true rfl) d_Base_init_38 ⟨Nat.le_of_ble_eq_true rfl, Nat.le_of_ble_eq_true rfl⟩) hS hW (fun H locs hW hS => ?_)
      refine lv_istore_n (lv' := [(3, .int (J (eE ((2 ^ b * B) + (2 ^ b * B))))), (4, .int (J (((b : Nat) : Int)))), (0, .ref (z + d)), (1, .int (J (x))), (2, .int (J (y)))]) hx hb d_Base_init_41 rfl hl (by decide) rfl (fun ls hl => ?_)
      refine lv_iinc (k := 1) (v := J (((b + 1 : Nat) : Int))) (lv' := [(4, .int (J (((b + 1 : Nat) : Int)))), (3, .int (J (eE ((2 ^ b * B) + (2 ^ b * B))))), (0, .ref (z + d)), (1, .int (J (x))), (2, .int (J (y)))]) hx hb d_Base_init_42 hl rfl (by rw [Int.natCast_add b 1]; exact J_add _ _) (by decide) rfl (fun ls hl => ?_)
      refine lv_goto (tgt := 21) hx hb d_Base_init_45 (by decide) ?_
      refine ih (b + 1) (by omega) _ (fun t ht => ?_) ls H locs hW hS ?_
      · by_cases e : t = b
        · subst e; rw [y2_at]
        · rw [y2_ot e]; exact hI t (by omega)
      · have e : (2 : Int) ^ (b + 1) * B = 2 ^ b * B + 2 ^ b * B := by rw [Int.pow_succ, Int.mul_assoc, Int.mul_comm 2 B, ← Int.mul_assoc]; omega
        rw [e]
        exact lv_sub hl [0, 1, 2, 3, 4] rfl
  exact loop21 12 0 rfl (fun _ _ => 0) (fun t h => absurd h (Nat.not_lt_zero t)) ls _ _ hW hS (by rw [show (2 : Int) ^ 0 * B = B by rw [Int.pow_zero, Int.one_mul]]; exact lv_sub hl [0, 1, 2, 3, 4] rfl)

set_option maxHeartbeats 4000000 in
set_option maxRecDepth 100000 in
theorem c_Bases_init (l : Launch) (G : yG) (z : Nat) : Met l y_Bases_init (Cond.code y_Bases_init b_Bases_init 1 (Option.none : Option Jvm.ClassFile.FieldType) :: yT) ({ frames := 3, cells := 10, slots := 65, locals := 78 } : Room) (yPn G z 1 2 [.null, .null, .null, .null, .null] (fun _ => True) [.ref (z + 1)]) (yQn G yLP 1 11 z (fun τ => yBs τ)) 10 65 (fun b9 => z + 1 ≤ b9) := by
  refine y_met (by decide +kernel) (Nat.le_of_ble_eq_true rfl) ?_
  intro p e s m below meth c ls hx hb hr hml hlocks hown hname hts hv hl
  have hA : ∀ w ∈ yT, w.before _ s = true := fun w h => hts w (List.mem_cons_of_mem _ h)
  obtain ⟨hat, hsz, hB, hK2⟩ := hv
  have hK := hK2.1
  have hl : lv_has ls 1 [(0, .ref (z + 1))] := hl
  have hX : xX ycl G (fun _ => .inr (2, [.null, .null, .null, .null, .null])) 1 1 z s.heap := xX_of (fun c hc => by have e : c = 1 := (by omega); subst e; exact hat)
  have hS : va_S (fun b9 => z + 1 ≤ b9) s.heap s.heap [] := va_S.rf
  have hAr : ∀ b9, 1 ≤ b9 → (fun b9 => z + 1 ≤ b9) (z + b9) := fun b9 h => Nat.add_le_add_left h z
  refine lv_aload_n hx hb d_Bases_init_0 rfl (lv_at hl 0 rfl) ?_
  refine W.objInit hx hb hown (hA _ k_ml_Bases_1) (hA _ k_im_Object_init) (hA _ k_co_Object_init) rfl (by rw [hml]; exact hl.1) rfl d_Bases_init_1 (Nat.le_of_ble_eq_true rfl) (Nat.le_of_ble_eq_true rfl) ?_
  refine W.eq (g2 := F0 m 4 ls []) rfl ?_
  refine lv_aload_n hx hb d_Bases_init_4 rfl (lv_at hl 0 rfl) ?_
  refine x_sz hX (by omega) (by omega) (fun hZ => ?_)
  refine x_new (ci := 1) (fs := [.null]) hx hb hA in_Base t_Base tk_Base hown (hA _ k_cl_Bases_7) (hA _ k_it_Base) (hA _ k_in_Base) hK.1 hX hS hZ rfl (fun j hj => by rcases (by omega : j = 0) with rfl <;> first | rfl | exact congrArg Value.int J0.symm) (by show _ ≤ 10; omega) (by show _ ≤ 65; omega) d_Bases_init_5 (fun H hX hS => ?_)
  have hX : xX ycl G (eu _ 2 _) 1 2 z H := hX
  refine W.eq (g2 := F0 m 8 ls [.ref (z + 2), .ref (z + 1)]) rfl ?_
  refine lv_dup hx hb d_Bases_init_8 rfl ?_
  refine lv_sipush (v := J (5090)) hx hb d_Bases_init_9 (by decide) ?_
  refine lv_sipush (v := J (9579)) hx hb d_Bases_init_12 (by decide) ?_
  refine x_sz hX (by omega) (by omega) (fun hZ => ?_)
  refine x_ch (y_runI (As := [.int (J (5090)), .int (J (9579))]) (rest := [.ref (z + 2), .ref (z + 1)]) ⟨hx, hb, hml, hown, hts⟩ (c_Base_init l G z 2 lay_2 lay_3 5090 9579 1 ((by decide : (5090 : Int) * 10009 + 9579 = _).trans eE_G.symm)) 2 k_co_Base_init k_ml_Bases_9 k_im_Base_init k_in_Base rfl rfl rfl (by decide +kernel) ⟨Nat.le_of_ble_eq_true rfl, Nat.le_of_ble_eq_true rfl⟩ (yPn_s (fun _ _ _ _ h => h) (fun _ _ _ => trivial) (by have h9 := xX_at hX (c := 2) (by omega); rw [eu_at] at h9; exact h9) (by omega) hK2) rfl hl.1 rfl (Nat.le_of_ble_eq_true rfl) d_Bases_init_15 ⟨(by show _ ≤ 10; omega), (by show _ ≤ 65; omega)⟩) hS (fun b9 h => hAr b9 (by omega)) (fun τ15 H locs hp15 hk15 hW15 hS => ?_)
  have hX := xX_join (n' := 3) hX hk15 hW15 (by omega) (by omega) (by omega)
  refine x_putF (ty := (.object "NotePool$Base")) hx hb hA in_Bases t_Bases tk_Bases nm_Bases hown hK.1 hX hAr hS 1 (by omega) ((ej_lt (by omega)).trans ((eu_ne (by omega)).trans rfl)) rfl 0 (by decide) (hA _ k_fl_Bases_12) rfl hname rfl (by decide +kernel) rfl rfl (Nat.le_of_ble_eq_true rfl) d_Bases_init_18 (fun H locs hX hS => ?_)
  refine lv_aload_n hx hb d_Bases_init_21 rfl (lv_at hl 0 rfl) ?_
  refine x_sz hX (by omega) (by omega) (fun hZ => ?_)
  refine x_new (ci := 1) (fs := [.null]) hx hb hA in_Base t_Base tk_Base hown (hA _ k_cl_Bases_7) (hA _ k_it_Base) (hA _ k_in_Base) hK.1 hX hS hZ rfl (fun j hj => by rcases (by omega : j = 0) with rfl <;> first | rfl | exact congrArg Value.int J0.symm) (by show _ ≤ 10; omega) (by show _ ≤ 65; omega) d_Bases_init_22 (fun H hX hS => ?_)
  have hX : xX ycl G (eu _ 4 _) 1 4 z H := hX
  refine W.eq (g2 := F0 m 25 ls [.ref (z + 4), .ref (z + 1)]) rfl ?_
  refine lv_dup hx hb d_Bases_init_25 rfl ?_
  refine lv_sipush (v := J (592)) hx hb d_Bases_init_26 (by decide) ?_
  refine lv_sipush (v := J (1212)) hx hb d_Bases_init_29 (by decide) ?_
  refine x_sz hX (by omega) (by omega) (fun hZ => ?_)
  refine x_ch (y_runI (As := [.int (J (592)), .int (J (1212))]) (rest := [.ref (z + 4), .ref (z + 1)]) ⟨hx, hb, hml, hown, hts⟩ (c_Base_init l G z 4 lay_4 lay_5 592 1212 1281 ((by decide : (592 : Int) * 10009 + 1212 = _).trans eE_V.symm)) 2 k_co_Base_init k_ml_Bases_9 k_im_Base_init k_in_Base rfl rfl rfl (by decide +kernel) ⟨Nat.le_of_ble_eq_true rfl, Nat.le_of_ble_eq_true rfl⟩ (yPn_s (fun _ _ _ _ h => h) (fun _ _ _ => trivial) (by have h9 := xX_at hX (c := 4) (by omega); rw [eu_at] at h9; exact h9) (by omega) hK2) rfl hl.1 rfl (Nat.le_of_ble_eq_true rfl) d_Bases_init_32 ⟨(by show _ ≤ 10; omega), (by show _ ≤ 65; omega)⟩) hS (fun b9 h => hAr b9 (by omega)) (fun τ32 H locs hp32 hk32 hW32 hS => ?_)
  have hX := xX_join (n' := 5) hX hk32 hW32 (by omega) (by omega) (by omega)
  refine x_putF (ty := (.object "NotePool$Base")) hx hb hA in_Bases t_Bases tk_Bases nm_Bases hown hK.1 hX hAr hS 1 (by omega) ((ej_lt (by omega)).trans ((eu_ne (by omega)).trans eu_at)) rfl 1 (by decide) (hA _ k_fl_Bases_18) rfl hname rfl (by decide +kernel) rfl rfl (Nat.le_of_ble_eq_true rfl) d_Bases_init_35 (fun H locs hX hS => ?_)
  refine lv_aload_n hx hb d_Bases_init_38 rfl (lv_at hl 0 rfl) ?_
  refine x_sz hX (by omega) (by omega) (fun hZ => ?_)
  refine x_new (ci := 1) (fs := [.null]) hx hb hA in_Base t_Base tk_Base hown (hA _ k_cl_Bases_7) (hA _ k_it_Base) (hA _ k_in_Base) hK.1 hX hS hZ rfl (fun j hj => by rcases (by omega : j = 0) with rfl <;> first | rfl | exact congrArg Value.int J0.symm) (by show _ ≤ 10; omega) (by show _ ≤ 65; omega) d_Bases_init_39 (fun H hX hS => ?_)
  have hX : xX ycl G (eu _ 6 _) 1 6 z H := hX
  refine W.eq (g2 := F0 m 42 ls [.ref (z + 6), .ref (z + 1)]) rfl ?_
  refine lv_dup hx hb d_Bases_init_42 rfl ?_
  refine lv_sipush (v := J (5529)) hx hb d_Bases_init_43 (by decide) ?_
  refine lv_sipush (v := J (7488)) hx hb d_Bases_init_46 (by decide) ?_
  refine x_sz hX (by omega) (by omega) (fun hZ => ?_)
  refine x_ch (y_runI (As := [.int (J (5529)), .int (J (7488))]) (rest := [.ref (z + 6), .ref (z + 1)]) ⟨hx, hb, hml, hown, hts⟩ (c_Base_init l G z 6 lay_6 lay_7 5529 7488 1369 ((by decide : (5529 : Int) * 10009 + 7488 = _).trans eE_R.symm)) 2 k_co_Base_init k_ml_Bases_9 k_im_Base_init k_in_Base rfl rfl rfl (by decide +kernel) ⟨Nat.le_of_ble_eq_true rfl, Nat.le_of_ble_eq_true rfl⟩ (yPn_s (fun _ _ _ _ h => h) (fun _ _ _ => trivial) (by have h9 := xX_at hX (c := 6) (by omega); rw [eu_at] at h9; exact h9) (by omega) hK2) rfl hl.1 rfl (Nat.le_of_ble_eq_true rfl) d_Bases_init_49 ⟨(by show _ ≤ 10; omega), (by show _ ≤ 65; omega)⟩) hS (fun b9 h => hAr b9 (by omega)) (fun τ49 H locs hp49 hk49 hW49 hS => ?_)
  have hX := xX_join (n' := 7) hX hk49 hW49 (by omega) (by omega) (by omega)
  refine x_putF (ty := (.object "NotePool$Base")) hx hb hA in_Bases t_Bases tk_Bases nm_Bases hown hK.1 hX hAr hS 1 (by omega) ((ej_lt (by omega)).trans ((eu_ne (by omega)).trans eu_at)) rfl 2 (by decide) (hA _ k_fl_Bases_21) rfl hname rfl (by decide +kernel) rfl rfl (Nat.le_of_ble_eq_true rfl) d_Bases_init_52 (fun H locs hX hS => ?_)
  refine lv_aload_n hx hb d_Bases_init_55 rfl (lv_at hl 0 rfl) ?_
  refine x_sz hX (by omega) (by omega) (fun hZ => ?_)
  refine x_new (ci := 1) (fs := [.null]) hx hb hA in_Base t_Base tk_Base hown (hA _ k_cl_Bases_7) (hA _ k_it_Base) (hA _ k_in_Base) hK.1 hX hS hZ rfl (fun j hj => by rcases (by omega : j = 0) with rfl <;> first | rfl | exact congrArg Value.int J0.symm) (by show _ ≤ 10; omega) (by show _ ≤ 65; omega) d_Bases_init_56 (fun H hX hS => ?_)
  have hX : xX ycl G (eu _ 8 _) 1 8 z H := hX
  refine W.eq (g2 := F0 m 59 ls [.ref (z + 8), .ref (z + 1)]) rfl ?_
  refine lv_dup hx hb d_Bases_init_59 rfl ?_
  refine lv_sipush (v := J (3794)) hx hb d_Bases_init_60 (by decide) ?_
  refine lv_sipush (v := J (270)) hx hb d_Bases_init_63 (by decide) ?_
  refine x_sz hX (by omega) (by omega) (fun hZ => ?_)
  refine x_ch (y_runI (As := [.int (J (3794)), .int (J (270))]) (rest := [.ref (z + 8), .ref (z + 1)]) ⟨hx, hb, hml, hown, hts⟩ (c_Base_init l G z 8 lay_8 lay_9 3794 270 2409 ((by decide : (3794 : Int) * 10009 + 270 = _).trans eE_A.symm)) 2 k_co_Base_init k_ml_Bases_9 k_im_Base_init k_in_Base rfl rfl rfl (by decide +kernel) ⟨Nat.le_of_ble_eq_true rfl, Nat.le_of_ble_eq_true rfl⟩ (yPn_s (fun _ _ _ _ h => h) (fun _ _ _ => trivial) (by have h9 := xX_at hX (c := 8) (by omega); rw [eu_at] at h9; exact h9) (by omega) hK2) rfl hl.1 rfl (Nat.le_of_ble_eq_true rfl) d_Bases_init_66 ⟨(by show _ ≤ 10; omega), (by show _ ≤ 65; omega)⟩) hS (fun b9 h => hAr b9 (by omega)) (fun τ66 H locs hp66 hk66 hW66 hS => ?_)
  have hX := xX_join (n' := 9) hX hk66 hW66 (by omega) (by omega) (by omega)
  refine x_putF (ty := (.object "NotePool$Base")) hx hb hA in_Bases t_Bases tk_Bases nm_Bases hown hK.1 hX hAr hS 1 (by omega) ((ej_lt (by omega)).trans ((eu_ne (by omega)).trans eu_at)) rfl 3 (by decide) (hA _ k_fl_Bases_24) rfl hname rfl (by decide +kernel) rfl rfl (Nat.le_of_ble_eq_true rfl) d_Bases_init_69 (fun H locs hX hS => ?_)
  refine lv_aload_n hx hb d_Bases_init_72 rfl (lv_at hl 0 rfl) ?_
  refine x_sz hX (by omega) (by omega) (fun hZ => ?_)
  refine x_new (ci := 1) (fs := [.null]) hx hb hA in_Base t_Base tk_Base hown (hA _ k_cl_Bases_7) (hA _ k_it_Base) (hA _ k_in_Base) hK.1 hX hS hZ rfl (fun j hj => by rcases (by omega : j = 0) with rfl <;> first | rfl | exact congrArg Value.int J0.symm) (by show _ ≤ 10; omega) (by show _ ≤ 65; omega) d_Bases_init_73 (fun H hX hS => ?_)
  have hX : xX ycl G (eu _ 10 _) 1 10 z H := hX
  refine W.eq (g2 := F0 m 76 ls [.ref (z + 10), .ref (z + 1)]) rfl ?_
  refine lv_dup hx hb d_Bases_init_76 rfl ?_
  refine lv_sipush (v := J (1113)) hx hb d_Bases_init_77 (by decide) ?_
  refine lv_sipush (v := J (7823)) hx hb d_Bases_init_80 (by decide) ?_
  refine x_sz hX (by omega) (by omega) (fun hZ => ?_)
  refine x_ch (y_runI (As := [.int (J (1113)), .int (J (7823))]) (rest := [.ref (z + 10), .ref (z + 1)]) ⟨hx, hb, hml, hown, hts⟩ (c_Base_init l G z 10 lay_10 lay_11 1113 7823 1499 ((by decide : (1113 : Int) * 10009 + 7823 = _).trans eE_B.symm)) 2 k_co_Base_init k_ml_Bases_9 k_im_Base_init k_in_Base rfl rfl rfl (by decide +kernel) ⟨Nat.le_of_ble_eq_true rfl, Nat.le_of_ble_eq_true rfl⟩ (yPn_s (fun _ _ _ _ h => h) (fun _ _ _ => trivial) (by have h9 := xX_at hX (c := 10) (by omega); rw [eu_at] at h9; exact h9) (by omega) hK2) rfl hl.1 rfl (Nat.le_of_ble_eq_true rfl) d_Bases_init_83 ⟨(by show _ ≤ 10; omega), (by show _ ≤ 65; omega)⟩) hS (fun b9 h => hAr b9 (by omega)) (fun τ83 H locs hp83 hk83 hW83 hS => ?_)
  have hX := xX_join (n' := 11) hX hk83 hW83 (by omega) (by omega) (by omega)
  refine x_putF (ty := (.object "NotePool$Base")) hx hb hA in_Bases t_Bases tk_Bases nm_Bases hown hK.1 hX hAr hS 1 (by omega) ((ej_lt (by omega)).trans ((eu_ne (by omega)).trans eu_at)) rfl 4 (by decide) (hA _ k_fl_Bases_27) rfl hname rfl (by decide +kernel) rfl rfl (Nat.le_of_ble_eq_true rfl) d_Bases_init_86 (fun H locs hX hS => ?_)
  exact x_ret hx hb hr hlocks hS (σ := (fun c => if c < 4 then τ15 c else if c < 6 then τ32 c else if c < 8 then τ49 c else if c < 10 then τ66 c else τ83 c)) (xX_y hX (by omega) (by omega) (fun c hc => by rcases (by omega : c = 1 ∨ c = 2 ∨ c = 3 ∨ c = 4 ∨ c = 5 ∨ c = 6 ∨ c = 7 ∨ c = 8 ∨ c = 9 ∨ c = 10 ∨ c = 11) with rfl | rfl | rfl | rfl | rfl | rfl | rfl | rfl | rfl | rfl | rfl; exact eu_at.trans (by unfold yC; rw [lay_1]; try rfl); exact ((eu_ne (by omega)).trans ((ej_lt (by omega)).trans ((eu_ne (by omega)).trans ((eu_ne (by omega)).trans ((ej_lt (by omega)).trans ((eu_ne (by omega)).trans ((eu_ne (by omega)).trans ((ej_lt (by omega)).trans ((eu_ne (by omega)).trans ((eu_ne (by omega)).trans ((ej_lt (by omega)).trans ((eu_ne (by omega)).trans ((eu_ne (by omega)).trans (ej_ge (by omega))))))))))))))).trans (by unfold yC; rw [lay_2]; try rfl); exact ((eu_ne (by omega)).trans ((ej_lt (by omega)).trans ((eu_ne (by omega)).trans ((eu_ne (by omega)).trans ((ej_lt (by omega)).trans ((eu_ne (by omega)).trans ((eu_ne (by omega)).trans ((ej_lt (by omega)).trans ((eu_ne (by omega)).trans ((eu_ne (by omega)).trans ((ej_lt (by omega)).trans ((eu_ne (by omega)).trans ((eu_ne (by omega)).trans (ej_ge (by omega))))))))))))))).trans (by unfold yC; rw [lay_3]; try rfl); exact ((eu_ne (by omega)).trans ((ej_lt (by omega)).trans ((eu_ne (by omega)).trans ((eu_ne (by omega)).trans ((ej_lt (by omega)).trans ((eu_ne (by omega)).trans ((eu_ne (by omega)).trans ((ej_lt (by omega)).trans ((eu_ne (by omega)).trans ((eu_ne (by omega)).trans (ej_ge (by omega)))))))))))).trans (by unfold yC; rw [lay_4]; try rfl); exact ((eu_ne (by omega)).trans ((ej_lt (by omega)).trans ((eu_ne (by omega)).trans ((eu_ne (by omega)).trans ((ej_lt (by omega)).trans ((eu_ne (by omega)).trans ((eu_ne (by omega)).trans ((ej_lt (by omega)).trans ((eu_ne (by omega)).trans ((eu_ne (by omega)).trans (ej_ge (by omega)))))))))))).trans (by unfold yC; rw [lay_5]; try rfl); exact ((eu_ne (by omega)).trans ((ej_lt (by omega)).trans ((eu_ne (by omega)).trans ((eu_ne (by omega)).trans ((ej_lt (by omega)).trans ((eu_ne (by omega)).trans ((eu_ne (by omega)).trans (ej_ge (by omega))))))))).trans (by unfold yC; rw [lay_6]; try rfl); exact ((eu_ne (by omega)).trans ((ej_lt (by omega)).trans ((eu_ne (by omega)).trans ((eu_ne (by omega)).trans ((ej_lt (by omega)).trans ((eu_ne (by omega)).trans ((eu_ne (by omega)).trans (ej_ge (by omega))))))))).trans (by unfold yC; rw [lay_7]; try rfl); exact ((eu_ne (by omega)).trans ((ej_lt (by omega)).trans ((eu_ne (by omega)).trans ((eu_ne (by omega)).trans (ej_ge (by omega)))))).trans (by unfold yC; rw [lay_8]; try rfl); exact ((eu_ne (by omega)).trans ((ej_lt (by omega)).trans ((eu_ne (by omega)).trans ((eu_ne (by omega)).trans (ej_ge (by omega)))))).trans (by unfold yC; rw [lay_9]; try rfl); exact ((eu_ne (by omega)).trans (ej_ge (by omega))).trans (by unfold yC; rw [lay_10]; try rfl); exact ((eu_ne (by omega)).trans (ej_ge (by omega))).trans (by unfold yC; rw [lay_11]; try rfl))) (fun b hb => ⟨hp15 b hb, hp32 b hb, hp49 b hb, hp66 b hb, hp83 b hb⟩) d_Bases_init_89

set_option maxHeartbeats 4000000 in
set_option maxRecDepth 100000 in
theorem c_Tree_init (l : Launch) (G : yG) (z : Nat) (σ : yM) (hBs : yBs σ) : Met l y_Tree_init (Cond.code y_Tree_init b_Tree_init 6 (Option.none : Option Jvm.ClassFile.FieldType) :: yT) ({ frames := 4, cells := 4, slots := 79, locals := 102 } : Room) (yPn G z 12 9 [.null, .null, .null, .null, .null, .int (J 0)] (fun U => yW ycl G yLP 1 11 z σ U.heap) [.ref (z + 12), .ref (z + 1)]) (yQn G yLP 12 5 z (fun τ => yTr τ (fun _ => 0) ∧ τ 12 5 = 0)) 4 79 (fun b9 => z + 12 ≤ b9) := by
  refine y_met (by decide +kernel) (Nat.le_of_ble_eq_true rfl) ?_
  intro p e s m below meth c ls hx hb hr hml hlocks hown hname hts hv hl
  have hA : ∀ w ∈ yT, w.before _ s = true := fun w h => hts w (List.mem_cons_of_mem _ h)
  obtain ⟨hat, hsz, hB, hK2⟩ := hv
  have hK := hK2.1
  have hl : lv_has ls 6 [(0, .ref (z + 12)), (1, .ref (z + 1))] := hl
  have hX : xX ycl G (fun _ => .inr (9, [.null, .null, .null, .null, .null, .int (J 0)])) 12 1 z s.heap := xX_of (fun c hc => by have e : c = 12 := (by omega); subst e; exact hat)
  have hS : va_S (fun b9 => z + 12 ≤ b9) s.heap s.heap [] := va_S.rf
  have hAr : ∀ b9, 12 ≤ b9 → (fun b9 => z + 12 ≤ b9) (z + b9) := fun b9 h => Nat.add_le_add_left h z
  refine lv_aload_n hx hb d_Tree_init_0 rfl (lv_at hl 0 rfl) ?_
  refine W.objInit hx hb hown (hA _ k_ml_Tree_3) (hA _ k_im_Object_init) (hA _ k_co_Object_init) rfl (by rw [hml]; exact hl.1) rfl d_Tree_init_1 (Nat.le_of_ble_eq_true rfl) (Nat.le_of_ble_eq_true rfl) ?_
  refine W.eq (g2 := F0 m 4 ls []) rfl ?_
  refine lv_aload_n hx hb d_Tree_init_4 rfl (lv_at hl 0 rfl) ?_
  refine lv_bipush (v := J (31)) hx hb d_Tree_init_5 (by decide) ?_
  refine x_sz hX (by omega) (by omega) (fun hZ => ?_)
  refine x_newa (a0 := (31, .inl (fun _ => J 0))) hx hb (hA _ k_ac_int) (hK.1.2 0 _ rfl).2 hX hS hZ (fun cA => by rw [J0]; rfl) (by decide +kernel) (N' := 31) (by decide +kernel) (by decide) (by show _ ≤ 4; omega) (by show _ ≤ 79; omega) d_Tree_init_7 (fun H hX hS => ?_)
  have hX : xX ycl G (eu _ 13 _) 12 2 z H := hX
  refine W.eq (g2 := F0 m 9 ls [.ref (z + 13), .ref (z + 12)]) rfl ?_
  refine x_putF (ty := (.array .int)) hx hb hA in_Tree t_Tree tk_Tree nm_Tree hown hK.1 hX hAr hS 12 (by omega) ((eu_ne (by omega)).trans rfl) rfl 1 (by decide) (hA _ k_fl_Tree_9) rfl hname rfl (by decide +kernel) rfl rfl (Nat.le_of_ble_eq_true rfl) d_Tree_init_9 (fun H locs hX hS => ?_)
  refine lv_aload_n hx hb d_Tree_init_12 rfl (lv_at hl 0 rfl) ?_
  refine lv_bipush (v := J (16)) hx hb d_Tree_init_13 (by decide) ?_
  refine x_sz hX (by omega) (by omega) (fun hZ => ?_)
  refine x_newa (a0 := (16, .inl (fun _ => J 0))) hx hb (hA _ k_ac_int) (hK.1.2 0 _ rfl).2 hX hS hZ (fun cA => by rw [J0]; rfl) (by decide +kernel) (N' := 16) (by decide +kernel) (by decide) (by show _ ≤ 4; omega) (by show _ ≤ 79; omega) d_Tree_init_15 (fun H hX hS => ?_)
  have hX : xX ycl G (eu _ 14 _) 12 3 z H := hX
  refine W.eq (g2 := F0 m 17 ls [.ref (z + 14), .ref (z + 12)]) rfl ?_
  refine x_putF (ty := (.array .int)) hx hb hA in_Tree t_Tree tk_Tree nm_Tree hown hK.1 hX hAr hS 12 (by omega) ((eu_ne (by omega)).trans eu_at) rfl 2 (by decide) (hA _ k_fl_Tree_15) rfl hname rfl (by decide +kernel) rfl rfl (Nat.le_of_ble_eq_true rfl) d_Tree_init_17 (fun H locs hX hS => ?_)
  refine lv_aload_n hx hb d_Tree_init_20 rfl (lv_at hl 0 rfl) ?_
  refine lv_bipush (v := J (16)) hx hb d_Tree_init_21 (by decide) ?_
  refine x_sz hX (by omega) (by omega) (fun hZ => ?_)
  refine x_newa (a0 := (16, .inl (fun _ => J 0))) hx hb (hA _ k_ac_int) (hK.1.2 0 _ rfl).2 hX hS hZ (fun cA => by rw [J0]; rfl) (by decide +kernel) (N' := 16) (by decide +kernel) (by decide) (by show _ ≤ 4; omega) (by show _ ≤ 79; omega) d_Tree_init_23 (fun H hX hS => ?_)
  have hX : xX ycl G (eu _ 15 _) 12 4 z H := hX
  refine W.eq (g2 := F0 m 25 ls [.ref (z + 15), .ref (z + 12)]) rfl ?_
  refine x_putF (ty := (.array .int)) hx hb hA in_Tree t_Tree tk_Tree nm_Tree hown hK.1 hX hAr hS 12 (by omega) ((eu_ne (by omega)).trans eu_at) rfl 3 (by decide) (hA _ k_fl_Tree_18) rfl hname rfl (by decide +kernel) rfl rfl (Nat.le_of_ble_eq_true rfl) d_Tree_init_25 (fun H locs hX hS => ?_)
  refine lv_aload_n hx hb d_Tree_init_28 rfl (lv_at hl 0 rfl) ?_
  refine lv_bipush (v := J (16)) hx hb d_Tree_init_29 (by decide) ?_
  refine x_sz hX (by omega) (by omega) (fun hZ => ?_)
  refine x_newa (a0 := (16, .inl (fun _ => J 0))) hx hb (hA _ k_ac_int) (hK.1.2 0 _ rfl).2 hX hS hZ (fun cA => by rw [J0]; rfl) (by decide +kernel) (N' := 16) (by decide +kernel) (by decide) (by show _ ≤ 4; omega) (by show _ ≤ 79; omega) d_Tree_init_31 (fun H hX hS => ?_)
  have hX : xX ycl G (eu _ 16 _) 12 5 z H := hX
  refine W.eq (g2 := F0 m 33 ls [.ref (z + 16), .ref (z + 12)]) rfl ?_
  refine x_putF (ty := (.array .int)) hx hb hA in_Tree t_Tree tk_Tree nm_Tree hown hK.1 hX hAr hS 12 (by omega) ((eu_ne (by omega)).trans eu_at) rfl 4 (by decide) (hA _ k_fl_Tree_21) rfl hname rfl (by decide +kernel) rfl rfl (Nat.le_of_ble_eq_true rfl) d_Tree_init_33 (fun H locs hX hS => ?_)
  refine lv_aload_n hx hb d_Tree_init_36 rfl (lv_at hl 0 rfl) ?_
  refine lv_aload_n hx hb d_Tree_init_37 rfl (lv_at hl 1 rfl) ?_
  refine x_putF (ty := (.object "NotePool$Bases")) hx hb hA in_Tree t_Tree tk_Tree nm_Tree hown hK.1 hX hAr hS 12 (by omega) eu_at rfl 0 (by decide) (hA _ k_fl_Tree_24) rfl hname rfl (by decide +kernel) rfl rfl (Nat.le_of_ble_eq_true rfl) d_Tree_init_38 (fun H locs hX hS => ?_)
  have hW : yW ycl G yLP 12 5 z (fun _ _ => 0) H := (xX_y hX (by omega) (by omega) (fun c hc => by rcases (by omega : c = 12 ∨ c = 13 ∨ c = 14 ∨ c = 15 ∨ c = 16) with rfl | rfl | rfl | rfl | rfl; exact eu_at.trans (by unfold yC; rw [lay_12]; try rfl); exact ((eu_ne (by omega)).trans ((eu_ne (by omega)).trans ((eu_ne (by omega)).trans ((eu_ne (by omega)).trans ((eu_ne (by omega)).trans ((eu_ne (by omega)).trans ((eu_ne (by omega)).trans ((eu_ne (by omega)).trans eu_at)))))))).trans (by unfold yC; rw [lay_13]; try rfl); exact ((eu_ne (by omega)).trans ((eu_ne (by omega)).trans ((eu_ne (by omega)).trans ((eu_ne (by omega)).trans ((eu_ne (by omega)).trans ((eu_ne (by omega)).trans eu_at)))))).trans (by unfold yC; rw [lay_14]; try rfl); exact ((eu_ne (by omega)).trans ((eu_ne (by omega)).trans ((eu_ne (by omega)).trans ((eu_ne (by omega)).trans eu_at)))).trans (by unfold yC; rw [lay_15]; try rfl); exact ((eu_ne (by omega)).trans ((eu_ne (by omega)).trans eu_at)).trans (by unfold yC; rw [lay_16]; try rfl)))
  have hAr : ∀ e9, 12 ≤ e9 ∧ e9 < 12 + 5 → (fun b9 => z + 12 ≤ b9) (z + e9) := fun e9 h => hAr e9 h.1
  refine lv_iconst (v := J (1)) hx hb d_Tree_init_41 rfl ?_
  refine lv_istore_n (lv' := [(2, .int (J (1))), (0, .ref (z + 12)), (1, .ref (z + 1))]) hx hb d_Tree_init_42 rfl hl (by decide) rfl (fun ls hl => ?_)
  have hz0 := nd_rng (lf := fun _ => 0) (fun _ => by decide)
  have loop43 : ∀ (q9 v : Nat), v + q9 = 4 → ∀ (τ : yM), (∀ L' k', L' < (v + 1) → k' < 16 / 2 ^ L' → τ 13 (tpl L' k') = nd (fun _ => 0) L' k') → ∀ (ls : Array Slot) (H : Heap) (locs : List Loc), yW ycl G yLP 12 5 z τ H → va_S (fun b9 => z + 12 ≤ b9) s.heap H locs → lv_has ls 6 [(2, .int (J ((((v + 1) : Nat) : Int)))), (0, .ref (z + 12)), (1, .ref (z + 1))] → W p l e ({ frames := 4, cells := 4, slots := 79, locals := 102 } : Room) s m ([.ref (z + 12), .ref (z + 1)] : List Value).toArray below meth c H locs (4) (79) (MQ below (yQn G yLP 12 5 z (fun τ => yTr τ (fun _ => 0) ∧ τ 12 5 = 0)) ([.ref (z + 12), .ref (z + 1)] : List Value).toArray s 4 79 (fun b9 => z + 12 ≤ b9)) (F0 m 43 ls []) := by
    intro q9
    induction q9 with
    | zero =>
      intro v hvk τ hI ls H locs hW hS hl
      have hv4 : v = 4 := by omega
      subst hv4
      refine lv_iload_n hx hb d_Tree_init_43 rfl (lv_at hl 0 rfl) ?_
      refine lv_iconst (v := J (4)) hx hb d_Tree_init_44 rfl ?_
      refine y_icmp_gt (tgt := 107) hx hb d_Tree_init_45 (by decide) ⟨by omega, by omega⟩ ⟨by omega, by omega⟩ (fun hc1 => ?_) (fun hc1 => absurd hc1 (by omega))
      refine lv_aload_n hx hb d_Tree_init_107 rfl (lv_at hl 1 rfl) ?_
      refine lv_iconst (v := J (0)) hx hb d_Tree_init_108 rfl ?_
      refine y_puti hx hb hA in_Tree hown hK.1 hW 12 (by omega) lay_12 rfl 5 (by decide) t_Tree tk_Tree nm_Tree hS hAr (hA _ k_fl_Tree_38) rfl (by decide +kernel) rfl d_Tree_init_109 (fun H locs hW hS => ?_)
      exact x_ret hx hb hr hlocks hS hW ⟨fun L' k' h1 h2 => by rw [y2_cl (by decide)]; exact hI L' k' (by omega) h2, y2_at⟩ d_Tree_init_112
    | succ q9 iho =>
      intro v hvk τ hI ls H locs hW hS hl
      have h16 : 16 / 2 ^ (v + 1) ≤ 16 := Nat.div_le_self _ _
      have hp0 := p16 (v := v) (by omega)
      have hr0 := hz0 v 0
      have hdv : (16 : Int) / 2 ^ (v + 1) = ((16 / 2 ^ (v + 1) : Nat) : Int) := by rw [Int.natCast_ediv, Int.natCast_pow]; rfl
      have ht0 := tpl_lt (L := v) (k := 0) (by omega) hp0
      refine lv_iload_n hx hb d_Tree_init_43 rfl (lv_at hl 0 rfl) ?_
      refine lv_iconst (v := J (4)) hx hb d_Tree_init_44 rfl ?_
      refine y_icmp_gt (tgt := 107) hx hb d_Tree_init_45 (by decide) ⟨by omega, by omega⟩ ⟨by omega, by omega⟩ (fun hc2 => absurd hc2 (by omega)) (fun hc2 => ?_)
      refine lv_aload_n hx hb d_Tree_init_48 rfl (lv_at hl 1 rfl) ?_
      refine y_getr hx hb hA in_Tree hown hK.1 hW 12 (by omega) lay_12 rfl 1 (by decide) (hA _ k_fl_Tree_9) rfl d_Tree_init_49 ?_
      refine lv_iload_n hx hb d_Tree_init_52 rfl (lv_at hl 0 rfl) ?_
      refine lv_iconst (v := J (1)) hx hb d_Tree_init_53 rfl ?_
      refine y_isub hx hb d_Tree_init_54 ?_
      refine lv_iconst (v := J (0)) hx hb d_Tree_init_55 rfl ?_
      refine y_ci (y_runS (As := [.int (J ((((v + 1) : Nat) : Int) - 1)), .int (J (0))]) (rest := [.ref (z + 13)]) ⟨hx, hb, hml, hown, hts⟩ (c_Tree_place l G v (by omega) ((((v + 1) : Nat) : Int) - 1) (0) (by omega)) 2 k_co_Tree_place k_ml_Tree_28 k_st_Tree_place k_in_Tree rfl rfl (by decide +kernel) ⟨Nat.le_of_ble_eq_true rfl, Nat.le_of_ble_eq_true rfl⟩ (yPs0 (yK_bl G) (yK_mv G) hK) rfl hl.1 rfl (Nat.le_of_ble_eq_true rfl) d_Tree_init_56 ⟨Nat.le_of_ble_eq_true rfl, Nat.le_of_ble_eq_true rfl⟩) hS hW (fun H locs hW hS => ?_)
      refine y_iald hx hb hK.1 hW 13 (by omega) lay_13 rfl (by decide) (tpl v 0) (by rw [tpl_int (by omega)]; rfl) ht0 d_Tree_init_59 ?_
      rw [hI v 0 (by omega) hp0]
      refine lv_istore_n (lv' := [(3, .int (J (nd (fun _ => 0) v 0))), (2, .int (J ((((v + 1) : Nat) : Int)))), (0, .ref (z + 12)), (1, .ref (z + 1))]) hx hb d_Tree_init_60 rfl hl (by decide) rfl (fun ls hl => ?_)
      refine lv_aload_n hx hb d_Tree_init_61 rfl (lv_at hl 3 rfl) ?_
      refine lv_iload_n hx hb d_Tree_init_62 rfl (lv_at hl 0 rfl) ?_
      refine lv_iload_n hx hb d_Tree_init_63 rfl (lv_at hl 0 rfl) ?_
      refine lv_iload_n hx hb d_Tree_init_64 rfl (lv_at hl 1 rfl) ?_
      refine y_ci (y_runV (As := [.int (J (nd (fun _ => 0) v 0)), .int (J (nd (fun _ => 0) v 0)), .int (J ((((v + 1) : Nat) : Int)))]) (rest := []) ⟨hx, hb, hml, hown, hts⟩ (c_Bases_hash l G z σ hBs (nd (fun _ => 0) v 0) (nd (fun _ => 0) v 0) ((((v + 1) : Nat) : Int)) ⟨by omega, by omega⟩ ⟨by omega, by omega⟩ ⟨by omega, by omega⟩) 3 k_co_Bases_hash k_ml_Tree_32 k_im_Bases_hash k_se_Bases_hash k_in_Bases rfl rfl (by decide +kernel) ⟨Nat.le_of_ble_eq_true rfl, Nat.le_of_ble_eq_true rfl⟩ (yPv (yK_bl G) (yK_mv G) hK hK.1 (yW_kept hB (fun d hd h => hS.2.1 _ h (by show ¬ z + 12 ≤ z + d; omega))) (by omega) lay_1 rfl (by omega) (by omega)) rfl hl.1 rfl (Nat.le_of_ble_eq_true rfl) d_Tree_init_65 ⟨Nat.le_of_ble_eq_true rfl, Nat.le_of_ble_eq_true rfl⟩) hS hW (fun H locs hW hS => ?_)
      refine lv_istore (lv' := [(4, .int (J (eX (2409 * (nd (fun _ => 0) v 0) + 1499 * (nd (fun _ => 0) v 0) + 1 * (((v + 1) : Nat) : Int))))), (3, .int (J (nd (fun _ => 0) v 0))), (2, .int (J ((((v + 1) : Nat) : Int)))), (0, .ref (z + 12)), (1, .ref (z + 1))]) hx hb d_Tree_init_68 hl (by decide) rfl (fun ls hl => ?_)
      refine lv_iconst (v := J (0)) hx hb d_Tree_init_70 rfl ?_
      refine lv_istore (lv' := [(5, .int (J (0))), (4, .int (J (eX (2409 * (nd (fun _ => 0) v 0) + 1499 * (nd (fun _ => 0) v 0) + 1 * (((v + 1) : Nat) : Int))))), (3, .int (J (nd (fun _ => 0) v 0))), (2, .int (J ((((v + 1) : Nat) : Int)))), (0, .ref (z + 12)), (1, .ref (z + 1))]) hx hb d_Tree_init_71 hl (by decide) rfl (fun ls hl => ?_)
      have e4 : eX (2409 * (nd (fun _ => 0) v 0) + 1499 * (nd (fun _ => 0) v 0) + 1 * (((v + 1) : Nat) : Int)) = nd (fun _ => 0) (v + 1) 0 := by show _ = eX _; exact congrArg eX (by rw [nd0 v (2 * 0), nd0 v (2 * 0 + 1)]; try omega)
      have loop73 : ∀ (q8 t : Nat), t + q8 = 16 / 2 ^ (v + 1) → ∀ (τ : yM), (∀ L' k', L' < (v + 1) → k' < 16 / 2 ^ L' → τ 13 (tpl L' k') = nd (fun _ => 0) L' k') → (∀ k', k' < t → τ 13 (tpl (v + 1) k') = nd (fun _ => 0) (v + 1) 0) → ∀ (ls : Array Slot) (H : Heap) (locs : List Loc), yW ycl G yLP 12 5 z τ H → va_S (fun b9 => z + 12 ≤ b9) s.heap H locs → lv_has ls 6 [(5, .int (J (((t : Nat) : Int)))), (4, .int (J (nd (fun _ => 0) (v + 1) 0))), (2, .int (J (((v + 1 : Nat) : Int)))), (0, .ref (z + 12)), (1, .ref (z + 1))] → W p l e ({ frames := 4, cells := 4, slots := 79, locals := 102 } : Room) s m ([.ref (z + 12), .ref (z + 1)] : List Value).toArray below meth c H locs (4) (79) (MQ below (yQn G yLP 12 5 z (fun τ => yTr τ (fun _ => 0) ∧ τ 12 5 = 0)) ([.ref (z + 12), .ref (z + 1)] : List Value).toArray s 4 79 (fun b9 => z + 12 ≤ b9)) (F0 m 73 ls []) := by
        intro q8
        induction q8 with
        | zero =>
          intro t htk τ hI hT ls H locs hW hS hl
          have hJ : (∀ L' k', L' < (v + 1 + 1) → k' < 16 / 2 ^ L' → τ 13 (tpl L' k') = nd (fun _ => 0) L' k') := fun L' k' h1 h2 => by
            by_cases e : L' = v + 1
            · subst e; rw [hT k' (by omega), nd0 (v + 1) k']
            · exact hI L' k' (by omega) h2
          refine lv_iload hx hb d_Tree_init_73 (lv_at hl 0 rfl) ?_
          refine lv_bipush (v := J (16)) hx hb d_Tree_init_75 (by decide) ?_
          refine lv_iload_n hx hb d_Tree_init_77 rfl (lv_at hl 2 rfl) ?_
          refine y_ishr hx hb d_Tree_init_78 (v + 1) rfl (by omega) (by omega) (by omega) ?_
          refine y_icmp_ge (tgt := 101) hx hb d_Tree_init_79 (by decide) ⟨by omega, by omega⟩ ⟨by rw [hdv]; exact Int.le_trans (by decide) (Int.natCast_nonneg _), by rw [hdv]; omega⟩ (fun hc3 => ?_) (fun hc3 => absurd hc3 (by rw [hdv]; omega))
          refine lv_iinc (k := 2) (v := J (((v + 1 + 1 : Nat) : Int))) (lv' := [(2, .int (J (((v + 1 + 1 : Nat) : Int)))), (5, .int (J (((t : Nat) : Int)))), (4, .int (J (nd (fun _ => 0) (v + 1) 0))), (0, .ref (z + 12)), (1, .ref (z + 1))]) hx hb d_Tree_init_101 hl rfl (by rw [Int.natCast_add (v + 1) 1]; exact J_add _ _) (by decide) rfl (fun ls hl => ?_)
          refine lv_goto (tgt := 43) hx hb d_Tree_init_104 (by decide) ?_
          refine iho (v + 1) (by omega) _ hJ ls H locs hW hS ?_
          exact lv_sub hl [0, 3, 4] rfl
        | succ q8 ih =>
          intro t htk τ hI hT ls H locs hW hS hl
          have ht1 := tpl_lt (L := v + 1) (k := t) (by omega) (by omega)
          refine lv_iload hx hb d_Tree_init_73 (lv_at hl 0 rfl) ?_
          refine lv_bipush (v := J (16)) hx hb d_Tree_init_75 (by decide) ?_
          refine lv_iload_n hx hb d_Tree_init_77 rfl (lv_at hl 2 rfl) ?_
          refine y_ishr hx hb d_Tree_init_78 (v + 1) rfl (by omega) (by omega) (by omega) ?_
          refine y_icmp_ge (tgt := 101) hx hb d_Tree_init_79 (by decide) ⟨by omega, by omega⟩ ⟨by rw [hdv]; exact Int.le_trans (by decide) (Int.natCast_nonneg _), by rw [hdv]; omega⟩ (fun hc4 => absurd hc4 (by rw [hdv]; omega)) (fun hc4 => ?_)
          refine lv_aload_n hx hb d_Tree_init_82 rfl (lv_at hl 3 rfl) ?_
          refine y_getr hx hb hA in_Tree hown hK.1 hW 12 (by omega) lay_12 rfl 1 (by decide) (hA _ k_fl_Tree_9) rfl d_Tree_init_83 ?_
          refine lv_iload_n hx hb d_Tree_init_86 rfl (lv_at hl 2 rfl) ?_
          refine lv_iload hx hb d_Tree_init_87 (lv_at hl 0 rfl) ?_
          refine y_ci (y_runS (As := [.int (J (((v + 1 : Nat) : Int))), .int (J (((t : Nat) : Int)))]) (rest := [.ref (z + 13)]) ⟨hx, hb, hml, hown, hts⟩ (c_Tree_place l G (v + 1) (by omega) (((v + 1 : Nat) : Int)) (((t : Nat) : Int)) (by omega)) 2 k_co_Tree_place k_ml_Tree_28 k_st_Tree_place k_in_Tree rfl rfl (by decide +kernel) ⟨Nat.le_of_ble_eq_true rfl, Nat.le_of_ble_eq_true rfl⟩ (yPs0 (yK_bl G) (yK_mv G) hK) rfl hl.1 rfl (Nat.le_of_ble_eq_true rfl) d_Tree_init_89 ⟨Nat.le_of_ble_eq_true rfl, Nat.le_of_ble_eq_true rfl⟩) hS hW (fun H locs hW hS => ?_)
          refine lv_iload hx hb d_Tree_init_92 (lv_at hl 1 rfl) ?_
          refine y_iast hx hb hK.1 hW 13 (by omega) lay_13 rfl (by decide) hS hAr (tpl (v + 1) t) (by rw [tpl_int (by omega)]) ht1 d_Tree_init_94 (fun H locs hW hS => ?_)
          refine lv_iinc (k := 0) (v := J (((t + 1 : Nat) : Int))) (lv' := [(5, .int (J (((t + 1 : Nat) : Int)))), (4, .int (J (nd (fun _ => 0) (v + 1) 0))), (2, .int (J (((v + 1 : Nat) : Int)))), (0, .ref (z + 12)), (1, .ref (z + 1))]) hx hb d_Tree_init_95 hl rfl (by rw [Int.natCast_add t 1]; exact J_add _ _) (by decide) rfl (fun ls hl => ?_)
          refine lv_goto (tgt := 73) hx hb d_Tree_init_98 (by decide) ?_
          refine ih (t + 1) (by omega) _ (fun L' k' h1 h2 => ?_) (fun k' hk' => ?_) ls H locs hW hS hl
          · rw [y2_ot (fun e => absurd (tpl_inj (by omega) (by omega) h2 (by omega) e).1 (by omega))]; exact hI L' k' h1 h2
          · by_cases e : k' = t
            · subst e; rw [y2_at]
            · rw [y2_ot (fun e2 => absurd (tpl_inj (by omega) (by omega) (by omega) (by omega) e2).2 e)]; exact hT k' (by omega)
      exact loop73 (16 / 2 ^ (v + 1)) 0 (by omega) τ hI (fun k' h => absurd h (Nat.not_lt_zero k')) ls _ _ hW hS (by rw [← e4]; exact lv_sub hl [0, 1, 3, 4, 5] rfl)
  exact loop43 4 0 rfl (fun _ _ => 0) (fun L' k' h1 _ => by have e : L' = 0 := (by omega); subst e; rfl) ls _ _ hW hS (lv_sub hl [0, 1, 2] rfl)
