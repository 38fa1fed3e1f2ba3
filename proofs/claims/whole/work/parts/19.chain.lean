theorem d_Chain_hasRoot_0 : decode b_Chain_hasRoot 0 = .ok (.iload_n 1, 1) := by decide +kernel
theorem d_Chain_hasRoot_1 : decode b_Chain_hasRoot 1 = .ok (.aload_n 0, 1) := by decide +kernel
theorem d_Chain_hasRoot_2 : decode b_Chain_hasRoot 2 = .ok (.getfield 17, 3) := by decide +kernel
theorem d_Chain_hasRoot_5 : decode b_Chain_hasRoot 5 = .ok (.if_icmp .ne 7, 3) := by decide +kernel
theorem d_Chain_hasRoot_8 : decode b_Chain_hasRoot 8 = .ok (.iconst 1, 1) := by decide +kernel
theorem d_Chain_hasRoot_9 : decode b_Chain_hasRoot 9 = .ok (.goto 4, 3) := by decide +kernel
theorem d_Chain_hasRoot_12 : decode b_Chain_hasRoot 12 = .ok (.iconst 0, 1) := by decide +kernel
theorem d_Chain_hasRoot_13 : decode b_Chain_hasRoot 13 = .ok (.istore_n 2, 1) := by decide +kernel
theorem d_Chain_hasRoot_14 : decode b_Chain_hasRoot 14 = .ok (.iconst 0, 1) := by decide +kernel
theorem d_Chain_hasRoot_15 : decode b_Chain_hasRoot 15 = .ok (.istore_n 3, 1) := by decide +kernel
theorem d_Chain_hasRoot_16 : decode b_Chain_hasRoot 16 = .ok (.iload_n 3, 1) := by decide +kernel
theorem d_Chain_hasRoot_17 : decode b_Chain_hasRoot 17 = .ok (.aload_n 0, 1) := by decide +kernel
theorem d_Chain_hasRoot_18 : decode b_Chain_hasRoot 18 = .ok (.getfield 22, 3) := by decide +kernel
theorem d_Chain_hasRoot_21 : decode b_Chain_hasRoot 21 = .ok (.if_icmp .ge 32, 3) := by decide +kernel
theorem d_Chain_hasRoot_24 : decode b_Chain_hasRoot 24 = .ok (.iload_n 2, 1) := by decide +kernel
theorem d_Chain_hasRoot_25 : decode b_Chain_hasRoot 25 = .ok (.ifCond .ne 28, 3) := by decide +kernel
theorem d_Chain_hasRoot_28 : decode b_Chain_hasRoot 28 = .ok (.aload_n 0, 1) := by decide +kernel
theorem d_Chain_hasRoot_29 : decode b_Chain_hasRoot 29 = .ok (.getfield 11, 3) := by decide +kernel
theorem d_Chain_hasRoot_32 : decode b_Chain_hasRoot 32 = .ok (.iload_n 3, 1) := by decide +kernel
theorem d_Chain_hasRoot_33 : decode b_Chain_hasRoot 33 = .ok (.aaload, 1) := by decide +kernel
theorem d_Chain_hasRoot_34 : decode b_Chain_hasRoot 34 = .ok (.getfield 28, 3) := by decide +kernel
theorem d_Chain_hasRoot_37 : decode b_Chain_hasRoot 37 = .ok (.iload_n 1, 1) := by decide +kernel
theorem d_Chain_hasRoot_38 : decode b_Chain_hasRoot 38 = .ok (.if_icmp .ne 7, 3) := by decide +kernel
theorem d_Chain_hasRoot_41 : decode b_Chain_hasRoot 41 = .ok (.iconst 1, 1) := by decide +kernel
theorem d_Chain_hasRoot_42 : decode b_Chain_hasRoot 42 = .ok (.goto 4, 3) := by decide +kernel
theorem d_Chain_hasRoot_45 : decode b_Chain_hasRoot 45 = .ok (.iconst 0, 1) := by decide +kernel
theorem d_Chain_hasRoot_46 : decode b_Chain_hasRoot 46 = .ok (.istore_n 2, 1) := by decide +kernel
theorem d_Chain_hasRoot_47 : decode b_Chain_hasRoot 47 = .ok (.iinc 3 1, 3) := by decide +kernel
theorem d_Chain_hasRoot_50 : decode b_Chain_hasRoot 50 = .ok (.goto (-34), 3) := by decide +kernel
theorem d_Chain_hasRoot_53 : decode b_Chain_hasRoot 53 = .ok (.iload_n 2, 1) := by decide +kernel
theorem d_Chain_hasRoot_54 : decode b_Chain_hasRoot 54 = .ok (.ireturn, 1) := by decide +kernel
theorem d_Chain_reveals_0 : decode b_Chain_reveals 0 = .ok (.iconst 0, 1) := by decide +kernel
theorem d_Chain_reveals_1 : decode b_Chain_reveals 1 = .ok (.istore_n 2, 1) := by decide +kernel
theorem d_Chain_reveals_2 : decode b_Chain_reveals 2 = .ok (.iload_n 2, 1) := by decide +kernel
theorem d_Chain_reveals_3 : decode b_Chain_reveals 3 = .ok (.aload_n 0, 1) := by decide +kernel
theorem d_Chain_reveals_4 : decode b_Chain_reveals 4 = .ok (.getfield 22, 3) := by decide +kernel
theorem d_Chain_reveals_7 : decode b_Chain_reveals 7 = .ok (.if_icmp .ge 47, 3) := by decide +kernel
theorem d_Chain_reveals_10 : decode b_Chain_reveals 10 = .ok (.iconst 0, 1) := by decide +kernel
theorem d_Chain_reveals_11 : decode b_Chain_reveals 11 = .ok (.istore_n 3, 1) := by decide +kernel
theorem d_Chain_reveals_12 : decode b_Chain_reveals 12 = .ok (.iload_n 3, 1) := by decide +kernel
theorem d_Chain_reveals_13 : decode b_Chain_reveals 13 = .ok (.aload_n 0, 1) := by decide +kernel
theorem d_Chain_reveals_14 : decode b_Chain_reveals 14 = .ok (.getfield 11, 3) := by decide +kernel
theorem d_Chain_reveals_17 : decode b_Chain_reveals 17 = .ok (.iload_n 2, 1) := by decide +kernel
theorem d_Chain_reveals_18 : decode b_Chain_reveals 18 = .ok (.aaload, 1) := by decide +kernel
theorem d_Chain_reveals_19 : decode b_Chain_reveals 19 = .ok (.getfield 31, 3) := by decide +kernel
theorem d_Chain_reveals_22 : decode b_Chain_reveals 22 = .ok (.if_icmp .ge 26, 3) := by decide +kernel
theorem d_Chain_reveals_25 : decode b_Chain_reveals 25 = .ok (.aload_n 0, 1) := by decide +kernel
theorem d_Chain_reveals_26 : decode b_Chain_reveals 26 = .ok (.getfield 11, 3) := by decide +kernel
theorem d_Chain_reveals_29 : decode b_Chain_reveals 29 = .ok (.iload_n 2, 1) := by decide +kernel
theorem d_Chain_reveals_30 : decode b_Chain_reveals 30 = .ok (.aaload, 1) := by decide +kernel
theorem d_Chain_reveals_31 : decode b_Chain_reveals 31 = .ok (.getfield 34, 3) := by decide +kernel
theorem d_Chain_reveals_34 : decode b_Chain_reveals 34 = .ok (.iload_n 3, 1) := by decide +kernel
theorem d_Chain_reveals_35 : decode b_Chain_reveals 35 = .ok (.iaload, 1) := by decide +kernel
theorem d_Chain_reveals_36 : decode b_Chain_reveals 36 = .ok (.iload_n 1, 1) := by decide +kernel
theorem d_Chain_reveals_37 : decode b_Chain_reveals 37 = .ok (.if_icmp .ne 5, 3) := by decide +kernel
theorem d_Chain_reveals_40 : decode b_Chain_reveals 40 = .ok (.iconst 1, 1) := by decide +kernel
theorem d_Chain_reveals_41 : decode b_Chain_reveals 41 = .ok (.ireturn, 1) := by decide +kernel
theorem d_Chain_reveals_42 : decode b_Chain_reveals 42 = .ok (.iinc 3 1, 3) := by decide +kernel
theorem d_Chain_reveals_45 : decode b_Chain_reveals 45 = .ok (.goto (-33), 3) := by decide +kernel
theorem d_Chain_reveals_48 : decode b_Chain_reveals 48 = .ok (.iinc 2 1, 3) := by decide +kernel
theorem d_Chain_reveals_51 : decode b_Chain_reveals 51 = .ok (.goto (-49), 3) := by decide +kernel
theorem d_Chain_reveals_54 : decode b_Chain_reveals 54 = .ok (.iconst 0, 1) := by decide +kernel
theorem d_Chain_reveals_55 : decode b_Chain_reveals 55 = .ok (.ireturn, 1) := by decide +kernel
theorem d_Chain_append_0 : decode b_Chain_append 0 = .ok (.aload_n 0, 1) := by decide +kernel
theorem d_Chain_append_1 : decode b_Chain_append 1 = .ok (.getfield 11, 3) := by decide +kernel
theorem d_Chain_append_4 : decode b_Chain_append 4 = .ok (.aload_n 0, 1) := by decide +kernel
theorem d_Chain_append_5 : decode b_Chain_append 5 = .ok (.getfield 22, 3) := by decide +kernel
theorem d_Chain_append_8 : decode b_Chain_append 8 = .ok (.aaload, 1) := by decide +kernel
theorem d_Chain_append_9 : decode b_Chain_append 9 = .ok (.astore_n 3, 1) := by decide +kernel
theorem d_Chain_append_10 : decode b_Chain_append 10 = .ok (.aload_n 3, 1) := by decide +kernel
theorem d_Chain_append_11 : decode b_Chain_append 11 = .ok (.aload_n 1, 1) := by decide +kernel
theorem d_Chain_append_12 : decode b_Chain_append 12 = .ok (.getfield 38, 3) := by decide +kernel
theorem d_Chain_append_15 : decode b_Chain_append 15 = .ok (.putfield 31, 3) := by decide +kernel
theorem d_Chain_append_18 : decode b_Chain_append 18 = .ok (.aload_n 3, 1) := by decide +kernel
theorem d_Chain_append_19 : decode b_Chain_append 19 = .ok (.aload_n 1, 1) := by decide +kernel
theorem d_Chain_append_20 : decode b_Chain_append 20 = .ok (.getfield 41, 3) := by decide +kernel
theorem d_Chain_append_23 : decode b_Chain_append 23 = .ok (.putfield 44, 3) := by decide +kernel
theorem d_Chain_append_26 : decode b_Chain_append 26 = .ok (.aload_n 3, 1) := by decide +kernel
theorem d_Chain_append_27 : decode b_Chain_append 27 = .ok (.aload_n 1, 1) := by decide +kernel
theorem d_Chain_append_28 : decode b_Chain_append 28 = .ok (.getfield 45, 3) := by decide +kernel
theorem d_Chain_append_31 : decode b_Chain_append 31 = .ok (.putfield 48, 3) := by decide +kernel
theorem d_Chain_append_34 : decode b_Chain_append 34 = .ok (.aload_n 3, 1) := by decide +kernel
theorem d_Chain_append_35 : decode b_Chain_append 35 = .ok (.iload_n 2, 1) := by decide +kernel
theorem d_Chain_append_36 : decode b_Chain_append 36 = .ok (.putfield 28, 3) := by decide +kernel
theorem d_Chain_append_39 : decode b_Chain_append 39 = .ok (.iconst 0, 1) := by decide +kernel
theorem d_Chain_append_40 : decode b_Chain_append 40 = .ok (.istore 4, 2) := by decide +kernel
theorem d_Chain_append_42 : decode b_Chain_append 42 = .ok (.iload 4, 2) := by decide +kernel
theorem d_Chain_append_44 : decode b_Chain_append 44 = .ok (.aload_n 1, 1) := by decide +kernel
theorem d_Chain_append_45 : decode b_Chain_append 45 = .ok (.getfield 38, 3) := by decide +kernel
theorem d_Chain_append_48 : decode b_Chain_append 48 = .ok (.if_icmp .ge 26, 3) := by decide +kernel
theorem d_Chain_append_51 : decode b_Chain_append 51 = .ok (.aload_n 3, 1) := by decide +kernel
theorem d_Chain_append_52 : decode b_Chain_append 52 = .ok (.getfield 34, 3) := by decide +kernel
theorem d_Chain_append_55 : decode b_Chain_append 55 = .ok (.iload 4, 2) := by decide +kernel
theorem d_Chain_append_57 : decode b_Chain_append 57 = .ok (.aload_n 1, 1) := by decide +kernel
theorem d_Chain_append_58 : decode b_Chain_append 58 = .ok (.getfield 49, 3) := by decide +kernel
theorem d_Chain_append_61 : decode b_Chain_append 61 = .ok (.iload 4, 2) := by decide +kernel
theorem d_Chain_append_63 : decode b_Chain_append 63 = .ok (.aaload, 1) := by decide +kernel
theorem d_Chain_append_64 : decode b_Chain_append 64 = .ok (.getfield 53, 3) := by decide +kernel
theorem d_Chain_append_67 : decode b_Chain_append 67 = .ok (.iastore, 1) := by decide +kernel
theorem d_Chain_append_68 : decode b_Chain_append 68 = .ok (.iinc 4 1, 3) := by decide +kernel
theorem d_Chain_append_71 : decode b_Chain_append 71 = .ok (.goto (-29), 3) := by decide +kernel
theorem d_Chain_append_74 : decode b_Chain_append 74 = .ok (.aload_n 0, 1) := by decide +kernel
theorem d_Chain_append_75 : decode b_Chain_append 75 = .ok (.dup, 1) := by decide +kernel
theorem d_Chain_append_76 : decode b_Chain_append 76 = .ok (.getfield 25, 3) := by decide +kernel
theorem d_Chain_append_79 : decode b_Chain_append 79 = .ok (.aload_n 1, 1) := by decide +kernel
theorem d_Chain_append_80 : decode b_Chain_append 80 = .ok (.getfield 45, 3) := by decide +kernel
theorem d_Chain_append_83 : decode b_Chain_append 83 = .ok (.isub, 1) := by decide +kernel
theorem d_Chain_append_84 : decode b_Chain_append 84 = .ok (.putfield 25, 3) := by decide +kernel
theorem d_Chain_append_87 : decode b_Chain_append 87 = .ok (.aload_n 0, 1) := by decide +kernel
theorem d_Chain_append_88 : decode b_Chain_append 88 = .ok (.dup, 1) := by decide +kernel
theorem d_Chain_append_89 : decode b_Chain_append 89 = .ok (.getfield 22, 3) := by decide +kernel
theorem d_Chain_append_92 : decode b_Chain_append 92 = .ok (.iconst 1, 1) := by decide +kernel
theorem d_Chain_append_93 : decode b_Chain_append 93 = .ok (.iadd, 1) := by decide +kernel
theorem d_Chain_append_94 : decode b_Chain_append 94 = .ok (.putfield 22, 3) := by decide +kernel
theorem d_Chain_append_97 : decode b_Chain_append 97 = .ok (.return_, 1) := by decide +kernel
theorem d_Chain_removeLatest_0 : decode b_Chain_removeLatest 0 = .ok (.aload_n 0, 1) := by decide +kernel
theorem d_Chain_removeLatest_1 : decode b_Chain_removeLatest 1 = .ok (.dup, 1) := by decide +kernel
theorem d_Chain_removeLatest_2 : decode b_Chain_removeLatest 2 = .ok (.getfield 22, 3) := by decide +kernel
theorem d_Chain_removeLatest_5 : decode b_Chain_removeLatest 5 = .ok (.iconst 1, 1) := by decide +kernel
theorem d_Chain_removeLatest_6 : decode b_Chain_removeLatest 6 = .ok (.isub, 1) := by decide +kernel
theorem d_Chain_removeLatest_7 : decode b_Chain_removeLatest 7 = .ok (.putfield 22, 3) := by decide +kernel
theorem d_Chain_removeLatest_10 : decode b_Chain_removeLatest 10 = .ok (.aload_n 0, 1) := by decide +kernel
theorem d_Chain_removeLatest_11 : decode b_Chain_removeLatest 11 = .ok (.dup, 1) := by decide +kernel
theorem d_Chain_removeLatest_12 : decode b_Chain_removeLatest 12 = .ok (.getfield 25, 3) := by decide +kernel
theorem d_Chain_removeLatest_15 : decode b_Chain_removeLatest 15 = .ok (.aload_n 0, 1) := by decide +kernel
theorem d_Chain_removeLatest_16 : decode b_Chain_removeLatest 16 = .ok (.getfield 11, 3) := by decide +kernel
theorem d_Chain_removeLatest_19 : decode b_Chain_removeLatest 19 = .ok (.aload_n 0, 1) := by decide +kernel
theorem d_Chain_removeLatest_20 : decode b_Chain_removeLatest 20 = .ok (.getfield 22, 3) := by decide +kernel
theorem d_Chain_removeLatest_23 : decode b_Chain_removeLatest 23 = .ok (.aaload, 1) := by decide +kernel
theorem d_Chain_removeLatest_24 : decode b_Chain_removeLatest 24 = .ok (.getfield 48, 3) := by decide +kernel
theorem d_Chain_removeLatest_27 : decode b_Chain_removeLatest 27 = .ok (.iadd, 1) := by decide +kernel
theorem d_Chain_removeLatest_28 : decode b_Chain_removeLatest 28 = .ok (.putfield 25, 3) := by decide +kernel
theorem d_Chain_removeLatest_31 : decode b_Chain_removeLatest 31 = .ok (.aload_n 0, 1) := by decide +kernel
theorem d_Chain_removeLatest_32 : decode b_Chain_removeLatest 32 = .ok (.getfield 11, 3) := by decide +kernel
theorem d_Chain_removeLatest_35 : decode b_Chain_removeLatest 35 = .ok (.aload_n 0, 1) := by decide +kernel
theorem d_Chain_removeLatest_36 : decode b_Chain_removeLatest 36 = .ok (.getfield 22, 3) := by decide +kernel
theorem d_Chain_removeLatest_39 : decode b_Chain_removeLatest 39 = .ok (.aaload, 1) := by decide +kernel
theorem d_Chain_removeLatest_40 : decode b_Chain_removeLatest 40 = .ok (.getfield 44, 3) := by decide +kernel
theorem d_Chain_removeLatest_43 : decode b_Chain_removeLatest 43 = .ok (.ireturn, 1) := by decide +kernel

noncomputable def b01 (p : Prop) : Int := @ite Int p (Classical.propDecidable p) 1 0
theorem b01_t {p : Prop} (h : p) : b01 p = 1 := by unfold b01; exact if_pos h
theorem b01_f {p : Prop} (h : ¬ p) : b01 p = 0 := by unfold b01; exact if_neg h
theorem b01_c {p q : Prop} (h : p ↔ q) : b01 p = b01 q := by rw [propext h]
theorem b01_01 (p : Prop) : b01 p = 0 ∨ b01 p = 1 := by
  by_cases h : p
  · exact Or.inr (b01_t h)
  · exact Or.inl (b01_f h)
def hasR (σ : yM) (r : Int) (n : Nat) : Prop := r = σ 17 1 ∨ ∃ i, i < n ∧ σ (19 + 2 * i) 4 = r
theorem hasR_mono {σ : yM} {r : Int} {n m : Nat} (h : n ≤ m) (hp : hasR σ r n) : hasR σ r m := by
  rcases hp with hp | ⟨i, h1, h2⟩
  · exact Or.inl hp
  · exact Or.inr ⟨i, by omega, h2⟩
theorem hasR_no {σ : yM} {r : Int} {n : Nat} (hp : ¬ hasR σ r n) (h : ¬ σ (19 + 2 * n) 4 = r) : ¬ hasR σ r (n + 1) := by
  rintro (h1 | ⟨i, h1, h2⟩)
  · exact hp (Or.inl h1)
  · by_cases e : i = n
    · subst e; exact h h2
    · exact hp (Or.inr ⟨i, by omega, h2⟩)
def revB (σ : yM) (sc : Nat → Nat) (x : Int) (n : Nat) : Prop := ∃ i, i < n ∧ ∃ j, j < sc i ∧ σ (19 + 2 * i + 1) j = x
set_option maxHeartbeats 4000000 in
set_option maxRecDepth 100000 in
theorem c_Chain_hasRoot (l : Launch) (G : yG) (z : Nat) (σ : yM) (nb : Nat) (hnbr : nb ≤ 12) (hnb : σ 17 2 = (nb : Int)) (r : Int) (hr0 : jr r) (he : jr (σ 17 1)) (hrt : ∀ i, i < nb → jr (σ (19 + 2 * i) 4)) : Met l y_Chain_hasRoot (Cond.code y_Chain_hasRoot b_Chain_hasRoot 4 (some .boolean) :: yT) ({ frames := 0, cells := 0, slots := 0, locals := 0 } : Room) (yP ycl G yLP 0 73 z σ (yK G) [.ref (z + 17), .int (J (r))]) (yQi (b01 (hasR σ r nb))) 0 0 yN := by
  refine y_met (by decide +kernel) (Nat.le_of_ble_eq_true rfl) ?_
  intro p e s m below meth c ls hx hb hr hml hlocks hown hname hts hv hl
  have hA : ∀ w ∈ yT, w.before _ s = true := fun w h => hts w (List.mem_cons_of_mem _ h)
  have hl : lv_has ls 4 [(0, .ref (z + 17)), (1, .int (J (r)))] := hl
  obtain ⟨hW, hK⟩ := hv
  have hS : va_S yN s.heap s.heap [] := va_S.rf
  refine lv_iload_n hx hb d_Chain_hasRoot_0 rfl (lv_at hl 1 rfl) ?_
  refine lv_aload_n hx hb d_Chain_hasRoot_1 rfl (lv_at hl 0 rfl) ?_
  refine y_geti hx hb hA in_Chain hown hK.1 hW 17 (by omega) lay_17 rfl 1 (by decide) (hA _ k_fl_Chain_17) rfl d_Chain_hasRoot_2 ?_
  refine y_icmp_ne (tgt := 12) hx hb d_Chain_hasRoot_5 (by decide) ⟨by omega, by omega⟩ ⟨by omega, by omega⟩ (fun hce => ?_) (fun hce => ?_)
  · skip
    refine lv_iconst (v := J (0)) hx hb d_Chain_hasRoot_12 rfl ?_
    refine lv_istore_n (lv' := [(2, .int (J (0))), (0, .ref (z + 17)), (1, .int (J (r)))]) hx hb d_Chain_hasRoot_13 rfl hl (by decide) rfl (fun ls hl => ?_)
    refine lv_iconst (v := J (0)) hx hb d_Chain_hasRoot_14 rfl ?_
    refine lv_istore_n (lv' := [(3, .int (J (0))), (2, .int (J (0))), (0, .ref (z + 17)), (1, .int (J (r)))]) hx hb d_Chain_hasRoot_15 rfl hl (by decide) rfl (fun ls hl => ?_)
    have loop16 : ∀ (k n : Nat), n + k = nb → ∀ (h : Int), (h = 0 ∨ h = 1) → (h = 1 → hasR σ r n) → (h = 0 → ¬ hasR σ r n) → ∀ (ls : Array Slot) (H : Heap) (locs : List Loc), yW ycl G yLP 0 73 z σ H → va_S yN s.heap H locs → lv_has ls 4 [(3, .int (J (((n : Nat) : Int)))), (2, .int (J (h))), (0, .ref (z + 17)), (1, .int (J (r)))] → W p l e ({ frames := 0, cells := 0, slots := 0, locals := 0 } : Room) s m ([.ref (z + 17), .int (J (r))] : List Value).toArray below meth c H locs 0 0 (MQ below (yQi (b01 (hasR σ r nb))) ([.ref (z + 17), .int (J (r))] : List Value).toArray s 0 0 yN) (F0 m 16 ls []) := by
      intro k
      induction k with
      | zero =>
        intro n hnk h h01 hI1 hI0 ls H locs hW hS hl
        have hnN : nb = n := by omega
        subst hnN
        refine lv_iload_n hx hb d_Chain_hasRoot_16 rfl (lv_at hl 0 rfl) ?_
        refine lv_aload_n hx hb d_Chain_hasRoot_17 rfl (lv_at hl 2 rfl) ?_
        refine y_geti hx hb hA in_Chain hown hK.1 hW 17 (by omega) lay_17 rfl 2 (by decide) (hA _ k_fl_Chain_22) rfl d_Chain_hasRoot_18 ?_
        rw [hnb]
        refine y_icmp_ge (tgt := 53) hx hb d_Chain_hasRoot_21 (by decide) ⟨by omega, by omega⟩ ⟨by omega, by omega⟩ (fun hc2 => ?_) (fun hc2 => absurd hc2 (by omega))
        refine lv_iload_n hx hb d_Chain_hasRoot_53 rfl (lv_at hl 1 rfl) ?_
        exact y_retz hx hb hr hlocks hS (by omega) (h01.elim (fun h1 => h1.trans (b01_f (hI0 h1)).symm) (fun h1 => h1.trans (b01_t (hI1 h1)).symm)) d_Chain_hasRoot_54
      | succ k ih =>
        intro n hnk h h01 hI1 hI0 ls H locs hW hS hl
        have hrn := hrt n (by omega)
        refine lv_iload_n hx hb d_Chain_hasRoot_16 rfl (lv_at hl 0 rfl) ?_
        refine lv_aload_n hx hb d_Chain_hasRoot_17 rfl (lv_at hl 2 rfl) ?_
        refine y_geti hx hb hA in_Chain hown hK.1 hW 17 (by omega) lay_17 rfl 2 (by decide) (hA _ k_fl_Chain_22) rfl d_Chain_hasRoot_18 ?_
        rw [hnb]
        refine y_icmp_ge (tgt := 53) hx hb d_Chain_hasRoot_21 (by decide) ⟨by omega, by omega⟩ ⟨by omega, by omega⟩ (fun hc3 => absurd hc3 (by omega)) (fun hc3 => ?_)
        refine lv_iload_n hx hb d_Chain_hasRoot_24 rfl (lv_at hl 1 rfl) ?_
        refine y_if_ne (tgt := 53) hx hb d_Chain_hasRoot_25 (by decide) ⟨by omega, by omega⟩ (fun hz => ?_) (fun hz => ?_)
        · skip
          refine lv_iload_n hx hb d_Chain_hasRoot_53 rfl (lv_at hl 1 rfl) ?_
          exact y_retz hx hb hr hlocks hS (by omega) (h01.elim (fun h1 => absurd h1 hz) (fun h1 => h1.trans (b01_t (hasR_mono (by omega) (hI1 h1))).symm)) d_Chain_hasRoot_54
        · skip
          refine lv_aload_n hx hb d_Chain_hasRoot_28 rfl (lv_at hl 2 rfl) ?_
          refine y_getr hx hb hA in_Chain hown hK.1 hW 17 (by omega) lay_17 rfl 0 (by decide) (hA _ k_fl_Chain_11) rfl d_Chain_hasRoot_29 ?_
          refine lv_iload_n hx hb d_Chain_hasRoot_32 rfl (lv_at hl 0 rfl) ?_
          refine y_aald hx hb hK.1 hW 18 (by omega) lay_18 rfl (by decide) n rfl (by omega) d_Chain_hasRoot_33 ?_
          refine y_geti hx hb hA in_Block hown hK.1 hW (19 + 2 * n) (by omega) (lay_Block (n := n) (by omega)) rfl 4 (by decide) (hA _ k_fl_Chain_28) rfl d_Chain_hasRoot_34 ?_
          refine lv_iload_n hx hb d_Chain_hasRoot_37 rfl (lv_at hl 3 rfl) ?_
          refine y_icmp_ne (tgt := 45) hx hb d_Chain_hasRoot_38 (by decide) ⟨by omega, by omega⟩ ⟨by omega, by omega⟩ (fun hc2 => ?_) (fun hc2 => ?_)
          · skip
            refine lv_iconst (v := J (0)) hx hb d_Chain_hasRoot_45 rfl ?_
            refine lv_istore_n (lv' := [(2, .int (J (0))), (3, .int (J (((n : Nat) : Int)))), (0, .ref (z + 17)), (1, .int (J (r)))]) hx hb d_Chain_hasRoot_46 rfl hl (by decide) rfl (fun ls hl => ?_)
            refine lv_iinc (k := 1) (v := J (((n + 1 : Nat) : Int))) (lv' := [(3, .int (J (((n + 1 : Nat) : Int)))), (2, .int (J (0))), (0, .ref (z + 17)), (1, .int (J (r)))]) hx hb d_Chain_hasRoot_47 hl rfl (by rw [Int.natCast_add n 1]; exact J_add _ _) (by decide) rfl (fun ls hl => ?_)
            refine lv_goto (tgt := 16) hx hb d_Chain_hasRoot_50 (by decide) ?_
            refine ih (n + 1) (by omega) 0 (by omega) ?_ ?_ ls H locs hW hS hl
            · exact fun e => absurd e (by decide)
            · exact fun _ => hasR_no (hI0 hz) hc2
          · skip
            refine lv_iconst (v := J (1)) hx hb d_Chain_hasRoot_41 rfl ?_
            refine lv_goto (tgt := 46) hx hb d_Chain_hasRoot_42 (by decide) ?_
            refine lv_istore_n (lv' := [(2, .int (J (1))), (3, .int (J (((n : Nat) : Int)))), (0, .ref (z + 17)), (1, .int (J (r)))]) hx hb d_Chain_hasRoot_46 rfl hl (by decide) rfl (fun ls hl => ?_)
            refine lv_iinc (k := 1) (v := J (((n + 1 : Nat) : Int))) (lv' := [(3, .int (J (((n + 1 : Nat) : Int)))), (2, .int (J (1))), (0, .ref (z + 17)), (1, .int (J (r)))]) hx hb d_Chain_hasRoot_47 hl rfl (by rw [Int.natCast_add n 1]; exact J_add _ _) (by decide) rfl (fun ls hl => ?_)
            refine lv_goto (tgt := 16) hx hb d_Chain_hasRoot_50 (by decide) ?_
            refine ih (n + 1) (by omega) 1 (by omega) ?_ ?_ ls H locs hW hS hl
            · exact fun _ => Or.inr ⟨n, by omega, hc2⟩
            · exact fun e => absurd e (by decide)
    exact loop16 nb 0 (by omega) 0 (by omega) (fun e => absurd e (by decide)) (fun _ hp => hp.elim hce (fun ⟨i, h1, _⟩ => absurd h1 (Nat.not_lt_zero i))) ls _ _ hW hS hl
  · skip
    refine lv_iconst (v := J (1)) hx hb d_Chain_hasRoot_8 rfl ?_
    refine lv_goto (tgt := 13) hx hb d_Chain_hasRoot_9 (by decide) ?_
    refine lv_istore_n (lv' := [(2, .int (J (1))), (0, .ref (z + 17)), (1, .int (J (r)))]) hx hb d_Chain_hasRoot_13 rfl hl (by decide) rfl (fun ls hl => ?_)
    refine lv_iconst (v := J (0)) hx hb d_Chain_hasRoot_14 rfl ?_
    refine lv_istore_n (lv' := [(3, .int (J (0))), (2, .int (J (1))), (0, .ref (z + 17)), (1, .int (J (r)))]) hx hb d_Chain_hasRoot_15 rfl hl (by decide) rfl (fun ls hl => ?_)
    have loop16 : ∀ (k n : Nat), n + k = nb → ∀ (h : Int), (h = 0 ∨ h = 1) → (h = 1 → hasR σ r n) → (h = 0 → ¬ hasR σ r n) → ∀ (ls : Array Slot) (H : Heap) (locs : List Loc), yW ycl G yLP 0 73 z σ H → va_S yN s.heap H locs → lv_has ls 4 [(3, .int (J (((n : Nat) : Int)))), (2, .int (J (h))), (0, .ref (z + 17)), (1, .int (J (r)))] → W p l e ({ frames := 0, cells := 0, slots := 0, locals := 0 } : Room) s m ([.ref (z + 17), .int (J (r))] : List Value).toArray below meth c H locs 0 0 (MQ below (yQi (b01 (hasR σ r nb))) ([.ref (z + 17), .int (J (r))] : List Value).toArray s 0 0 yN) (F0 m 16 ls []) := by
      intro k
      induction k with
      | zero =>
        intro n hnk h h01 hI1 hI0 ls H locs hW hS hl
        have hnN : nb = n := by omega
        subst hnN
        refine lv_iload_n hx hb d_Chain_hasRoot_16 rfl (lv_at hl 0 rfl) ?_
        refine lv_aload_n hx hb d_Chain_hasRoot_17 rfl (lv_at hl 2 rfl) ?_
        refine y_geti hx hb hA in_Chain hown hK.1 hW 17 (by omega) lay_17 rfl 2 (by decide) (hA _ k_fl_Chain_22) rfl d_Chain_hasRoot_18 ?_
        rw [hnb]
        refine y_icmp_ge (tgt := 53) hx hb d_Chain_hasRoot_21 (by decide) ⟨by omega, by omega⟩ ⟨by omega, by omega⟩ (fun hc6 => ?_) (fun hc6 => absurd hc6 (by omega))
        refine lv_iload_n hx hb d_Chain_hasRoot_53 rfl (lv_at hl 1 rfl) ?_
        exact y_retz hx hb hr hlocks hS (by omega) (h01.elim (fun h1 => h1.trans (b01_f (hI0 h1)).symm) (fun h1 => h1.trans (b01_t (hI1 h1)).symm)) d_Chain_hasRoot_54
      | succ k ih =>
        intro n hnk h h01 hI1 hI0 ls H locs hW hS hl
        have hrn := hrt n (by omega)
        refine lv_iload_n hx hb d_Chain_hasRoot_16 rfl (lv_at hl 0 rfl) ?_
        refine lv_aload_n hx hb d_Chain_hasRoot_17 rfl (lv_at hl 2 rfl) ?_
        refine y_geti hx hb hA in_Chain hown hK.1 hW 17 (by omega) lay_17 rfl 2 (by decide) (hA _ k_fl_Chain_22) rfl d_Chain_hasRoot_18 ?_
        rw [hnb]
        refine y_icmp_ge (tgt := 53) hx hb d_Chain_hasRoot_21 (by decide) ⟨by omega, by omega⟩ ⟨by omega, by omega⟩ (fun hc7 => absurd hc7 (by omega)) (fun hc7 => ?_)
        refine lv_iload_n hx hb d_Chain_hasRoot_24 rfl (lv_at hl 1 rfl) ?_
        refine y_if_ne (tgt := 53) hx hb d_Chain_hasRoot_25 (by decide) ⟨by omega, by omega⟩ (fun hz => ?_) (fun hz => ?_)
        · skip
          refine lv_iload_n hx hb d_Chain_hasRoot_53 rfl (lv_at hl 1 rfl) ?_
          exact y_retz hx hb hr hlocks hS (by omega) (h01.elim (fun h1 => absurd h1 hz) (fun h1 => h1.trans (b01_t (hasR_mono (by omega) (hI1 h1))).symm)) d_Chain_hasRoot_54
        · skip
          refine lv_aload_n hx hb d_Chain_hasRoot_28 rfl (lv_at hl 2 rfl) ?_
          refine y_getr hx hb hA in_Chain hown hK.1 hW 17 (by omega) lay_17 rfl 0 (by decide) (hA _ k_fl_Chain_11) rfl d_Chain_hasRoot_29 ?_
          refine lv_iload_n hx hb d_Chain_hasRoot_32 rfl (lv_at hl 0 rfl) ?_
          refine y_aald hx hb hK.1 hW 18 (by omega) lay_18 rfl (by decide) n rfl (by omega) d_Chain_hasRoot_33 ?_
          refine y_geti hx hb hA in_Block hown hK.1 hW (19 + 2 * n) (by omega) (lay_Block (n := n) (by omega)) rfl 4 (by decide) (hA _ k_fl_Chain_28) rfl d_Chain_hasRoot_34 ?_
          refine lv_iload_n hx hb d_Chain_hasRoot_37 rfl (lv_at hl 3 rfl) ?_
          refine y_icmp_ne (tgt := 45) hx hb d_Chain_hasRoot_38 (by decide) ⟨by omega, by omega⟩ ⟨by omega, by omega⟩ (fun hc2 => ?_) (fun hc2 => ?_)
          · skip
            refine lv_iconst (v := J (0)) hx hb d_Chain_hasRoot_45 rfl ?_
            refine lv_istore_n (lv' := [(2, .int (J (0))), (3, .int (J (((n : Nat) : Int)))), (0, .ref (z + 17)), (1, .int (J (r)))]) hx hb d_Chain_hasRoot_46 rfl hl (by decide) rfl (fun ls hl => ?_)
            refine lv_iinc (k := 1) (v := J (((n + 1 : Nat) : Int))) (lv' := [(3, .int (J (((n + 1 : Nat) : Int)))), (2, .int (J (0))), (0, .ref (z + 17)), (1, .int (J (r)))]) hx hb d_Chain_hasRoot_47 hl rfl (by rw [Int.natCast_add n 1]; exact J_add _ _) (by decide) rfl (fun ls hl => ?_)
            refine lv_goto (tgt := 16) hx hb d_Chain_hasRoot_50 (by decide) ?_
            refine ih (n + 1) (by omega) 0 (by omega) ?_ ?_ ls H locs hW hS hl
            · exact fun e => absurd e (by decide)
            · exact fun _ => hasR_no (hI0 hz) hc2
          · skip
            refine lv_iconst (v := J (1)) hx hb d_Chain_hasRoot_41 rfl ?_
            refine lv_goto (tgt := 46) hx hb d_Chain_hasRoot_42 (by decide) ?_
            refine lv_istore_n (lv' := [(2, .int (J (1))), (3, .int (J (((n : Nat) : Int)))), (0, .ref (z + 17)), (1, .int (J (r)))]) hx hb d_Chain_hasRoot_46 rfl hl (by decide) rfl (fun ls hl => ?_)
            refine lv_iinc (k := 1) (v := J (((n + 1 : Nat) : Int))) (lv' := [(3, .int (J (((n + 1 : Nat) : Int)))), (2, .int (J (1))), (0, .ref (z + 17)), (1, .int (J (r)))]) hx hb d_Chain_hasRoot_47 hl rfl (by rw [Int.natCast_add n 1]; exact J_add _ _) (by decide) rfl (fun ls hl => ?_)
            refine lv_goto (tgt := 16) hx hb d_Chain_hasRoot_50 (by decide) ?_
            refine ih (n + 1) (by omega) 1 (by omega) ?_ ?_ ls H locs hW hS hl
            · exact fun _ => Or.inr ⟨n, by omega, hc2⟩
            · exact fun e => absurd e (by decide)
    exact loop16 nb 0 (by omega) 1 (by omega) (fun _ => Or.inl hce) (fun e => absurd e (by decide)) ls _ _ hW hS hl

set_option maxHeartbeats 4000000 in
set_option maxRecDepth 100000 in
theorem c_Chain_reveals (l : Launch) (G : yG) (z : Nat) (σ : yM) (nb : Nat) (hnbr : nb ≤ 12) (hnb : σ 17 2 = (nb : Int)) (sc : Nat → Nat) (hsc : ∀ i, i < nb → sc i ≤ 2 ∧ σ (19 + 2 * i) 1 = (sc i : Int)) (x : Int) (hx0 : jr x) (hnr : ∀ i, i < nb → ∀ j, j < sc i → jr (σ (19 + 2 * i + 1) j)) : Met l y_Chain_reveals (Cond.code y_Chain_reveals b_Chain_reveals 4 (some .boolean) :: yT) ({ frames := 0, cells := 0, slots := 0, locals := 0 } : Room) (yP ycl G yLP 0 73 z σ (yK G) [.ref (z + 17), .int (J (x))]) (yQi (b01 (revB σ sc x nb))) 0 0 yN := by
  refine y_met (by decide +kernel) (Nat.le_of_ble_eq_true rfl) ?_
  intro p e s m below meth c ls hx hb hr hml hlocks hown hname hts hv hl
  have hA : ∀ w ∈ yT, w.before _ s = true := fun w h => hts w (List.mem_cons_of_mem _ h)
  have hl : lv_has ls 4 [(0, .ref (z + 17)), (1, .int (J (x)))] := hl
  obtain ⟨hW, hK⟩ := hv
  have hS : va_S yN s.heap s.heap [] := va_S.rf
  refine lv_iconst (v := J (0)) hx hb d_Chain_reveals_0 rfl ?_
  refine lv_istore_n (lv' := [(2, .int (J (0))), (0, .ref (z + 17)), (1, .int (J (x)))]) hx hb d_Chain_reveals_1 rfl hl (by decide) rfl (fun ls hl => ?_)
  have loop2 : ∀ (k n : Nat), n + k = nb → ¬ revB σ sc x n → ∀ (ls : Array Slot) (H : Heap) (locs : List Loc), yW ycl G yLP 0 73 z σ H → va_S yN s.heap H locs → lv_has ls 4 [(2, .int (J (((n : Nat) : Int)))), (0, .ref (z + 17)), (1, .int (J (x)))] → W p l e ({ frames := 0, cells := 0, slots := 0, locals := 0 } : Room) s m ([.ref (z + 17), .int (J (x))] : List Value).toArray below meth c H locs 0 0 (MQ below (yQi (b01 (revB σ sc x nb))) ([.ref (z + 17), .int (J (x))] : List Value).toArray s 0 0 yN) (F0 m 2 ls []) := by
    intro k
    induction k with
    | zero =>
      intro n hnk hI ls H locs hW hS hl
      have hnN : nb = n := by omega
      subst hnN
      refine lv_iload_n hx hb d_Chain_reveals_2 rfl (lv_at hl 0 rfl) ?_
      refine lv_aload_n hx hb d_Chain_reveals_3 rfl (lv_at hl 1 rfl) ?_
      refine y_geti hx hb hA in_Chain hown hK.1 hW 17 (by omega) lay_17 rfl 2 (by decide) (hA _ k_fl_Chain_22) rfl d_Chain_reveals_4 ?_
      rw [hnb]
      refine y_icmp_ge (tgt := 54) hx hb d_Chain_reveals_7 (by decide) ⟨by omega, by omega⟩ ⟨by omega, by omega⟩ (fun hc1 => ?_) (fun hc1 => absurd hc1 (by omega))
      refine lv_iconst (v := J (0)) hx hb d_Chain_reveals_54 rfl ?_
      exact y_retz hx hb hr hlocks hS (Or.inl rfl) (b01_f hI).symm d_Chain_reveals_55
    | succ k iho =>
      intro n hnk hI ls H locs hW hS hl
      obtain ⟨hs2, hs1⟩ := hsc n (by omega)
      have hnn := hnr n (by omega)
      refine lv_iload_n hx hb d_Chain_reveals_2 rfl (lv_at hl 0 rfl) ?_
      refine lv_aload_n hx hb d_Chain_reveals_3 rfl (lv_at hl 1 rfl) ?_
      refine y_geti hx hb hA in_Chain hown hK.1 hW 17 (by omega) lay_17 rfl 2 (by decide) (hA _ k_fl_Chain_22) rfl d_Chain_reveals_4 ?_
      rw [hnb]
      refine y_icmp_ge (tgt := 54) hx hb d_Chain_reveals_7 (by decide) ⟨by omega, by omega⟩ ⟨by omega, by omega⟩ (fun hc2 => absurd hc2 (by omega)) (fun hc2 => ?_)
      refine lv_iconst (v := J (0)) hx hb d_Chain_reveals_10 rfl ?_
      refine lv_istore_n (lv' := [(3, .int (J (0))), (2, .int (J (((n : Nat) : Int)))), (0, .ref (z + 17)), (1, .int (J (x)))]) hx hb d_Chain_reveals_11 rfl hl (by decide) rfl (fun ls hl => ?_)
      have loop12 : ∀ (q j : Nat), j + q = sc n → ¬ (∃ t, t < j ∧ σ (19 + 2 * n + 1) t = x) → ∀ (ls : Array Slot) (H : Heap) (locs : List Loc), yW ycl G yLP 0 73 z σ H → va_S yN s.heap H locs → lv_has ls 4 [(3, .int (J (((j : Nat) : Int)))), (2, .int (J ((n : Int)))), (0, .ref (z + 17)), (1, .int (J (x)))] → W p l e ({ frames := 0, cells := 0, slots := 0, locals := 0 } : Room) s m ([.ref (z + 17), .int (J (x))] : List Value).toArray below meth c H locs 0 0 (MQ below (yQi (b01 (revB σ sc x nb))) ([.ref (z + 17), .int (J (x))] : List Value).toArray s 0 0 yN) (F0 m 12 ls []) := by
        intro q
        induction q with
        | zero =>
          intro j hjk hJ ls H locs hW hS hl
          have hjs : j = sc n := by omega
          rw [hjs] at hJ
          refine lv_iload_n hx hb d_Chain_reveals_12 rfl (lv_at hl 0 rfl) ?_
          refine lv_aload_n hx hb d_Chain_reveals_13 rfl (lv_at hl 2 rfl) ?_
          refine y_getr hx hb hA in_Chain hown hK.1 hW 17 (by omega) lay_17 rfl 0 (by decide) (hA _ k_fl_Chain_11) rfl d_Chain_reveals_14 ?_
          refine lv_iload_n hx hb d_Chain_reveals_17 rfl (lv_at hl 1 rfl) ?_
          refine y_aald hx hb hK.1 hW 18 (by omega) lay_18 rfl (by decide) n rfl (by omega) d_Chain_reveals_18 ?_
          refine y_geti hx hb hA in_Block hown hK.1 hW (19 + 2 * n) (by omega) (lay_Block (n := n) (by omega)) rfl 1 (by decide) (hA _ k_fl_Chain_31) rfl d_Chain_reveals_19 ?_
          rw [hs1]
          refine y_icmp_ge (tgt := 48) hx hb d_Chain_reveals_22 (by decide) ⟨by omega, by omega⟩ ⟨by omega, by omega⟩ (fun hc3 => ?_) (fun hc3 => absurd hc3 (by omega))
          refine lv_iinc (k := 1) (v := J (((n + 1 : Nat) : Int))) (lv' := [(2, .int (J (((n + 1 : Nat) : Int)))), (3, .int (J (((j : Nat) : Int)))), (0, .ref (z + 17)), (1, .int (J (x)))]) hx hb d_Chain_reveals_48 hl rfl (by rw [Int.natCast_add n 1]; exact J_add _ _) (by decide) rfl (fun ls hl => ?_)
          refine lv_goto (tgt := 2) hx hb d_Chain_reveals_51 (by decide) ?_
          refine iho (n + 1) (by omega) ?_ ls H locs hW hS ?_
          · rintro ⟨i, h1, h2⟩
            by_cases e : i = n
            · subst e; exact hJ h2
            · exact hI ⟨i, by omega, h2⟩
          · exact lv_sub hl [0, 2, 3] rfl
        | succ q ih =>
          intro j hjk hJ ls H locs hW hS hl
          have hnj := hnn j (by omega)
          refine lv_iload_n hx hb d_Chain_reveals_12 rfl (lv_at hl 0 rfl) ?_
          refine lv_aload_n hx hb d_Chain_reveals_13 rfl (lv_at hl 2 rfl) ?_
          refine y_getr hx hb hA in_Chain hown hK.1 hW 17 (by omega) lay_17 rfl 0 (by decide) (hA _ k_fl_Chain_11) rfl d_Chain_reveals_14 ?_
          refine lv_iload_n hx hb d_Chain_reveals_17 rfl (lv_at hl 1 rfl) ?_
          refine y_aald hx hb hK.1 hW 18 (by omega) lay_18 rfl (by decide) n rfl (by omega) d_Chain_reveals_18 ?_
          refine y_geti hx hb hA in_Block hown hK.1 hW (19 + 2 * n) (by omega) (lay_Block (n := n) (by omega)) rfl 1 (by decide) (hA _ k_fl_Chain_31) rfl d_Chain_reveals_19 ?_
          rw [hs1]
          refine y_icmp_ge (tgt := 48) hx hb d_Chain_reveals_22 (by decide) ⟨by omega, by omega⟩ ⟨by omega, by omega⟩ (fun hc4 => absurd hc4 (by omega)) (fun hc4 => ?_)
          refine lv_aload_n hx hb d_Chain_reveals_25 rfl (lv_at hl 2 rfl) ?_
          refine y_getr hx hb hA in_Chain hown hK.1 hW 17 (by omega) lay_17 rfl 0 (by decide) (hA _ k_fl_Chain_11) rfl d_Chain_reveals_26 ?_
          refine lv_iload_n hx hb d_Chain_reveals_29 rfl (lv_at hl 1 rfl) ?_
          refine y_aald hx hb hK.1 hW 18 (by omega) lay_18 rfl (by decide) n rfl (by omega) d_Chain_reveals_30 ?_
          refine y_getr hx hb hA in_Block hown hK.1 hW (19 + 2 * n) (by omega) (lay_Block (n := n) (by omega)) rfl 0 (by decide) (hA _ k_fl_Chain_34) rfl d_Chain_reveals_31 ?_
          refine lv_iload_n hx hb d_Chain_reveals_34 rfl (lv_at hl 0 rfl) ?_
          refine y_iald hx hb hK.1 hW (19 + 2 * n + 1) (by omega) (lay_Bnul (n := n) (by omega)) rfl (by decide) j rfl (by omega) d_Chain_reveals_35 ?_
          refine lv_iload_n hx hb d_Chain_reveals_36 rfl (lv_at hl 3 rfl) ?_
          refine y_icmp_ne (tgt := 42) hx hb d_Chain_reveals_37 (by decide) hnj ⟨by omega, by omega⟩ (fun hne => ?_) (fun hne => ?_)
          · skip
            refine lv_iinc (k := 0) (v := J (((j + 1 : Nat) : Int))) (lv' := [(3, .int (J (((j + 1 : Nat) : Int)))), (2, .int (J ((n : Int)))), (0, .ref (z + 17)), (1, .int (J (x)))]) hx hb d_Chain_reveals_42 hl rfl (by rw [Int.natCast_add j 1]; exact J_add _ _) (by decide) rfl (fun ls hl => ?_)
            refine lv_goto (tgt := 12) hx hb d_Chain_reveals_45 (by decide) ?_
            refine ih (j + 1) (by omega) ?_ ls H locs hW hS hl
            rintro ⟨t, h1, h2⟩
            by_cases e : t = j
            · subst e; exact hne h2
            · exact hJ ⟨t, by omega, h2⟩
          · skip
            refine lv_iconst (v := J (1)) hx hb d_Chain_reveals_40 rfl ?_
            exact y_retz hx hb hr hlocks hS (Or.inr rfl) (b01_t ⟨n, by omega, j, by omega, hne⟩).symm d_Chain_reveals_41
      exact loop12 (sc n) 0 (by omega) (fun ⟨t, h1, _⟩ => absurd h1 (Nat.not_lt_zero t)) ls _ _ hW hS (lv_sub hl [0, 1, 2, 3] rfl)
  exact loop2 nb 0 (by omega) (fun ⟨i, h1, _⟩ => absurd h1 (Nat.not_lt_zero i)) ls _ _ hW hS hl

set_option maxHeartbeats 4000000 in
set_option maxRecDepth 100000 in
theorem c_Chain_append (l : Launch) (G : yG) (z : Nat) (σ : yM) (nb : Nat) (hnbr : nb < 12) (hnb : σ 17 2 = (nb : Int)) (ns : Nat) (hns : ns ≤ 2) (hs : σ 43 2 = (ns : Int)) (r : Int) : Met l y_Chain_append (Cond.code y_Chain_append b_Chain_append 5 (Option.none : Option Jvm.ClassFile.FieldType) :: yT) ({ frames := 0, cells := 0, slots := 0, locals := 0 } : Room) (yP ycl G yLP 0 73 z σ (yK G) [.ref (z + 17), .ref (z + 43), .int (J (r))]) (yQh ycl G yLP 0 73 z (fun τ => (∀ d, d ≠ 17 → d ≠ (19 + 2 * nb) → d ≠ (19 + 2 * nb + 1) → τ d = σ d) ∧ τ (19 + 2 * nb) 1 = (ns : Int) ∧ τ (19 + 2 * nb) 2 = σ 43 3 ∧ τ (19 + 2 * nb) 3 = σ 43 4 ∧ τ (19 + 2 * nb) 4 = r ∧ (∀ j, j < ns → τ (19 + 2 * nb + 1) j = σ (46 + 2 * j) 8) ∧ τ 17 1 = σ 17 1 ∧ τ 17 2 = (nb : Int) + 1 ∧ τ 17 3 = σ 17 3 - σ 43 4)) 0 0 (yA z 0 73) := by
  refine y_met (by decide +kernel) (Nat.le_of_ble_eq_true rfl) ?_
  intro p e s m below meth c ls hx hb hr hml hlocks hown hname hts hv hl
  have hA : ∀ w ∈ yT, w.before _ s = true := fun w h => hts w (List.mem_cons_of_mem _ h)
  have hl : lv_has ls 5 [(0, .ref (z + 17)), (1, .ref (z + 43)), (2, .int (J (r)))] := hl
  obtain ⟨hW, hK⟩ := hv
  have hS : va_S (yA z 0 73) s.heap s.heap [] := va_S.rf
  have hAr : ∀ d, 0 ≤ d ∧ d < 0 + 73 → yA z 0 73 (z + d) := yA_all
  refine lv_aload_n hx hb d_Chain_append_0 rfl (lv_at hl 0 rfl) ?_
  refine y_getr hx hb hA in_Chain hown hK.1 hW 17 (by omega) lay_17 rfl 0 (by decide) (hA _ k_fl_Chain_11) rfl d_Chain_append_1 ?_
  refine lv_aload_n hx hb d_Chain_append_4 rfl (lv_at hl 0 rfl) ?_
  refine y_geti hx hb hA in_Chain hown hK.1 hW 17 (by omega) lay_17 rfl 2 (by decide) (hA _ k_fl_Chain_22) rfl d_Chain_append_5 ?_
  rw [hnb]
  refine y_aald hx hb hK.1 hW 18 (by omega) lay_18 rfl (by decide) nb rfl (by omega) d_Chain_append_8 ?_
  refine lv_astore_n (lv' := [(3, .ref (z + (19 + 2 * nb))), (0, .ref (z + 17)), (1, .ref (z + 43)), (2, .int (J (r)))]) hx hb d_Chain_append_9 rfl hl (by decide) rfl (fun ls hl => ?_)
  refine lv_aload_n hx hb d_Chain_append_10 rfl (lv_at hl 0 rfl) ?_
  refine lv_aload_n hx hb d_Chain_append_11 rfl (lv_at hl 2 rfl) ?_
  refine y_geti hx hb hA in_Draft hown hK.1 hW 43 (by omega) lay_43 rfl 2 (by decide) (hA _ k_fl_Chain_38) rfl d_Chain_append_12 ?_
  rw [hs]
  refine y_puti hx hb hA in_Block hown hK.1 hW (19 + 2 * nb) (by omega) (lay_Block (n := nb) (by omega)) rfl 1 (by decide) t_Block tk_Block nm_Block hS hAr (hA _ k_fl_Chain_31) rfl (by decide +kernel) rfl d_Chain_append_15 (fun H locs hW hS => ?_)
  refine lv_aload_n hx hb d_Chain_append_18 rfl (lv_at hl 0 rfl) ?_
  refine lv_aload_n hx hb d_Chain_append_19 rfl (lv_at hl 2 rfl) ?_
  refine y_geti hx hb hA in_Draft hown hK.1 hW 43 (by omega) lay_43 rfl 3 (by decide) (hA _ k_fl_Chain_41) rfl d_Chain_append_20 ?_
  rw [y2_cl (show 43 ≠ (19 + 2 * nb) by omega)]
  refine y_puti hx hb hA in_Block hown hK.1 hW (19 + 2 * nb) (by omega) (lay_Block (n := nb) (by omega)) rfl 2 (by decide) t_Block tk_Block nm_Block hS hAr (hA _ k_fl_Chain_44) rfl (by decide +kernel) rfl d_Chain_append_23 (fun H locs hW hS => ?_)
  refine lv_aload_n hx hb d_Chain_append_26 rfl (lv_at hl 0 rfl) ?_
  refine lv_aload_n hx hb d_Chain_append_27 rfl (lv_at hl 2 rfl) ?_
  refine y_geti hx hb hA in_Draft hown hK.1 hW 43 (by omega) lay_43 rfl 4 (by decide) (hA _ k_fl_Chain_45) rfl d_Chain_append_28 ?_
  rw [y2_cl (show 43 ≠ (19 + 2 * nb) by omega), y2_cl (show 43 ≠ (19 + 2 * nb) by omega)]
  refine y_puti hx hb hA in_Block hown hK.1 hW (19 + 2 * nb) (by omega) (lay_Block (n := nb) (by omega)) rfl 3 (by decide) t_Block tk_Block nm_Block hS hAr (hA _ k_fl_Chain_48) rfl (by decide +kernel) rfl d_Chain_append_31 (fun H locs hW hS => ?_)
  refine lv_aload_n hx hb d_Chain_append_34 rfl (lv_at hl 0 rfl) ?_
  refine lv_iload_n hx hb d_Chain_append_35 rfl (lv_at hl 3 rfl) ?_
  refine y_puti hx hb hA in_Block hown hK.1 hW (19 + 2 * nb) (by omega) (lay_Block (n := nb) (by omega)) rfl 4 (by decide) t_Block tk_Block nm_Block hS hAr (hA _ k_fl_Chain_28) rfl (by decide +kernel) rfl d_Chain_append_36 (fun H locs hW hS => ?_)
  refine lv_iconst (v := J (0)) hx hb d_Chain_append_39 rfl ?_
  refine lv_istore (lv' := [(4, .int (J (0))), (3, .ref (z + (19 + 2 * nb))), (0, .ref (z + 17)), (1, .ref (z + 43)), (2, .int (J (r)))]) hx hb d_Chain_append_40 hl (by decide) rfl (fun ls hl => ?_)
  have loop42 : ∀ (k j : Nat), j + k = ns → ∀ (τ : yM), (∀ d, d ≠ (19 + 2 * nb + 1) → τ d = (y2 (y2 (y2 (y2 σ (19 + 2 * nb) 1 ((ns : Int))) (19 + 2 * nb) 2 (σ 43 3)) (19 + 2 * nb) 3 (σ 43 4)) (19 + 2 * nb) 4 (r)) d) → (∀ t, t < j → τ (19 + 2 * nb + 1) t = σ (46 + 2 * t) 8) → ∀ (ls : Array Slot) (H : Heap) (locs : List Loc), yW ycl G yLP 0 73 z τ H → va_S (yA z 0 73) s.heap H locs → lv_has ls 5 [(4, .int (J (((j : Nat) : Int)))), (3, .ref (z + (19 + 2 * nb))), (0, .ref (z + 17)), (1, .ref (z + 43)), (2, .int (J (r)))] → W p l e ({ frames := 0, cells := 0, slots := 0, locals := 0 } : Room) s m ([.ref (z + 17), .ref (z + 43), .int (J (r))] : List Value).toArray below meth c H locs 0 0 (MQ below (yQh ycl G yLP 0 73 z (fun τ => (∀ d, d ≠ 17 → d ≠ (19 + 2 * nb) → d ≠ (19 + 2 * nb + 1) → τ d = σ d) ∧ τ (19 + 2 * nb) 1 = (ns : Int) ∧ τ (19 + 2 * nb) 2 = σ 43 3 ∧ τ (19 + 2 * nb) 3 = σ 43 4 ∧ τ (19 + 2 * nb) 4 = r ∧ (∀ j, j < ns → τ (19 + 2 * nb + 1) j = σ (46 + 2 * j) 8) ∧ τ 17 1 = σ 17 1 ∧ τ 17 2 = (nb : Int) + 1 ∧ τ 17 3 = σ 17 3 - σ 43 4)) ([.ref (z + 17), .ref (z + 43), .int (J (r))] : List Value).toArray s 0 0 (yA z 0 73)) (F0 m 42 ls []) := by
    intro k
    induction k with
    | zero =>
      intro j hjk τ hF hI ls H locs hW hS hl
      have hjN : ns = j := by omega
      subst hjN
      refine lv_iload hx hb d_Chain_append_42 (lv_at hl 0 rfl) ?_
      refine lv_aload_n hx hb d_Chain_append_44 rfl (lv_at hl 3 rfl) ?_
      refine y_geti hx hb hA in_Draft hown hK.1 hW 43 (by omega) lay_43 rfl 2 (by decide) (hA _ k_fl_Chain_38) rfl d_Chain_append_45 ?_
      rw [hF 43 (by omega), y2_cl (show 43 ≠ (19 + 2 * nb) by omega), y2_cl (show 43 ≠ (19 + 2 * nb) by omega), y2_cl (show 43 ≠ (19 + 2 * nb) by omega), y2_cl (show 43 ≠ (19 + 2 * nb) by omega)]
      rw [hs]
      refine y_icmp_ge (tgt := 74) hx hb d_Chain_append_48 (by decide) ⟨by omega, by omega⟩ ⟨by omega, by omega⟩ (fun hc1 => ?_) (fun hc1 => absurd hc1 (by omega))
      refine lv_aload_n hx hb d_Chain_append_74 rfl (lv_at hl 2 rfl) ?_
      refine lv_dup hx hb d_Chain_append_75 rfl ?_
      refine y_geti hx hb hA in_Chain hown hK.1 hW 17 (by omega) lay_17 rfl 3 (by decide) (hA _ k_fl_Chain_25) rfl d_Chain_append_76 ?_
      rw [hF 17 (by omega), y2_cl (show 17 ≠ (19 + 2 * nb) by omega), y2_cl (show 17 ≠ (19 + 2 * nb) by omega), y2_cl (show 17 ≠ (19 + 2 * nb) by omega), y2_cl (show 17 ≠ (19 + 2 * nb) by omega)]
      refine lv_aload_n hx hb d_Chain_append_79 rfl (lv_at hl 3 rfl) ?_
      refine y_geti hx hb hA in_Draft hown hK.1 hW 43 (by omega) lay_43 rfl 4 (by decide) (hA _ k_fl_Chain_45) rfl d_Chain_append_80 ?_
      rw [hF 43 (by omega), y2_cl (show 43 ≠ (19 + 2 * nb) by omega), y2_cl (show 43 ≠ (19 + 2 * nb) by omega), y2_cl (show 43 ≠ (19 + 2 * nb) by omega), y2_cl (show 43 ≠ (19 + 2 * nb) by omega)]
      refine y_isub hx hb d_Chain_append_83 ?_
      refine y_puti hx hb hA in_Chain hown hK.1 hW 17 (by omega) lay_17 rfl 3 (by decide) t_Chain tk_Chain nm_Chain hS hAr (hA _ k_fl_Chain_25) rfl (by decide +kernel) rfl d_Chain_append_84 (fun H locs hW hS => ?_)
      refine lv_aload_n hx hb d_Chain_append_87 rfl (lv_at hl 2 rfl) ?_
      refine lv_dup hx hb d_Chain_append_88 rfl ?_
      refine y_geti hx hb hA in_Chain hown hK.1 hW 17 (by omega) lay_17 rfl 2 (by decide) (hA _ k_fl_Chain_22) rfl d_Chain_append_89 ?_
      rw [y2_ot (by decide), hF 17 (by omega), y2_cl (show 17 ≠ (19 + 2 * nb) by omega), y2_cl (show 17 ≠ (19 + 2 * nb) by omega), y2_cl (show 17 ≠ (19 + 2 * nb) by omega), y2_cl (show 17 ≠ (19 + 2 * nb) by omega)]
      rw [hnb]
      refine lv_iconst (v := J (1)) hx hb d_Chain_append_92 rfl ?_
      refine y_iadd hx hb d_Chain_append_93 ?_
      refine y_puti hx hb hA in_Chain hown hK.1 hW 17 (by omega) lay_17 rfl 2 (by decide) t_Chain tk_Chain nm_Chain hS hAr (hA _ k_fl_Chain_22) rfl (by decide +kernel) rfl d_Chain_append_94 (fun H locs hW hS => ?_)
      exact y_reth hx hb hr hlocks hS hW (by
    refine ⟨fun d h1 h2 h3 => ?_, ?_, ?_, ?_, ?_, fun j hj => ?_, ?_, ?_, ?_⟩
    · rw [y2_ne h1, y2_ne h1, hF d h3, y2_ne h2, y2_ne h2, y2_ne h2, y2_ne h2]
    · rw [y2_cl (by omega), y2_cl (by omega), hF (19 + 2 * nb) (by omega), y2_ot (by decide), y2_ot (by decide), y2_ot (by decide), y2_at]
    · rw [y2_cl (by omega), y2_cl (by omega), hF (19 + 2 * nb) (by omega), y2_ot (by decide), y2_ot (by decide), y2_at]
    · rw [y2_cl (by omega), y2_cl (by omega), hF (19 + 2 * nb) (by omega), y2_ot (by decide), y2_at]
    · rw [y2_cl (by omega), y2_cl (by omega), hF (19 + 2 * nb) (by omega), y2_at]
    · rw [y2_cl (by omega), y2_cl (by omega)]; exact hI j hj
    · rw [y2_ot (by decide), y2_ot (by decide), hF 17 (by omega), y2_cl (by omega), y2_cl (by omega), y2_cl (by omega), y2_cl (by omega)]
    · rw [y2_at]
    · rw [y2_ot (by decide), y2_at]) d_Chain_append_97
    | succ k ih =>
      intro j hjk τ hF hI ls H locs hW hS hl
      refine lv_iload hx hb d_Chain_append_42 (lv_at hl 0 rfl) ?_
      refine lv_aload_n hx hb d_Chain_append_44 rfl (lv_at hl 3 rfl) ?_
      refine y_geti hx hb hA in_Draft hown hK.1 hW 43 (by omega) lay_43 rfl 2 (by decide) (hA _ k_fl_Chain_38) rfl d_Chain_append_45 ?_
      rw [hF 43 (by omega), y2_cl (show 43 ≠ (19 + 2 * nb) by omega), y2_cl (show 43 ≠ (19 + 2 * nb) by omega), y2_cl (show 43 ≠ (19 + 2 * nb) by omega), y2_cl (show 43 ≠ (19 + 2 * nb) by omega)]
      rw [hs]
      refine y_icmp_ge (tgt := 74) hx hb d_Chain_append_48 (by decide) ⟨by omega, by omega⟩ ⟨by omega, by omega⟩ (fun hc2 => absurd hc2 (by omega)) (fun hc2 => ?_)
      refine lv_aload_n hx hb d_Chain_append_51 rfl (lv_at hl 1 rfl) ?_
      refine y_getr hx hb hA in_Block hown hK.1 hW (19 + 2 * nb) (by omega) (lay_Block (n := nb) (by omega)) rfl 0 (by decide) (hA _ k_fl_Chain_34) rfl d_Chain_append_52 ?_
      refine lv_iload hx hb d_Chain_append_55 (lv_at hl 0 rfl) ?_
      refine lv_aload_n hx hb d_Chain_append_57 rfl (lv_at hl 3 rfl) ?_
      refine y_getr hx hb hA in_Draft hown hK.1 hW 43 (by omega) lay_43 rfl 0 (by decide) (hA _ k_fl_Chain_49) rfl d_Chain_append_58 ?_
      refine lv_iload hx hb d_Chain_append_61 (lv_at hl 0 rfl) ?_
      refine y_aald hx hb hK.1 hW 44 (by omega) lay_44 rfl (by decide) j rfl (by omega) d_Chain_append_63 ?_
      refine y_geti hx hb hA in_Spend hown hK.1 hW (46 + 2 * j) (by omega) (lay_Spend (n := j) (by omega)) rfl 8 (by decide) (hA _ k_fl_Chain_53) rfl d_Chain_append_64 ?_
      rw [hF (46 + 2 * j) (by omega), y2_cl (show (46 + 2 * j) ≠ (19 + 2 * nb) by omega), y2_cl (show (46 + 2 * j) ≠ (19 + 2 * nb) by omega), y2_cl (show (46 + 2 * j) ≠ (19 + 2 * nb) by omega), y2_cl (show (46 + 2 * j) ≠ (19 + 2 * nb) by omega)]
      refine y_iast hx hb hK.1 hW (19 + 2 * nb + 1) (by omega) (lay_Bnul (n := nb) (by omega)) rfl (by decide) hS hAr j rfl (by omega) d_Chain_append_67 (fun H locs hW hS => ?_)
      refine lv_iinc (k := 0) (v := J (((j + 1 : Nat) : Int))) (lv' := [(4, .int (J (((j + 1 : Nat) : Int)))), (3, .ref (z + (19 + 2 * nb))), (0, .ref (z + 17)), (1, .ref (z + 43)), (2, .int (J (r)))]) hx hb d_Chain_append_68 hl rfl (by rw [Int.natCast_add j 1]; exact J_add _ _) (by decide) rfl (fun ls hl => ?_)
      refine lv_goto (tgt := 42) hx hb d_Chain_append_71 (by decide) ?_
      refine ih (j + 1) (by omega) _ (fun d hd => (y2_ne hd).trans (hF d hd)) ?_ ls H locs hW hS hl
      intro t ht
      by_cases e : t = j
      · subst e; rw [y2_at]
      · rw [y2_ot e]; exact hI t (by omega)
  exact loop42 ns 0 (by omega) _ (fun _ _ => rfl) (fun t h => absurd h (Nat.not_lt_zero t)) ls _ _ hW hS hl

set_option maxHeartbeats 4000000 in
set_option maxRecDepth 100000 in
theorem c_Chain_removeLatest (l : Launch) (G : yG) (z : Nat) (σ : yM) (nb : Nat) (hnbr : nb < 12) (hnb : σ 17 2 = (nb : Int) + 1) : Met l y_Chain_removeLatest (Cond.code y_Chain_removeLatest b_Chain_removeLatest 1 (some .int) :: yT) ({ frames := 0, cells := 0, slots := 0, locals := 0 } : Room) (yP ycl G yLP 0 73 z σ (yK G) [.ref (z + 17)]) (yQg ycl G yLP 0 73 z (fun v τ => v = σ (19 + 2 * nb) 2 ∧ (∀ d, d ≠ 17 → τ d = σ d) ∧ τ 17 1 = σ 17 1 ∧ τ 17 2 = (nb : Int) ∧ τ 17 3 = σ 17 3 + σ (19 + 2 * nb) 3)) 0 0 (yA z 0 73) := by
  refine y_met (by decide +kernel) (Nat.le_of_ble_eq_true rfl) ?_
  intro p e s m below meth c ls hx hb hr hml hlocks hown hname hts hv hl
  have hA : ∀ w ∈ yT, w.before _ s = true := fun w h => hts w (List.mem_cons_of_mem _ h)
  have hl : lv_has ls 1 [(0, .ref (z + 17))] := hl
  obtain ⟨hW, hK⟩ := hv
  have hS : va_S (yA z 0 73) s.heap s.heap [] := va_S.rf
  have hAr : ∀ d, 0 ≤ d ∧ d < 0 + 73 → yA z 0 73 (z + d) := yA_all
  refine lv_aload_n hx hb d_Chain_removeLatest_0 rfl (lv_at hl 0 rfl) ?_
  refine lv_dup hx hb d_Chain_removeLatest_1 rfl ?_
  refine y_geti hx hb hA in_Chain hown hK.1 hW 17 (by omega) lay_17 rfl 2 (by decide) (hA _ k_fl_Chain_22) rfl d_Chain_removeLatest_2 ?_
  rw [hnb]
  refine lv_iconst (v := J (1)) hx hb d_Chain_removeLatest_5 rfl ?_
  refine y_isub hx hb d_Chain_removeLatest_6 ?_
  rw [show (nb : Int) + 1 - 1 = (nb : Int) by omega]
  refine y_puti hx hb hA in_Chain hown hK.1 hW 17 (by omega) lay_17 rfl 2 (by decide) t_Chain tk_Chain nm_Chain hS hAr (hA _ k_fl_Chain_22) rfl (by decide +kernel) rfl d_Chain_removeLatest_7 (fun H locs hW hS => ?_)
  refine lv_aload_n hx hb d_Chain_removeLatest_10 rfl (lv_at hl 0 rfl) ?_
  refine lv_dup hx hb d_Chain_removeLatest_11 rfl ?_
  refine y_geti hx hb hA in_Chain hown hK.1 hW 17 (by omega) lay_17 rfl 3 (by decide) (hA _ k_fl_Chain_25) rfl d_Chain_removeLatest_12 ?_
  rw [y2_ot (by decide)]
  refine lv_aload_n hx hb d_Chain_removeLatest_15 rfl (lv_at hl 0 rfl) ?_
  refine y_getr hx hb hA in_Chain hown hK.1 hW 17 (by omega) lay_17 rfl 0 (by decide) (hA _ k_fl_Chain_11) rfl d_Chain_removeLatest_16 ?_
  refine lv_aload_n hx hb d_Chain_removeLatest_19 rfl (lv_at hl 0 rfl) ?_
  refine y_geti hx hb hA in_Chain hown hK.1 hW 17 (by omega) lay_17 rfl 2 (by decide) (hA _ k_fl_Chain_22) rfl d_Chain_removeLatest_20 ?_
  rw [y2_at]
  refine y_aald hx hb hK.1 hW 18 (by omega) lay_18 rfl (by decide) nb rfl (by omega) d_Chain_removeLatest_23 ?_
  refine y_geti hx hb hA in_Block hown hK.1 hW (19 + 2 * nb) (by omega) (lay_Block (n := nb) (by omega)) rfl 3 (by decide) (hA _ k_fl_Chain_48) rfl d_Chain_removeLatest_24 ?_
  rw [y2_cl (show (19 + 2 * nb) ≠ 17 by omega)]
  refine y_iadd hx hb d_Chain_removeLatest_27 ?_
  refine y_puti hx hb hA in_Chain hown hK.1 hW 17 (by omega) lay_17 rfl 3 (by decide) t_Chain tk_Chain nm_Chain hS hAr (hA _ k_fl_Chain_25) rfl (by decide +kernel) rfl d_Chain_removeLatest_28 (fun H locs hW hS => ?_)
  refine lv_aload_n hx hb d_Chain_removeLatest_31 rfl (lv_at hl 0 rfl) ?_
  refine y_getr hx hb hA in_Chain hown hK.1 hW 17 (by omega) lay_17 rfl 0 (by decide) (hA _ k_fl_Chain_11) rfl d_Chain_removeLatest_32 ?_
  refine lv_aload_n hx hb d_Chain_removeLatest_35 rfl (lv_at hl 0 rfl) ?_
  refine y_geti hx hb hA in_Chain hown hK.1 hW 17 (by omega) lay_17 rfl 2 (by decide) (hA _ k_fl_Chain_22) rfl d_Chain_removeLatest_36 ?_
  rw [y2_ot (by decide), y2_at]
  refine y_aald hx hb hK.1 hW 18 (by omega) lay_18 rfl (by decide) nb rfl (by omega) d_Chain_removeLatest_39 ?_
  refine y_geti hx hb hA in_Block hown hK.1 hW (19 + 2 * nb) (by omega) (lay_Block (n := nb) (by omega)) rfl 2 (by decide) (hA _ k_fl_Chain_44) rfl d_Chain_removeLatest_40 ?_
  rw [y2_cl (show (19 + 2 * nb) ≠ 17 by omega), y2_cl (show (19 + 2 * nb) ≠ 17 by omega)]
  exact y_retg hx hb hr hlocks hS hW ⟨rfl, fun d hd => by rw [y2_ne hd, y2_ne hd], by rw [y2_ot (by decide), y2_ot (by decide)], by rw [y2_ot (by decide), y2_at], by rw [y2_at]⟩ d_Chain_removeLatest_43
