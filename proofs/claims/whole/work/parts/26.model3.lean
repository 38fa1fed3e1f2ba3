def revM (τ : yM) (x : Int) (n : Nat) : Prop := 0 ≤ x ∧ ∃ i, i < n ∧ τ 22 i = x
theorem revM_mono {τ : yM} {x : Int} {n m : Nat} (h : n ≤ m) (hp : revM τ x n) : revM τ x m := by
  obtain ⟨h0, i, h1, h2⟩ := hp
  exact ⟨h0, i, by omega, h2⟩
theorem revM_no {τ : yM} {x : Int} {n : Nat} (hp : ¬ revM τ x n) (h : x < 0 ∨ ¬ τ 22 n = x) : ¬ revM τ x (n + 1) := by
  rintro ⟨h0, i, h1, h2⟩
  by_cases e : i = n
  · subst e
    rcases h with h | h
    · omega
    · exact h h2
  · exact hp ⟨h0, i, by omega, h2⟩

set_option maxHeartbeats 4000000 in
set_option maxRecDepth 100000 in
theorem c_M_revealed (l : Launch) (G : yG) (z : Nat) (τ : yM) (nb : Nat) (hnbr : nb ≤ 12) (hnb : τ 0 24 = (nb : Int)) (x : Int) (hx9 : jr x) (hsh : ∀ i, i < 2 * nb → jr (τ 22 i)) : Met l y_M_revealed (Cond.code y_M_revealed b_M_revealed 4 (some .boolean) :: yT) ({ frames := 0, cells := 0, slots := 0, locals := 0 } : Room) (yP ycl G yLM 0 28 z τ (yK G) [.ref (z + 0), .int (J (x))]) (yQi (b01 (revM τ x (2 * nb)))) 0 0 yN := by
  refine y_met (by decide +kernel) (Nat.le_of_ble_eq_true rfl) ?_
  intro p e s m below meth c ls hx hb hr hml hlocks hown hname hts hv hl
  have hA : ∀ w ∈ yT, w.before _ s = true := fun w h => hts w (List.mem_cons_of_mem _ h)
  have hl : lv_has ls 4 [(0, .ref (z + 0)), (1, .int (J (x)))] := hl
  obtain ⟨hW, hK⟩ := hv
  have hS : va_S yN s.heap s.heap [] := va_S.rf
  refine lv_iconst (v := J (0)) hx hb d_M_revealed_0 rfl ?_
  refine lv_istore_n (lv' := [(2, .int (J (0))), (0, .ref (z + 0)), (1, .int (J (x)))]) hx hb d_M_revealed_1 rfl hl (by decide) rfl (fun ls hl => ?_)
  refine lv_iconst (v := J (0)) hx hb d_M_revealed_2 rfl ?_
  refine lv_istore_n (lv' := [(3, .int (J (0))), (2, .int (J (0))), (0, .ref (z + 0)), (1, .int (J (x)))]) hx hb d_M_revealed_3 rfl hl (by decide) rfl (fun ls hl => ?_)
  have loop4 : ∀ (q9 n : Nat), n + q9 = 2 * nb → ∀ (h : Int), (h = 0 ∨ h = 1) → (h = 1 → revM τ x n) → (h = 0 → ¬ revM τ x n) → ∀ (ls : Array Slot) (H : Heap) (locs : List Loc), yW ycl G yLM 0 28 z τ H → va_S yN s.heap H locs → lv_has ls 4 [(3, .int (J (((n : Nat) : Int)))), (2, .int (J (h))), (0, .ref (z + 0)), (1, .int (J (x)))] → W p l e ({ frames := 0, cells := 0, slots := 0, locals := 0 } : Room) s m ([.ref (z + 0), .int (J (x))] : List Value).toArray below meth c H locs 0 0 (MQ below (yQi (b01 (revM τ x (2 * nb)))) ([.ref (z + 0), .int (J (x))] : List Value).toArray s 0 0 yN) (F0 m 4 ls []) := by
    intro q9
    induction q9 with
    | zero =>
      intro n hnk h h01 hI1 hI0 ls H locs hW hS hl
      have hnN : n = 2 * nb := by omega
      refine lv_iload_n hx hb d_M_revealed_4 rfl (lv_at hl 0 rfl) ?_
      refine lv_iconst (v := J (2)) hx hb d_M_revealed_5 rfl ?_
      refine lv_aload_n hx hb d_M_revealed_6 rfl (lv_at hl 2 rfl) ?_
      refine y_geti hx hb hA in_M hown hK.1 hW 0 (by omega) laym_0 rfl 24 (by decide) (hA _ k_fl_M_106) rfl d_M_revealed_7 ?_
      rw [hnb]
      refine y_imul hx hb d_M_revealed_10 ?_
      refine y_icmp_ge (tgt := 44) hx hb d_M_revealed_11 (by decide) ⟨by omega, by omega⟩ ⟨by omega, by omega⟩ (fun hc1 => ?_) (fun hc1 => absurd hc1 (by omega))
      refine lv_iload_n hx hb d_M_revealed_44 rfl (lv_at hl 1 rfl) ?_
      exact y_retz hx hb hr hlocks hS (by omega) (by subst hnN; exact h01.elim (fun h1 => h1.trans (b01_f (hI0 h1)).symm) (fun h1 => h1.trans (b01_t (hI1 h1)).symm)) d_M_revealed_45
    | succ q9 ih =>
      intro n hnk h h01 hI1 hI0 ls H locs hW hS hl
      have hsn := hsh n (by omega)
      refine lv_iload_n hx hb d_M_revealed_4 rfl (lv_at hl 0 rfl) ?_
      refine lv_iconst (v := J (2)) hx hb d_M_revealed_5 rfl ?_
      refine lv_aload_n hx hb d_M_revealed_6 rfl (lv_at hl 2 rfl) ?_
      refine y_geti hx hb hA in_M hown hK.1 hW 0 (by omega) laym_0 rfl 24 (by decide) (hA _ k_fl_M_106) rfl d_M_revealed_7 ?_
      rw [hnb]
      refine y_imul hx hb d_M_revealed_10 ?_
      refine y_icmp_ge (tgt := 44) hx hb d_M_revealed_11 (by decide) ⟨by omega, by omega⟩ ⟨by omega, by omega⟩ (fun hc2 => absurd hc2 (by omega)) (fun hc2 => ?_)
      refine lv_iload_n hx hb d_M_revealed_14 rfl (lv_at hl 1 rfl) ?_
      refine y_if_ne (tgt := 32) hx hb d_M_revealed_15 (by decide) ⟨by omega, by omega⟩ (fun hz => ?_) (fun hz => ?_)
      · skip
        refine lv_iconst (v := J (1)) hx hb d_M_revealed_32 rfl ?_
        refine lv_goto (tgt := 37) hx hb d_M_revealed_33 (by decide) ?_
        refine lv_istore_n (lv' := [(2, .int (J (1))), (3, .int (J (((n : Nat) : Int)))), (0, .ref (z + 0)), (1, .int (J (x)))]) hx hb d_M_revealed_37 rfl hl (by decide) rfl (fun ls hl => ?_)
        refine lv_iinc (k := 1) (v := J (((n + 1 : Nat) : Int))) (lv' := [(3, .int (J (((n + 1 : Nat) : Int)))), (2, .int (J (1))), (0, .ref (z + 0)), (1, .int (J (x)))]) hx hb d_M_revealed_38 hl rfl (by rw [Int.natCast_add n 1]; exact J_add _ _) (by decide) rfl (fun ls hl => ?_)
        refine lv_goto (tgt := 4) hx hb d_M_revealed_41 (by decide) ?_
        refine ih (n + 1) (by omega) 1 (by omega) ?_ ?_ ls H locs hW hS hl
        · exact fun _ => by first | exact revM_mono (by omega) (hI1 (by omega)) | exact ⟨by omega, n, by omega, hne⟩
        · exact fun e => absurd e (by decide)
      · skip
        refine lv_iload_n hx hb d_M_revealed_18 rfl (lv_at hl 3 rfl) ?_
        refine y_if_lt (tgt := 36) hx hb d_M_revealed_19 (by decide) hx9 (fun hxn => ?_) (fun hxn => ?_)
        · skip
          refine lv_iconst (v := J (0)) hx hb d_M_revealed_36 rfl ?_
          refine lv_istore_n (lv' := [(2, .int (J (0))), (3, .int (J (((n : Nat) : Int)))), (0, .ref (z + 0)), (1, .int (J (x)))]) hx hb d_M_revealed_37 rfl hl (by decide) rfl (fun ls hl => ?_)
          refine lv_iinc (k := 1) (v := J (((n + 1 : Nat) : Int))) (lv' := [(3, .int (J (((n + 1 : Nat) : Int)))), (2, .int (J (0))), (0, .ref (z + 0)), (1, .int (J (x)))]) hx hb d_M_revealed_38 hl rfl (by rw [Int.natCast_add n 1]; exact J_add _ _) (by decide) rfl (fun ls hl => ?_)
          refine lv_goto (tgt := 4) hx hb d_M_revealed_41 (by decide) ?_
          refine ih (n + 1) (by omega) 0 (by omega) ?_ ?_ ls H locs hW hS hl
          · exact fun e => absurd e (by decide)
          · exact fun _ => revM_no (hI0 hz) (by first | exact Or.inl hxn | exact Or.inr hne)
        · skip
          refine lv_aload_n hx hb d_M_revealed_22 rfl (lv_at hl 2 rfl) ?_
          refine y_getr hx hb hA in_M hown hK.1 hW 0 (by omega) laym_0 rfl 27 (by decide) (hA _ k_fl_M_73) rfl d_M_revealed_23 ?_
          refine lv_iload_n hx hb d_M_revealed_26 rfl (lv_at hl 0 rfl) ?_
          refine y_iald hx hb hK.1 hW 22 (by omega) laym_22 rfl (by decide) n rfl (by omega) d_M_revealed_27 ?_
          refine lv_iload_n hx hb d_M_revealed_28 rfl (lv_at hl 3 rfl) ?_
          refine y_icmp_ne (tgt := 36) hx hb d_M_revealed_29 (by decide) hsn hx9 (fun hne => ?_) (fun hne => ?_)
          · skip
            refine lv_iconst (v := J (0)) hx hb d_M_revealed_36 rfl ?_
            refine lv_istore_n (lv' := [(2, .int (J (0))), (3, .int (J (((n : Nat) : Int)))), (0, .ref (z + 0)), (1, .int (J (x)))]) hx hb d_M_revealed_37 rfl hl (by decide) rfl (fun ls hl => ?_)
            refine lv_iinc (k := 1) (v := J (((n + 1 : Nat) : Int))) (lv' := [(3, .int (J (((n + 1 : Nat) : Int)))), (2, .int (J (0))), (0, .ref (z + 0)), (1, .int (J (x)))]) hx hb d_M_revealed_38 hl rfl (by rw [Int.natCast_add n 1]; exact J_add _ _) (by decide) rfl (fun ls hl => ?_)
            refine lv_goto (tgt := 4) hx hb d_M_revealed_41 (by decide) ?_
            refine ih (n + 1) (by omega) 0 (by omega) ?_ ?_ ls H locs hW hS hl
            · exact fun e => absurd e (by decide)
            · exact fun _ => revM_no (hI0 hz) (by first | exact Or.inl hxn | exact Or.inr hne)
          · skip
            refine lv_iconst (v := J (1)) hx hb d_M_revealed_32 rfl ?_
            refine lv_goto (tgt := 37) hx hb d_M_revealed_33 (by decide) ?_
            refine lv_istore_n (lv' := [(2, .int (J (1))), (3, .int (J (((n : Nat) : Int)))), (0, .ref (z + 0)), (1, .int (J (x)))]) hx hb d_M_revealed_37 rfl hl (by decide) rfl (fun ls hl => ?_)
            refine lv_iinc (k := 1) (v := J (((n + 1 : Nat) : Int))) (lv' := [(3, .int (J (((n + 1 : Nat) : Int)))), (2, .int (J (1))), (0, .ref (z + 0)), (1, .int (J (x)))]) hx hb d_M_revealed_38 hl rfl (by rw [Int.natCast_add n 1]; exact J_add _ _) (by decide) rfl (fun ls hl => ?_)
            refine lv_goto (tgt := 4) hx hb d_M_revealed_41 (by decide) ?_
            refine ih (n + 1) (by omega) 1 (by omega) ?_ ?_ ls H locs hW hS hl
            · exact fun _ => by first | exact revM_mono (by omega) (hI1 (by omega)) | exact ⟨by omega, n, by omega, hne⟩
            · exact fun e => absurd e (by decide)
  exact loop4 (2 * nb) 0 (by omega) 0 (by omega) (fun e => absurd e (by decide)) (fun _ hp => by obtain ⟨_, i, h1, _⟩ := hp; omega) ls _ _ hW hS hl
