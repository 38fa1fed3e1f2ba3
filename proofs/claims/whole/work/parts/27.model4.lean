def lfm (τ : yM) (f : Nat) : Nat → Int := fun i => if i < f then τ 23 i else 0
theorem mTb_to {τ ρ : yM} (h : mTb τ) (h1 : ρ 1 = τ 1) (h2 : ρ 2 = τ 2) : mTb ρ := fun j hj => by rw [h1, h2]; exact h j hj
theorem p8 {m : Nat} (h : m < 4) : 8 / 2 ^ m = 16 / 2 ^ (m + 1) ∧ 2 * (8 / 2 ^ m) = 16 / 2 ^ m := by
  have h4 : m = 0 ∨ m = 1 ∨ m = 2 ∨ m = 3 := by omega
  rcases h4 with rfl | rfl | rfl | rfl <;> decide
theorem d_M_nodeOf_0 : decode b_M_nodeOf 0 = .ok (.iconst 0, 1) := by decide +kernel
theorem d_M_nodeOf_1 : decode b_M_nodeOf 1 = .ok (.istore 4, 2) := by decide +kernel
theorem d_M_nodeOf_3 : decode b_M_nodeOf 3 = .ok (.iload 4, 2) := by decide +kernel
theorem d_M_nodeOf_5 : decode b_M_nodeOf 5 = .ok (.bipush 16, 2) := by decide +kernel
theorem d_M_nodeOf_7 : decode b_M_nodeOf 7 = .ok (.if_icmp .ge 33, 3) := by decide +kernel
theorem d_M_nodeOf_10 : decode b_M_nodeOf 10 = .ok (.aload_n 0, 1) := by decide +kernel
theorem d_M_nodeOf_11 : decode b_M_nodeOf 11 = .ok (.getfield 88, 3) := by decide +kernel
theorem d_M_nodeOf_14 : decode b_M_nodeOf 14 = .ok (.iload 4, 2) := by decide +kernel
theorem d_M_nodeOf_16 : decode b_M_nodeOf 16 = .ok (.iload 4, 2) := by decide +kernel
theorem d_M_nodeOf_18 : decode b_M_nodeOf 18 = .ok (.iload_n 1, 1) := by decide +kernel
theorem d_M_nodeOf_19 : decode b_M_nodeOf 19 = .ok (.if_icmp .ge 13, 3) := by decide +kernel
theorem d_M_nodeOf_22 : decode b_M_nodeOf 22 = .ok (.aload_n 0, 1) := by decide +kernel
theorem d_M_nodeOf_23 : decode b_M_nodeOf 23 = .ok (.getfield 76, 3) := by decide +kernel
theorem d_M_nodeOf_26 : decode b_M_nodeOf 26 = .ok (.iload 4, 2) := by decide +kernel
theorem d_M_nodeOf_28 : decode b_M_nodeOf 28 = .ok (.iaload, 1) := by decide +kernel
theorem d_M_nodeOf_29 : decode b_M_nodeOf 29 = .ok (.goto 4, 3) := by decide +kernel
theorem d_M_nodeOf_32 : decode b_M_nodeOf 32 = .ok (.iconst 0, 1) := by decide +kernel
theorem d_M_nodeOf_33 : decode b_M_nodeOf 33 = .ok (.iastore, 1) := by decide +kernel
theorem d_M_nodeOf_34 : decode b_M_nodeOf 34 = .ok (.iinc 4 1, 3) := by decide +kernel
theorem d_M_nodeOf_37 : decode b_M_nodeOf 37 = .ok (.goto (-34), 3) := by decide +kernel
theorem d_M_nodeOf_40 : decode b_M_nodeOf 40 = .ok (.iconst 0, 1) := by decide +kernel
theorem d_M_nodeOf_41 : decode b_M_nodeOf 41 = .ok (.istore 4, 2) := by decide +kernel
theorem d_M_nodeOf_43 : decode b_M_nodeOf 43 = .ok (.iload 4, 2) := by decide +kernel
theorem d_M_nodeOf_45 : decode b_M_nodeOf 45 = .ok (.iload_n 2, 1) := by decide +kernel
theorem d_M_nodeOf_46 : decode b_M_nodeOf 46 = .ok (.if_icmp .ge 63, 3) := by decide +kernel
theorem d_M_nodeOf_49 : decode b_M_nodeOf 49 = .ok (.iconst 0, 1) := by decide +kernel
theorem d_M_nodeOf_50 : decode b_M_nodeOf 50 = .ok (.istore 5, 2) := by decide +kernel
theorem d_M_nodeOf_52 : decode b_M_nodeOf 52 = .ok (.iload 5, 2) := by decide +kernel
theorem d_M_nodeOf_54 : decode b_M_nodeOf 54 = .ok (.bipush 8, 2) := by decide +kernel
theorem d_M_nodeOf_56 : decode b_M_nodeOf 56 = .ok (.iload 4, 2) := by decide +kernel
theorem d_M_nodeOf_58 : decode b_M_nodeOf 58 = .ok (.ishr, 1) := by decide +kernel
theorem d_M_nodeOf_59 : decode b_M_nodeOf 59 = .ok (.if_icmp .ge 44, 3) := by decide +kernel
theorem d_M_nodeOf_62 : decode b_M_nodeOf 62 = .ok (.aload_n 0, 1) := by decide +kernel
theorem d_M_nodeOf_63 : decode b_M_nodeOf 63 = .ok (.getfield 88, 3) := by decide +kernel
theorem d_M_nodeOf_66 : decode b_M_nodeOf 66 = .ok (.iload 5, 2) := by decide +kernel
theorem d_M_nodeOf_68 : decode b_M_nodeOf 68 = .ok (.aload_n 0, 1) := by decide +kernel
theorem d_M_nodeOf_69 : decode b_M_nodeOf 69 = .ok (.aload_n 0, 1) := by decide +kernel
theorem d_M_nodeOf_70 : decode b_M_nodeOf 70 = .ok (.getfield 88, 3) := by decide +kernel
theorem d_M_nodeOf_73 : decode b_M_nodeOf 73 = .ok (.iconst 2, 1) := by decide +kernel
theorem d_M_nodeOf_74 : decode b_M_nodeOf 74 = .ok (.iload 5, 2) := by decide +kernel
theorem d_M_nodeOf_76 : decode b_M_nodeOf 76 = .ok (.imul, 1) := by decide +kernel
theorem d_M_nodeOf_77 : decode b_M_nodeOf 77 = .ok (.iaload, 1) := by decide +kernel
theorem d_M_nodeOf_78 : decode b_M_nodeOf 78 = .ok (.aload_n 0, 1) := by decide +kernel
theorem d_M_nodeOf_79 : decode b_M_nodeOf 79 = .ok (.getfield 88, 3) := by decide +kernel
theorem d_M_nodeOf_82 : decode b_M_nodeOf 82 = .ok (.iconst 2, 1) := by decide +kernel
theorem d_M_nodeOf_83 : decode b_M_nodeOf 83 = .ok (.iload 5, 2) := by decide +kernel
theorem d_M_nodeOf_85 : decode b_M_nodeOf 85 = .ok (.imul, 1) := by decide +kernel
theorem d_M_nodeOf_86 : decode b_M_nodeOf 86 = .ok (.iconst 1, 1) := by decide +kernel
theorem d_M_nodeOf_87 : decode b_M_nodeOf 87 = .ok (.iadd, 1) := by decide +kernel
theorem d_M_nodeOf_88 : decode b_M_nodeOf 88 = .ok (.iaload, 1) := by decide +kernel
theorem d_M_nodeOf_89 : decode b_M_nodeOf 89 = .ok (.iload 4, 2) := by decide +kernel
theorem d_M_nodeOf_91 : decode b_M_nodeOf 91 = .ok (.iconst 1, 1) := by decide +kernel
theorem d_M_nodeOf_92 : decode b_M_nodeOf 92 = .ok (.iadd, 1) := by decide +kernel
theorem d_M_nodeOf_93 : decode b_M_nodeOf 93 = .ok (.invokevirtual 102, 3) := by decide +kernel
theorem d_M_nodeOf_96 : decode b_M_nodeOf 96 = .ok (.iastore, 1) := by decide +kernel
theorem d_M_nodeOf_97 : decode b_M_nodeOf 97 = .ok (.iinc 5 1, 3) := by decide +kernel
theorem d_M_nodeOf_100 : decode b_M_nodeOf 100 = .ok (.goto (-48), 3) := by decide +kernel
theorem d_M_nodeOf_103 : decode b_M_nodeOf 103 = .ok (.iinc 4 1, 3) := by decide +kernel
theorem d_M_nodeOf_106 : decode b_M_nodeOf 106 = .ok (.goto (-63), 3) := by decide +kernel
theorem d_M_nodeOf_109 : decode b_M_nodeOf 109 = .ok (.aload_n 0, 1) := by decide +kernel
theorem d_M_nodeOf_110 : decode b_M_nodeOf 110 = .ok (.getfield 88, 3) := by decide +kernel
theorem d_M_nodeOf_113 : decode b_M_nodeOf 113 = .ok (.iload_n 3, 1) := by decide +kernel
theorem d_M_nodeOf_114 : decode b_M_nodeOf 114 = .ok (.iaload, 1) := by decide +kernel
theorem d_M_nodeOf_115 : decode b_M_nodeOf 115 = .ok (.ireturn, 1) := by decide +kernel

set_option maxHeartbeats 4000000 in
set_option maxRecDepth 100000 in
theorem c_M_nodeOf (l : Launch) (G : yG) (z : Nat) (τ : yM) (hTb : mTb τ) (f Lv kn : Nat) (hf : f ≤ 16) (hLv : Lv ≤ 4) (hkn : kn < 16 / 2 ^ Lv) (hlr : ∀ i, i < f → 0 ≤ τ 23 i ∧ τ 23 i < 10009) : Met l y_M_nodeOf (Cond.code y_M_nodeOf b_M_nodeOf 6 (some .int) :: yT) ({ frames := 1, cells := 0, slots := 0, locals := 23 } : Room) (yP ycl G yLM 0 28 z τ (yK G) [.ref (z + 0), .int (J ((f : Int))), .int (J ((Lv : Int))), .int (J ((kn : Int)))]) (yQg ycl G yLM 0 28 z (fun v ρ => v = nd (lfm τ f) Lv kn ∧ ∀ d, d ≠ 27 → ρ d = τ d)) 0 0 (yA z 0 28) := by
  refine y_met (by decide +kernel) (Nat.le_of_ble_eq_true rfl) ?_
  intro p e s m below meth c ls hx hb hr hml hlocks hown hname hts hv hl
  have hA : ∀ w ∈ yT, w.before _ s = true := fun w h => hts w (List.mem_cons_of_mem _ h)
  have hl : lv_has ls 6 [(0, .ref (z + 0)), (1, .int (J ((f : Int)))), (2, .int (J ((Lv : Int)))), (3, .int (J ((kn : Int))))] := hl
  obtain ⟨hW, hK⟩ := hv
  have hS : va_S (yA z 0 28) s.heap s.heap [] := va_S.rf
  have hAr : ∀ d, 0 ≤ d ∧ d < 0 + 28 → yA z 0 28 (z + d) := yA_all
  refine lv_iconst (v := J (0)) hx hb d_M_nodeOf_0 rfl ?_
  refine lv_istore (lv' := [(4, .int (J (0))), (0, .ref (z + 0)), (1, .int (J ((f : Int)))), (2, .int (J ((Lv : Int)))), (3, .int (J ((kn : Int))))]) hx hb d_M_nodeOf_1 hl (by decide) rfl (fun ls hl => ?_)
  have hlf : ∀ i, 0 ≤ lfm τ f i ∧ lfm τ f i < 10009 := by intro i; unfold lfm; split; exact hlr i (by omega); decide
  have loop3 : ∀ (q9 i : Nat), i + q9 = 16 → ∀ (ρ : yM), (∀ d, d ≠ 27 → ρ d = τ d) → (∀ t, t < i → ρ 27 t = lfm τ f t) → ∀ (ls : Array Slot) (H : Heap) (locs : List Loc), yW ycl G yLM 0 28 z ρ H → va_S (yA z 0 28) s.heap H locs → lv_has ls 6 [(4, .int (J (((i : Nat) : Int)))), (0, .ref (z + 0)), (1, .int (J ((f : Int)))), (2, .int (J ((Lv : Int)))), (3, .int (J ((kn : Int))))] → W p l e ({ frames := 1, cells := 0, slots := 0, locals := 23 } : Room) s m ([.ref (z + 0), .int (J ((f : Int))), .int (J ((Lv : Int))), .int (J ((kn : Int)))] : List Value).toArray below meth c H locs 0 0 (MQ below (yQg ycl G yLM 0 28 z (fun v ρ => v = nd (lfm τ f) Lv kn ∧ ∀ d, d ≠ 27 → ρ d = τ d)) ([.ref (z + 0), .int (J ((f : Int))), .int (J ((Lv : Int))), .int (J ((kn : Int)))] : List Value).toArray s 0 0 (yA z 0 28)) (F0 m 3 ls []) := by
    intro q9
    induction q9 with
    | zero =>
      intro i hik ρ hF hI ls H locs hW hS hl
      have hi16 : i = 16 := by omega
      subst hi16
      refine lv_iload hx hb d_M_nodeOf_3 (lv_at hl 0 rfl) ?_
      refine lv_bipush (v := J (16)) hx hb d_M_nodeOf_5 (by decide) ?_
      refine y_icmp_ge (tgt := 40) hx hb d_M_nodeOf_7 (by decide) ⟨by omega, by omega⟩ ⟨by omega, by omega⟩ (fun hc1 => ?_) (fun hc1 => absurd hc1 (by omega))
      refine lv_iconst (v := J (0)) hx hb d_M_nodeOf_40 rfl ?_
      refine lv_istore (lv' := [(4, .int (J (0))), (0, .ref (z + 0)), (1, .int (J ((f : Int)))), (2, .int (J ((Lv : Int)))), (3, .int (J ((kn : Int))))]) hx hb d_M_nodeOf_41 hl (by decide) rfl (fun ls hl => ?_)
      have loop43 : ∀ (q9 u : Nat), u + q9 = Lv → ∀ (ρ : yM), (∀ d, d ≠ 27 → ρ d = τ d) → (∀ t, t < 16 / 2 ^ u → ρ 27 t = nd (lfm τ f) u t) → ∀ (ls : Array Slot) (H : Heap) (locs : List Loc), yW ycl G yLM 0 28 z ρ H → va_S (yA z 0 28) s.heap H locs → lv_has ls 6 [(4, .int (J (((u : Nat) : Int)))), (0, .ref (z + 0)), (1, .int (J ((f : Int)))), (2, .int (J ((Lv : Int)))), (3, .int (J ((kn : Int))))] → W p l e ({ frames := 1, cells := 0, slots := 0, locals := 23 } : Room) s m ([.ref (z + 0), .int (J ((f : Int))), .int (J ((Lv : Int))), .int (J ((kn : Int)))] : List Value).toArray below meth c H locs 0 0 (MQ below (yQg ycl G yLM 0 28 z (fun v ρ => v = nd (lfm τ f) Lv kn ∧ ∀ d, d ≠ 27 → ρ d = τ d)) ([.ref (z + 0), .int (J ((f : Int))), .int (J ((Lv : Int))), .int (J ((kn : Int)))] : List Value).toArray s 0 0 (yA z 0 28)) (F0 m 43 ls []) := by
        intro q9
        induction q9 with
        | zero =>
          intro u huk ρ hF hI ls H locs hW hS hl
          have huL : Lv = u := by omega
          subst huL
          have hk16 : 16 / 2 ^ Lv ≤ 16 := Nat.div_le_self _ _
          refine lv_iload hx hb d_M_nodeOf_43 (lv_at hl 0 rfl) ?_
          refine lv_iload_n hx hb d_M_nodeOf_45 rfl (lv_at hl 3 rfl) ?_
          refine y_icmp_ge (tgt := 109) hx hb d_M_nodeOf_46 (by decide) ⟨by omega, by omega⟩ ⟨by omega, by omega⟩ (fun hc2 => ?_) (fun hc2 => absurd hc2 (by omega))
          refine lv_aload_n hx hb d_M_nodeOf_109 rfl (lv_at hl 1 rfl) ?_
          refine y_getr hx hb hA in_M hown hK.1 hW 0 (by omega) laym_0 rfl 32 (by decide) (hA _ k_fl_M_88) rfl d_M_nodeOf_110 ?_
          refine lv_iload_n hx hb d_M_nodeOf_113 rfl (lv_at hl 4 rfl) ?_
          refine y_iald hx hb hK.1 hW 27 (by omega) laym_27 rfl (by decide) kn rfl (by omega) d_M_nodeOf_114 ?_
          exact y_retg hx hb hr hlocks hS hW ⟨hI kn hkn, hF⟩ d_M_nodeOf_115
        | succ q9 iho =>
          intro u huk ρ hF hI ls H locs hW hS hl
          obtain ⟨p1, p2⟩ := p8 (m := u) (by omega)
          have h16 : 16 / 2 ^ u ≤ 16 := Nat.div_le_self _ _
          have hdv : (8 : Int) / 2 ^ u = ((8 / 2 ^ u : Nat) : Int) := by rw [Int.natCast_ediv, Int.natCast_pow]; rfl
          refine lv_iload hx hb d_M_nodeOf_43 (lv_at hl 0 rfl) ?_
          refine lv_iload_n hx hb d_M_nodeOf_45 rfl (lv_at hl 3 rfl) ?_
          refine y_icmp_ge (tgt := 109) hx hb d_M_nodeOf_46 (by decide) ⟨by omega, by omega⟩ ⟨by omega, by omega⟩ (fun hc3 => absurd hc3 (by omega)) (fun hc3 => ?_)
          refine lv_iconst (v := J (0)) hx hb d_M_nodeOf_49 rfl ?_
          refine lv_istore (lv' := [(5, .int (J (0))), (4, .int (J (((u : Nat) : Int)))), (0, .ref (z + 0)), (1, .int (J ((f : Int)))), (2, .int (J ((Lv : Int)))), (3, .int (J ((kn : Int))))]) hx hb d_M_nodeOf_50 hl (by decide) rfl (fun ls hl => ?_)
          have loop52 : ∀ (q8 i : Nat), i + q8 = 8 / 2 ^ u → ∀ (ρ : yM), (∀ d, d ≠ 27 → ρ d = τ d) → (∀ t, t < i → ρ 27 t = nd (lfm τ f) (u + 1) t) → (∀ t, 2 * i ≤ t → t < 16 / 2 ^ u → ρ 27 t = nd (lfm τ f) u t) → ∀ (ls : Array Slot) (H : Heap) (locs : List Loc), yW ycl G yLM 0 28 z ρ H → va_S (yA z 0 28) s.heap H locs → lv_has ls 6 [(5, .int (J (((i : Nat) : Int)))), (4, .int (J ((u : Int)))), (0, .ref (z + 0)), (1, .int (J ((f : Int)))), (2, .int (J ((Lv : Int)))), (3, .int (J ((kn : Int))))] → W p l e ({ frames := 1, cells := 0, slots := 0, locals := 23 } : Room) s m ([.ref (z + 0), .int (J ((f : Int))), .int (J ((Lv : Int))), .int (J ((kn : Int)))] : List Value).toArray below meth c H locs 0 0 (MQ below (yQg ycl G yLM 0 28 z (fun v ρ => v = nd (lfm τ f) Lv kn ∧ ∀ d, d ≠ 27 → ρ d = τ d)) ([.ref (z + 0), .int (J ((f : Int))), .int (J ((Lv : Int))), .int (J ((kn : Int)))] : List Value).toArray s 0 0 (yA z 0 28)) (F0 m 52 ls []) := by
            intro q8
            induction q8 with
            | zero =>
              intro i hik ρ hF hJ hR ls H locs hW hS hl
              refine lv_iload hx hb d_M_nodeOf_52 (lv_at hl 0 rfl) ?_
              refine lv_bipush (v := J (8)) hx hb d_M_nodeOf_54 (by decide) ?_
              refine lv_iload hx hb d_M_nodeOf_56 (lv_at hl 1 rfl) ?_
              refine y_ishr hx hb d_M_nodeOf_58 u rfl (by omega) (by omega) (by omega) ?_
              refine y_icmp_ge (tgt := 103) hx hb d_M_nodeOf_59 (by decide) ⟨by omega, by omega⟩ ⟨by rw [hdv]; exact Int.le_trans (by decide) (Int.natCast_nonneg _), by rw [hdv]; omega⟩ (fun hc4 => ?_) (fun hc4 => absurd hc4 (by rw [hdv]; omega))
              refine lv_iinc (k := 1) (v := J (((u + 1 : Nat) : Int))) (lv' := [(4, .int (J (((u + 1 : Nat) : Int)))), (5, .int (J (((i : Nat) : Int)))), (0, .ref (z + 0)), (1, .int (J ((f : Int)))), (2, .int (J ((Lv : Int)))), (3, .int (J ((kn : Int))))]) hx hb d_M_nodeOf_103 hl rfl (by rw [Int.natCast_add u 1]; exact J_add _ _) (by decide) rfl (fun ls hl => ?_)
              refine lv_goto (tgt := 43) hx hb d_M_nodeOf_106 (by decide) ?_
              refine iho (u + 1) (by omega) _ hF (fun t ht => hJ t (by omega)) ls H locs hW hS ?_
              exact lv_sub hl [0, 2, 3, 4, 5] rfl
            | succ q8 ih =>
              intro i hik ρ hF hJ hR ls H locs hW hS hl
              have r1 := nd_rng hlf u (2 * i)
              have r2 := nd_rng hlf u (2 * i + 1)
              refine lv_iload hx hb d_M_nodeOf_52 (lv_at hl 0 rfl) ?_
              refine lv_bipush (v := J (8)) hx hb d_M_nodeOf_54 (by decide) ?_
              refine lv_iload hx hb d_M_nodeOf_56 (lv_at hl 1 rfl) ?_
              refine y_ishr hx hb d_M_nodeOf_58 u rfl (by omega) (by omega) (by omega) ?_
              refine y_icmp_ge (tgt := 103) hx hb d_M_nodeOf_59 (by decide) ⟨by omega, by omega⟩ ⟨by rw [hdv]; exact Int.le_trans (by decide) (Int.natCast_nonneg _), by rw [hdv]; omega⟩ (fun hc5 => absurd hc5 (by rw [hdv]; omega)) (fun hc5 => ?_)
              refine lv_aload_n hx hb d_M_nodeOf_62 rfl (lv_at hl 2 rfl) ?_
              refine y_getr hx hb hA in_M hown hK.1 hW 0 (by omega) laym_0 rfl 32 (by decide) (hA _ k_fl_M_88) rfl d_M_nodeOf_63 ?_
              refine lv_iload hx hb d_M_nodeOf_66 (lv_at hl 0 rfl) ?_
              refine lv_aload_n hx hb d_M_nodeOf_68 rfl (lv_at hl 2 rfl) ?_
              refine lv_aload_n hx hb d_M_nodeOf_69 rfl (lv_at hl 2 rfl) ?_
              refine y_getr hx hb hA in_M hown hK.1 hW 0 (by omega) laym_0 rfl 32 (by decide) (hA _ k_fl_M_88) rfl d_M_nodeOf_70 ?_
              refine lv_iconst (v := J (2)) hx hb d_M_nodeOf_73 rfl ?_
              refine lv_iload hx hb d_M_nodeOf_74 (lv_at hl 0 rfl) ?_
              refine y_imul hx hb d_M_nodeOf_76 ?_
              refine y_iald hx hb hK.1 hW 27 (by omega) laym_27 rfl (by decide) (2 * i) (by omega) (by omega) d_M_nodeOf_77 ?_
              rw [hR (2 * i) (by omega) (by omega)]
              refine lv_aload_n hx hb d_M_nodeOf_78 rfl (lv_at hl 2 rfl) ?_
              refine y_getr hx hb hA in_M hown hK.1 hW 0 (by omega) laym_0 rfl 32 (by decide) (hA _ k_fl_M_88) rfl d_M_nodeOf_79 ?_
              refine lv_iconst (v := J (2)) hx hb d_M_nodeOf_82 rfl ?_
              refine lv_iload hx hb d_M_nodeOf_83 (lv_at hl 0 rfl) ?_
              refine y_imul hx hb d_M_nodeOf_85 ?_
              refine lv_iconst (v := J (1)) hx hb d_M_nodeOf_86 rfl ?_
              refine y_iadd hx hb d_M_nodeOf_87 ?_
              refine y_iald hx hb hK.1 hW 27 (by omega) laym_27 rfl (by decide) (2 * i + 1) (by omega) (by omega) d_M_nodeOf_88 ?_
              rw [hR (2 * i + 1) (by omega) (by omega)]
              refine lv_iload hx hb d_M_nodeOf_89 (lv_at hl 1 rfl) ?_
              refine lv_iconst (v := J (1)) hx hb d_M_nodeOf_91 rfl ?_
              refine y_iadd hx hb d_M_nodeOf_92 ?_
              refine y_ci (y_runV (As := [.int (J (nd (lfm τ f) u (2 * i))), .int (J (nd (lfm τ f) u (2 * i + 1))), .int (J ((u : Int) + 1))]) (rest := [.int (J (((i : Nat) : Int))), .ref (z + 27)]) ⟨hx, hb, hml, hown, hts⟩ (c_M_hash l G z ρ (mTb_to hTb (hF 1 (by omega)) (hF 2 (by omega))) (nd (lfm τ f) u (2 * i)) (nd (lfm τ f) u (2 * i + 1)) ((u : Int) + 1) (by omega) (by omega) (by omega)) 3 k_co_M_hash k_ml_M_102 k_im_M_hash k_se_M_hash k_in_M rfl rfl (by decide +kernel) ⟨Nat.le_of_ble_eq_true rfl, Nat.le_of_ble_eq_true rfl⟩ (yPv (yK_bl G) (yK_mv G) hK hK.1 hW (by omega) laym_0 rfl (by omega) (by omega)) rfl hl.1 rfl (Nat.le_of_ble_eq_true rfl) d_M_nodeOf_93 ⟨Nat.zero_le _, Nat.zero_le _⟩) hS hW (fun H locs hW hS => ?_)
              refine y_iast hx hb hK.1 hW 27 (by omega) laym_27 rfl (by decide) hS hAr i rfl (by omega) d_M_nodeOf_96 (fun H locs hW hS => ?_)
              refine lv_iinc (k := 0) (v := J (((i + 1 : Nat) : Int))) (lv' := [(5, .int (J (((i + 1 : Nat) : Int)))), (4, .int (J ((u : Int)))), (0, .ref (z + 0)), (1, .int (J ((f : Int)))), (2, .int (J ((Lv : Int)))), (3, .int (J ((kn : Int))))]) hx hb d_M_nodeOf_97 hl rfl (by rw [Int.natCast_add i 1]; exact J_add _ _) (by decide) rfl (fun ls hl => ?_)
              refine lv_goto (tgt := 52) hx hb d_M_nodeOf_100 (by decide) ?_
              refine ih (i + 1) (by omega) _ (fun d hd => (y2_ne hd).trans (hF d hd)) (fun t ht => ?_) (fun t h1 h2 => ?_) ls H locs hW hS hl
              · by_cases e : t = i
                · subst e; rw [y2_at]; exact congrArg eX (by omega)
                · rw [y2_ot e]; exact hJ t (by omega)
              · rw [y2_ot (by omega)]; exact hR t (by omega) h2
          exact loop52 (8 / 2 ^ u) 0 (by omega) ρ hF (fun t h => absurd h (Nat.not_lt_zero t)) (fun t _ h => hI t h) ls _ _ hW hS (lv_sub hl [0, 1, 2, 3, 4, 5] rfl)
      exact loop43 Lv 0 (by omega) ρ hF (fun t ht => hI t (by simpa using ht)) ls _ _ hW hS (lv_sub hl [0, 1, 2, 3, 4] rfl)
    | succ q9 ih =>
      intro i hik ρ hF hI ls H locs hW hS hl
      refine lv_iload hx hb d_M_nodeOf_3 (lv_at hl 0 rfl) ?_
      refine lv_bipush (v := J (16)) hx hb d_M_nodeOf_5 (by decide) ?_
      refine y_icmp_ge (tgt := 40) hx hb d_M_nodeOf_7 (by decide) ⟨by omega, by omega⟩ ⟨by omega, by omega⟩ (fun hc6 => absurd hc6 (by omega)) (fun hc6 => ?_)
      refine lv_aload_n hx hb d_M_nodeOf_10 rfl (lv_at hl 1 rfl) ?_
      refine y_getr hx hb hA in_M hown hK.1 hW 0 (by omega) laym_0 rfl 32 (by decide) (hA _ k_fl_M_88) rfl d_M_nodeOf_11 ?_
      refine lv_iload hx hb d_M_nodeOf_14 (lv_at hl 0 rfl) ?_
      refine lv_iload hx hb d_M_nodeOf_16 (lv_at hl 0 rfl) ?_
      refine lv_iload_n hx hb d_M_nodeOf_18 rfl (lv_at hl 2 rfl) ?_
      refine y_icmp_ge (tgt := 32) hx hb d_M_nodeOf_19 (by decide) ⟨by omega, by omega⟩ ⟨by omega, by omega⟩ (fun hc7 => ?_) (fun hc7 => ?_)
      · skip
        refine lv_iconst (v := J (0)) hx hb d_M_nodeOf_32 rfl ?_
        refine y_iast hx hb hK.1 hW 27 (by omega) laym_27 rfl (by decide) hS hAr i rfl (by omega) d_M_nodeOf_33 (fun H locs hW hS => ?_)
        refine lv_iinc (k := 0) (v := J (((i + 1 : Nat) : Int))) (lv' := [(4, .int (J (((i + 1 : Nat) : Int)))), (0, .ref (z + 0)), (1, .int (J ((f : Int)))), (2, .int (J ((Lv : Int)))), (3, .int (J ((kn : Int))))]) hx hb d_M_nodeOf_34 hl rfl (by rw [Int.natCast_add i 1]; exact J_add _ _) (by decide) rfl (fun ls hl => ?_)
        refine lv_goto (tgt := 3) hx hb d_M_nodeOf_37 (by decide) ?_
        refine ih (i + 1) (by omega) _ (fun d hd => (y2_ne hd).trans (hF d hd)) (fun t ht => ?_) ls H locs hW hS hl
        by_cases e : t = i
        · subst e; rw [y2_at]; unfold lfm; rw [if_neg (by omega)]
        · rw [y2_ot e]; exact hI t (by omega)
      · skip
        refine lv_aload_n hx hb d_M_nodeOf_22 rfl (lv_at hl 1 rfl) ?_
        refine y_getr hx hb hA in_M hown hK.1 hW 0 (by omega) laym_0 rfl 28 (by decide) (hA _ k_fl_M_76) rfl d_M_nodeOf_23 ?_
        refine lv_iload hx hb d_M_nodeOf_26 (lv_at hl 0 rfl) ?_
        refine y_iald hx hb hK.1 hW 23 (by omega) laym_23 rfl (by decide) i rfl (by omega) d_M_nodeOf_28 ?_
        rw [hF 23 (by omega)]
        refine lv_goto (tgt := 33) hx hb d_M_nodeOf_29 (by decide) ?_
        refine y_iast hx hb hK.1 hW 27 (by omega) laym_27 rfl (by decide) hS hAr i rfl (by omega) d_M_nodeOf_33 (fun H locs hW hS => ?_)
        refine lv_iinc (k := 0) (v := J (((i + 1 : Nat) : Int))) (lv' := [(4, .int (J (((i + 1 : Nat) : Int)))), (0, .ref (z + 0)), (1, .int (J ((f : Int)))), (2, .int (J ((Lv : Int)))), (3, .int (J ((kn : Int))))]) hx hb d_M_nodeOf_34 hl rfl (by rw [Int.natCast_add i 1]; exact J_add _ _) (by decide) rfl (fun ls hl => ?_)
        refine lv_goto (tgt := 3) hx hb d_M_nodeOf_37 (by decide) ?_
        refine ih (i + 1) (by omega) _ (fun d hd => (y2_ne hd).trans (hF d hd)) (fun t ht => ?_) ls H locs hW hS hl
        by_cases e : t = i
        · subst e; rw [y2_at]; unfold lfm; rw [if_pos (by omega)]
        · rw [y2_ot e]; exact hI t (by omega)
  exact loop3 16 0 rfl τ (fun _ _ => rfl) (fun t h => absurd h (Nat.not_lt_zero t)) ls _ _ hW hS hl
