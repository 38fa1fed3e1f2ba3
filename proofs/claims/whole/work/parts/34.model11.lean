theorem y2_cg {ρ σ : yM} {c k d : Nat} {v : Int} (h : ρ d = σ d) : y2 ρ c k v d = y2 σ c k v d := by
  funext j
  unfold y2
  rw [h]
/-- what the reference's spend leaves -/
def spM (τ ρ : yM) (ns kn jn fl : Nat) (k i w : Int) : Prop :=
  (∀ d, d ≠ 11 → d ≠ 27 → ρ d = (y2 (y2 (y2 (y2 (y2 (y2 (y2 (y2 τ 4 ns k) 5 ns i) 6 ns (vOf (τ 3 kn) (τ 24 jn) (τ 25 jn))) 7 ns (tOf (τ 3 kn) (τ 24 jn) (τ 26 jn))) 8 ns w) 9 ns (nd (lfm τ fl) 4 0)) 10 ns (nOf (τ 3 kn) i)) 0 4 ((ns : Int) + 1)) d) ∧ (∀ u, u < 4 → ρ 11 (4 * ns + u) = nd (lfm τ fl) u (jn / 2 ^ u ^^^ 1)) ∧ ∀ j, j < 4 * ns → ρ 11 j = τ 11 j
theorem d_M_spend_0 : decode b_M_spend 0 = .ok (.aload_n 0, 1) := by decide +kernel
theorem d_M_spend_1 : decode b_M_spend 1 = .ok (.iload_n 1, 1) := by decide +kernel
theorem d_M_spend_2 : decode b_M_spend 2 = .ok (.iload_n 2, 1) := by decide +kernel
theorem d_M_spend_3 : decode b_M_spend 3 = .ok (.invokevirtual 143, 3) := by decide +kernel
theorem d_M_spend_6 : decode b_M_spend 6 = .ok (.ifCond .eq 18, 3) := by decide +kernel
theorem d_M_spend_9 : decode b_M_spend 9 = .ok (.aload_n 0, 1) := by decide +kernel
theorem d_M_spend_10 : decode b_M_spend 10 = .ok (.getfield 153, 3) := by decide +kernel
theorem d_M_spend_13 : decode b_M_spend 13 = .ok (.iconst 2, 1) := by decide +kernel
theorem d_M_spend_14 : decode b_M_spend 14 = .ok (.if_icmp .eq 10, 3) := by decide +kernel
theorem d_M_spend_17 : decode b_M_spend 17 = .ok (.iload_n 3, 1) := by decide +kernel
theorem d_M_spend_18 : decode b_M_spend 18 = .ok (.invokestatic 165, 3) := by decide +kernel
theorem d_M_spend_21 : decode b_M_spend 21 = .ok (.ifCond .ne 5, 3) := by decide +kernel
theorem d_M_spend_24 : decode b_M_spend 24 = .ok (.iconst 0, 1) := by decide +kernel
theorem d_M_spend_25 : decode b_M_spend 25 = .ok (.ireturn, 1) := by decide +kernel
theorem d_M_spend_26 : decode b_M_spend 26 = .ok (.aload_n 0, 1) := by decide +kernel
theorem d_M_spend_27 : decode b_M_spend 27 = .ok (.getfield 153, 3) := by decide +kernel
theorem d_M_spend_30 : decode b_M_spend 30 = .ok (.istore 4, 2) := by decide +kernel
theorem d_M_spend_32 : decode b_M_spend 32 = .ok (.aload_n 0, 1) := by decide +kernel
theorem d_M_spend_33 : decode b_M_spend 33 = .ok (.getfield 19, 3) := by decide +kernel
theorem d_M_spend_36 : decode b_M_spend 36 = .ok (.iload 4, 2) := by decide +kernel
theorem d_M_spend_38 : decode b_M_spend 38 = .ok (.iload_n 1, 1) := by decide +kernel
theorem d_M_spend_39 : decode b_M_spend 39 = .ok (.iastore, 1) := by decide +kernel
theorem d_M_spend_40 : decode b_M_spend 40 = .ok (.aload_n 0, 1) := by decide +kernel
theorem d_M_spend_41 : decode b_M_spend 41 = .ok (.getfield 22, 3) := by decide +kernel
theorem d_M_spend_44 : decode b_M_spend 44 = .ok (.iload 4, 2) := by decide +kernel
theorem d_M_spend_46 : decode b_M_spend 46 = .ok (.iload_n 2, 1) := by decide +kernel
theorem d_M_spend_47 : decode b_M_spend 47 = .ok (.iastore, 1) := by decide +kernel
theorem d_M_spend_48 : decode b_M_spend 48 = .ok (.aload_n 0, 1) := by decide +kernel
theorem d_M_spend_49 : decode b_M_spend 49 = .ok (.getfield 25, 3) := by decide +kernel
theorem d_M_spend_52 : decode b_M_spend 52 = .ok (.iload 4, 2) := by decide +kernel
theorem d_M_spend_54 : decode b_M_spend 54 = .ok (.aload_n 0, 1) := by decide +kernel
theorem d_M_spend_55 : decode b_M_spend 55 = .ok (.iload_n 1, 1) := by decide +kernel
theorem d_M_spend_56 : decode b_M_spend 56 = .ok (.iload_n 2, 1) := by decide +kernel
theorem d_M_spend_57 : decode b_M_spend 57 = .ok (.invokevirtual 134, 3) := by decide +kernel
theorem d_M_spend_60 : decode b_M_spend 60 = .ok (.iastore, 1) := by decide +kernel
theorem d_M_spend_61 : decode b_M_spend 61 = .ok (.aload_n 0, 1) := by decide +kernel
theorem d_M_spend_62 : decode b_M_spend 62 = .ok (.getfield 28, 3) := by decide +kernel
theorem d_M_spend_65 : decode b_M_spend 65 = .ok (.iload 4, 2) := by decide +kernel
theorem d_M_spend_67 : decode b_M_spend 67 = .ok (.aload_n 0, 1) := by decide +kernel
theorem d_M_spend_68 : decode b_M_spend 68 = .ok (.iload_n 1, 1) := by decide +kernel
theorem d_M_spend_69 : decode b_M_spend 69 = .ok (.iload_n 2, 1) := by decide +kernel
theorem d_M_spend_70 : decode b_M_spend 70 = .ok (.invokevirtual 137, 3) := by decide +kernel
theorem d_M_spend_73 : decode b_M_spend 73 = .ok (.iastore, 1) := by decide +kernel
theorem d_M_spend_74 : decode b_M_spend 74 = .ok (.aload_n 0, 1) := by decide +kernel
theorem d_M_spend_75 : decode b_M_spend 75 = .ok (.getfield 31, 3) := by decide +kernel
theorem d_M_spend_78 : decode b_M_spend 78 = .ok (.iload 4, 2) := by decide +kernel
theorem d_M_spend_80 : decode b_M_spend 80 = .ok (.iload_n 3, 1) := by decide +kernel
theorem d_M_spend_81 : decode b_M_spend 81 = .ok (.iastore, 1) := by decide +kernel
theorem d_M_spend_82 : decode b_M_spend 82 = .ok (.aload_n 0, 1) := by decide +kernel
theorem d_M_spend_83 : decode b_M_spend 83 = .ok (.getfield 34, 3) := by decide +kernel
theorem d_M_spend_86 : decode b_M_spend 86 = .ok (.iload 4, 2) := by decide +kernel
theorem d_M_spend_88 : decode b_M_spend 88 = .ok (.aload_n 0, 1) := by decide +kernel
theorem d_M_spend_89 : decode b_M_spend 89 = .ok (.iconst 4, 1) := by decide +kernel
theorem d_M_spend_90 : decode b_M_spend 90 = .ok (.iconst 0, 1) := by decide +kernel
theorem d_M_spend_91 : decode b_M_spend 91 = .ok (.invokevirtual 168, 3) := by decide +kernel
theorem d_M_spend_94 : decode b_M_spend 94 = .ok (.iastore, 1) := by decide +kernel
theorem d_M_spend_95 : decode b_M_spend 95 = .ok (.aload_n 0, 1) := by decide +kernel
theorem d_M_spend_96 : decode b_M_spend 96 = .ok (.getfield 37, 3) := by decide +kernel
theorem d_M_spend_99 : decode b_M_spend 99 = .ok (.iload 4, 2) := by decide +kernel
theorem d_M_spend_101 : decode b_M_spend 101 = .ok (.aload_n 0, 1) := by decide +kernel
theorem d_M_spend_102 : decode b_M_spend 102 = .ok (.iload_n 1, 1) := by decide +kernel
theorem d_M_spend_103 : decode b_M_spend 103 = .ok (.iload_n 2, 1) := by decide +kernel
theorem d_M_spend_104 : decode b_M_spend 104 = .ok (.invokevirtual 147, 3) := by decide +kernel
theorem d_M_spend_107 : decode b_M_spend 107 = .ok (.iastore, 1) := by decide +kernel
theorem d_M_spend_108 : decode b_M_spend 108 = .ok (.iconst 0, 1) := by decide +kernel
theorem d_M_spend_109 : decode b_M_spend 109 = .ok (.istore 5, 2) := by decide +kernel
theorem d_M_spend_111 : decode b_M_spend 111 = .ok (.iload 5, 2) := by decide +kernel
theorem d_M_spend_113 : decode b_M_spend 113 = .ok (.iconst 4, 1) := by decide +kernel
theorem d_M_spend_114 : decode b_M_spend 114 = .ok (.if_icmp .ge 33, 3) := by decide +kernel
theorem d_M_spend_117 : decode b_M_spend 117 = .ok (.aload_n 0, 1) := by decide +kernel
theorem d_M_spend_118 : decode b_M_spend 118 = .ok (.getfield 40, 3) := by decide +kernel
theorem d_M_spend_121 : decode b_M_spend 121 = .ok (.iconst 4, 1) := by decide +kernel
theorem d_M_spend_122 : decode b_M_spend 122 = .ok (.iload 4, 2) := by decide +kernel
theorem d_M_spend_124 : decode b_M_spend 124 = .ok (.imul, 1) := by decide +kernel
theorem d_M_spend_125 : decode b_M_spend 125 = .ok (.iload 5, 2) := by decide +kernel
theorem d_M_spend_127 : decode b_M_spend 127 = .ok (.iadd, 1) := by decide +kernel
theorem d_M_spend_128 : decode b_M_spend 128 = .ok (.aload_n 0, 1) := by decide +kernel
theorem d_M_spend_129 : decode b_M_spend 129 = .ok (.iload 5, 2) := by decide +kernel
theorem d_M_spend_131 : decode b_M_spend 131 = .ok (.iload_n 2, 1) := by decide +kernel
theorem d_M_spend_132 : decode b_M_spend 132 = .ok (.iload 5, 2) := by decide +kernel
theorem d_M_spend_134 : decode b_M_spend 134 = .ok (.ishr, 1) := by decide +kernel
theorem d_M_spend_135 : decode b_M_spend 135 = .ok (.iconst 1, 1) := by decide +kernel
theorem d_M_spend_136 : decode b_M_spend 136 = .ok (.ixor, 1) := by decide +kernel
theorem d_M_spend_137 : decode b_M_spend 137 = .ok (.invokevirtual 168, 3) := by decide +kernel
theorem d_M_spend_140 : decode b_M_spend 140 = .ok (.iastore, 1) := by decide +kernel
theorem d_M_spend_141 : decode b_M_spend 141 = .ok (.iinc 5 1, 3) := by decide +kernel
theorem d_M_spend_144 : decode b_M_spend 144 = .ok (.goto (-33), 3) := by decide +kernel
theorem d_M_spend_147 : decode b_M_spend 147 = .ok (.aload_n 0, 1) := by decide +kernel
theorem d_M_spend_148 : decode b_M_spend 148 = .ok (.dup, 1) := by decide +kernel
theorem d_M_spend_149 : decode b_M_spend 149 = .ok (.getfield 153, 3) := by decide +kernel
theorem d_M_spend_152 : decode b_M_spend 152 = .ok (.iconst 1, 1) := by decide +kernel
theorem d_M_spend_153 : decode b_M_spend 153 = .ok (.iadd, 1) := by decide +kernel
theorem d_M_spend_154 : decode b_M_spend 154 = .ok (.putfield 153, 3) := by decide +kernel
theorem d_M_spend_157 : decode b_M_spend 157 = .ok (.iconst 1, 1) := by decide +kernel
theorem d_M_spend_158 : decode b_M_spend 158 = .ok (.ireturn, 1) := by decide +kernel
theorem d_M_proven_0 : decode b_M_proven 0 = .ok (.aload_n 0, 1) := by decide +kernel
theorem d_M_proven_1 : decode b_M_proven 1 = .ok (.getfield 19, 3) := by decide +kernel
theorem d_M_proven_4 : decode b_M_proven 4 = .ok (.iload_n 1, 1) := by decide +kernel
theorem d_M_proven_5 : decode b_M_proven 5 = .ok (.iaload, 1) := by decide +kernel
theorem d_M_proven_6 : decode b_M_proven 6 = .ok (.istore_n 2, 1) := by decide +kernel
theorem d_M_proven_7 : decode b_M_proven 7 = .ok (.aload_n 0, 1) := by decide +kernel
theorem d_M_proven_8 : decode b_M_proven 8 = .ok (.iload_n 2, 1) := by decide +kernel
theorem d_M_proven_9 : decode b_M_proven 9 = .ok (.aload_n 0, 1) := by decide +kernel
theorem d_M_proven_10 : decode b_M_proven 10 = .ok (.getfield 25, 3) := by decide +kernel
theorem d_M_proven_13 : decode b_M_proven 13 = .ok (.iload_n 1, 1) := by decide +kernel
theorem d_M_proven_14 : decode b_M_proven 14 = .ok (.iaload, 1) := by decide +kernel
theorem d_M_proven_15 : decode b_M_proven 15 = .ok (.aload_n 0, 1) := by decide +kernel
theorem d_M_proven_16 : decode b_M_proven 16 = .ok (.getfield 28, 3) := by decide +kernel
theorem d_M_proven_19 : decode b_M_proven 19 = .ok (.iload_n 1, 1) := by decide +kernel
theorem d_M_proven_20 : decode b_M_proven 20 = .ok (.iaload, 1) := by decide +kernel
theorem d_M_proven_21 : decode b_M_proven 21 = .ok (.invokevirtual 140, 3) := by decide +kernel
theorem d_M_proven_24 : decode b_M_proven 24 = .ok (.istore_n 3, 1) := by decide +kernel
theorem d_M_proven_25 : decode b_M_proven 25 = .ok (.iconst 0, 1) := by decide +kernel
theorem d_M_proven_26 : decode b_M_proven 26 = .ok (.istore 4, 2) := by decide +kernel
theorem d_M_proven_28 : decode b_M_proven 28 = .ok (.iload 4, 2) := by decide +kernel
theorem d_M_proven_30 : decode b_M_proven 30 = .ok (.iconst 4, 1) := by decide +kernel
theorem d_M_proven_31 : decode b_M_proven 31 = .ok (.if_icmp .ge 62, 3) := by decide +kernel
theorem d_M_proven_34 : decode b_M_proven 34 = .ok (.aload_n 0, 1) := by decide +kernel
theorem d_M_proven_35 : decode b_M_proven 35 = .ok (.getfield 40, 3) := by decide +kernel
theorem d_M_proven_38 : decode b_M_proven 38 = .ok (.iconst 4, 1) := by decide +kernel
theorem d_M_proven_39 : decode b_M_proven 39 = .ok (.iload_n 1, 1) := by decide +kernel
theorem d_M_proven_40 : decode b_M_proven 40 = .ok (.imul, 1) := by decide +kernel
theorem d_M_proven_41 : decode b_M_proven 41 = .ok (.iload 4, 2) := by decide +kernel
theorem d_M_proven_43 : decode b_M_proven 43 = .ok (.iadd, 1) := by decide +kernel
theorem d_M_proven_44 : decode b_M_proven 44 = .ok (.iaload, 1) := by decide +kernel
theorem d_M_proven_45 : decode b_M_proven 45 = .ok (.istore 5, 2) := by decide +kernel
theorem d_M_proven_47 : decode b_M_proven 47 = .ok (.aload_n 0, 1) := by decide +kernel
theorem d_M_proven_48 : decode b_M_proven 48 = .ok (.getfield 22, 3) := by decide +kernel
theorem d_M_proven_51 : decode b_M_proven 51 = .ok (.iload_n 1, 1) := by decide +kernel
theorem d_M_proven_52 : decode b_M_proven 52 = .ok (.iaload, 1) := by decide +kernel
theorem d_M_proven_53 : decode b_M_proven 53 = .ok (.iload 4, 2) := by decide +kernel
theorem d_M_proven_55 : decode b_M_proven 55 = .ok (.ishr, 1) := by decide +kernel
theorem d_M_proven_56 : decode b_M_proven 56 = .ok (.iconst 1, 1) := by decide +kernel
theorem d_M_proven_57 : decode b_M_proven 57 = .ok (.iand, 1) := by decide +kernel
theorem d_M_proven_58 : decode b_M_proven 58 = .ok (.ifCond .ne 17, 3) := by decide +kernel
theorem d_M_proven_61 : decode b_M_proven 61 = .ok (.aload_n 0, 1) := by decide +kernel
theorem d_M_proven_62 : decode b_M_proven 62 = .ok (.iload_n 3, 1) := by decide +kernel
theorem d_M_proven_63 : decode b_M_proven 63 = .ok (.iload 5, 2) := by decide +kernel
theorem d_M_proven_65 : decode b_M_proven 65 = .ok (.iload 4, 2) := by decide +kernel
theorem d_M_proven_67 : decode b_M_proven 67 = .ok (.iconst 1, 1) := by decide +kernel
theorem d_M_proven_68 : decode b_M_proven 68 = .ok (.iadd, 1) := by decide +kernel
theorem d_M_proven_69 : decode b_M_proven 69 = .ok (.invokevirtual 102, 3) := by decide +kernel
theorem d_M_proven_72 : decode b_M_proven 72 = .ok (.goto 14, 3) := by decide +kernel
theorem d_M_proven_75 : decode b_M_proven 75 = .ok (.aload_n 0, 1) := by decide +kernel
theorem d_M_proven_76 : decode b_M_proven 76 = .ok (.iload 5, 2) := by decide +kernel
theorem d_M_proven_78 : decode b_M_proven 78 = .ok (.iload_n 3, 1) := by decide +kernel
theorem d_M_proven_79 : decode b_M_proven 79 = .ok (.iload 4, 2) := by decide +kernel
theorem d_M_proven_81 : decode b_M_proven 81 = .ok (.iconst 1, 1) := by decide +kernel
theorem d_M_proven_82 : decode b_M_proven 82 = .ok (.iadd, 1) := by decide +kernel
theorem d_M_proven_83 : decode b_M_proven 83 = .ok (.invokevirtual 102, 3) := by decide +kernel
theorem d_M_proven_86 : decode b_M_proven 86 = .ok (.istore_n 3, 1) := by decide +kernel
theorem d_M_proven_87 : decode b_M_proven 87 = .ok (.iinc 4 1, 3) := by decide +kernel
theorem d_M_proven_90 : decode b_M_proven 90 = .ok (.goto (-62), 3) := by decide +kernel
theorem d_M_proven_93 : decode b_M_proven 93 = .ok (.iload_n 3, 1) := by decide +kernel
theorem d_M_proven_94 : decode b_M_proven 94 = .ok (.aload_n 0, 1) := by decide +kernel
theorem d_M_proven_95 : decode b_M_proven 95 = .ok (.getfield 34, 3) := by decide +kernel
theorem d_M_proven_98 : decode b_M_proven 98 = .ok (.iload_n 1, 1) := by decide +kernel
theorem d_M_proven_99 : decode b_M_proven 99 = .ok (.iaload, 1) := by decide +kernel
theorem d_M_proven_100 : decode b_M_proven 100 = .ok (.if_icmp .ne 27, 3) := by decide +kernel
theorem d_M_proven_103 : decode b_M_proven 103 = .ok (.aload_n 0, 1) := by decide +kernel
theorem d_M_proven_104 : decode b_M_proven 104 = .ok (.getfield 37, 3) := by decide +kernel
theorem d_M_proven_107 : decode b_M_proven 107 = .ok (.iload_n 1, 1) := by decide +kernel
theorem d_M_proven_108 : decode b_M_proven 108 = .ok (.iaload, 1) := by decide +kernel
theorem d_M_proven_109 : decode b_M_proven 109 = .ok (.aload_n 0, 1) := by decide +kernel
theorem d_M_proven_110 : decode b_M_proven 110 = .ok (.iload_n 2, 1) := by decide +kernel
theorem d_M_proven_111 : decode b_M_proven 111 = .ok (.aload_n 0, 1) := by decide +kernel
theorem d_M_proven_112 : decode b_M_proven 112 = .ok (.getfield 22, 3) := by decide +kernel
theorem d_M_proven_115 : decode b_M_proven 115 = .ok (.iload_n 1, 1) := by decide +kernel
theorem d_M_proven_116 : decode b_M_proven 116 = .ok (.iaload, 1) := by decide +kernel
theorem d_M_proven_117 : decode b_M_proven 117 = .ok (.invokevirtual 147, 3) := by decide +kernel
theorem d_M_proven_120 : decode b_M_proven 120 = .ok (.if_icmp .ne 7, 3) := by decide +kernel
theorem d_M_proven_123 : decode b_M_proven 123 = .ok (.iconst 1, 1) := by decide +kernel
theorem d_M_proven_124 : decode b_M_proven 124 = .ok (.goto 4, 3) := by decide +kernel
theorem d_M_proven_127 : decode b_M_proven 127 = .ok (.iconst 0, 1) := by decide +kernel
theorem d_M_proven_128 : decode b_M_proven 128 = .ok (.ireturn, 1) := by decide +kernel

set_option maxHeartbeats 4000000 in
set_option maxRecDepth 100000 in
theorem c_M_spend (l : Launch) (G : yG) (z : Nat) (τ : yM) (hTb : mTb τ) (nk : Nat) (hnk : nk ≤ 4) (hk0 : τ 0 2 = (nk : Int)) (nb : Nat) (hnbr : nb ≤ 12) (hnb : τ 0 24 = (nb : Int)) (fl : Nat) (hflr : fl ≤ 16) (hfl : (if nb = 0 then 0 else τ 20 (nb - 1)) = (fl : Int)) (hlr : ∀ i, i < fl → 0 ≤ τ 23 i ∧ τ 23 i < 10009) (hsec : ∀ k, k < nk → 1 ≤ τ 3 k ∧ τ 3 k ≤ 2472) (hld : ∀ i, i < fl → (0 ≤ τ 24 i ∧ τ 24 i < 2473) ∧ (0 ≤ τ 25 i ∧ τ 25 i < 1000) ∧ (0 ≤ τ 26 i ∧ τ 26 i < 2473)) (ns : Nat) (hns : ns ≤ 2) (hs : τ 0 4 = (ns : Int)) (k i w9 : Int) (hk9 : jr k) (hi9 : jr i) (hw9 : jr w9) : Met l y_M_spend (Cond.code y_M_spend b_M_spend 6 (some .boolean) :: yT) ({ frames := 3, cells := 0, slots := 0, locals := 70 } : Room) (yP ycl G yLM 0 28 z τ (yK G) [.ref (z + 0), .int (J (k)), .int (J (i)), .int (J (w9))]) (yQg ycl G yLM 0 28 z (fun x ρ => ((finM τ nk fl k i ∧ ns ≠ 2 ∧ 0 ≤ w9 ∧ w9 < 2473) → x = 1 ∧ spM τ ρ ns k.toNat i.toNat fl k i w9) ∧ (¬ (finM τ nk fl k i ∧ ns ≠ 2 ∧ 0 ≤ w9 ∧ w9 < 2473) → x = 0 ∧ ρ = τ))) 0 0 (yA z 0 28) := by
  refine y_met (by decide +kernel) (Nat.le_of_ble_eq_true rfl) ?_
  intro p e s m below meth c ls hx hb hr hml hlocks hown hname hts hv hl
  have hA : ∀ w ∈ yT, w.before _ s = true := fun w h => hts w (List.mem_cons_of_mem _ h)
  have hl : lv_has ls 6 [(0, .ref (z + 0)), (1, .int (J (k))), (2, .int (J (i))), (3, .int (J (w9)))] := hl
  obtain ⟨hW, hK⟩ := hv
  have hS : va_S (yA z 0 28) s.heap s.heap [] := va_S.rf
  have hAr : ∀ d, 0 ≤ d ∧ d < 0 + 28 → yA z 0 28 (z + d) := yA_all
  refine lv_aload_n hx hb d_M_spend_0 rfl (lv_at hl 0 rfl) ?_
  refine lv_iload_n hx hb d_M_spend_1 rfl (lv_at hl 1 rfl) ?_
  refine lv_iload_n hx hb d_M_spend_2 rfl (lv_at hl 2 rfl) ?_
  refine y_ci (y_runV (As := [.int (J (k)), .int (J (i))]) (rest := []) ⟨hx, hb, hml, hown, hts⟩ (c_M_finds l G z τ hTb nk hnk hk0 nb hnbr hnb fl hflr hfl hlr hsec hld (k) (i) hk9 hi9) 2 k_co_M_finds k_ml_M_143 k_im_M_finds k_se_M_finds k_in_M rfl rfl (by decide +kernel) ⟨Nat.le_of_ble_eq_true rfl, Nat.le_of_ble_eq_true rfl⟩ (yPv (yK_bl G) (yK_mv G) hK hK.1 hW (by omega) laym_0 rfl (by omega) (by omega)) rfl hl.1 rfl (Nat.le_of_ble_eq_true rfl) d_M_spend_3 ⟨Nat.zero_le _, Nat.zero_le _⟩) hS hW (fun H locs hW hS => ?_)
  by_cases hf9 : finM τ nk fl k i
  · skip
    rw [b01_t hf9]
    refine y_if_eq (tgt := 24) hx hb d_M_spend_6 (by decide) ⟨by omega, by omega⟩ (fun hc1 => absurd hc1 (by decide)) (fun hc1 => ?_)
    refine lv_aload_n hx hb d_M_spend_9 rfl (lv_at hl 0 rfl) ?_
    refine y_geti hx hb hA in_M hown hK.1 hW 0 (by omega) laym_0 rfl 4 (by decide) (hA _ k_fl_M_153) rfl d_M_spend_10 ?_
    rw [hs]
    refine lv_iconst (v := J (2)) hx hb d_M_spend_13 rfl ?_
    refine y_icmp_eq (tgt := 24) hx hb d_M_spend_14 (by decide) ⟨by omega, by omega⟩ ⟨by omega, by omega⟩ (fun hc2 => ?_) (fun hc2 => ?_)
    · skip
      refine lv_iconst (v := J (0)) hx hb d_M_spend_24 rfl ?_
      exact y_retgz hx hb hr hlocks hS hW (Or.inl rfl) ⟨fun h => absurd h (fun hh => by first | exact hf9 hh.1 | (have h2 := hh.2; omega)), fun _ => ⟨rfl, rfl⟩⟩ d_M_spend_25
    · skip
      refine lv_iload_n hx hb d_M_spend_17 rfl (lv_at hl 3 rfl) ?_
      refine y_ci (y_runS (As := [.int (J (w9))]) (rest := []) ⟨hx, hb, hml, hown, hts⟩ (c_M_isScalar l G (w9) hw9) 1 k_co_M_isScalar k_ml_M_165 k_st_M_isScalar k_in_M rfl rfl (by decide +kernel) ⟨Nat.le_of_ble_eq_true rfl, Nat.le_of_ble_eq_true rfl⟩ (yPs0 (yK_bl G) (yK_mv G) hK) rfl hl.1 rfl (Nat.le_of_ble_eq_true rfl) d_M_spend_18 ⟨Nat.zero_le _, Nat.zero_le _⟩) hS hW (fun H locs hW hS => ?_)
      by_cases hq18 : 0 ≤ w9 ∧ w9 < 2473
      · skip
        rw [show (if 0 ≤ w9 ∧ w9 < 2473 then (1 : Int) else 0) = 1 from if_pos hq18]
        refine y_if_ne (tgt := 26) hx hb d_M_spend_21 (by decide) ⟨by omega, by omega⟩ (fun hc3 => ?_) (fun hc3 => absurd hc3 (by decide))
        have hfc := hf9
        obtain ⟨g1, g2, g3⟩ := hf9
        obtain ⟨kn, e_kn⟩ : ∃ q : Nat, k = (q : Int) := ⟨(k).toNat, by omega⟩
        obtain ⟨jn, e_jn⟩ : ∃ q : Nat, i = (q : Int) := ⟨(i).toNat, by omega⟩
        have hs8 := hsec kn (by omega)
        have hs9 : 0 ≤ τ 3 kn ∧ τ 3 kn < 2473 := by omega
        obtain ⟨hl1, hl2, hl3⟩ := hld jn (by omega)
        refine lv_aload_n hx hb d_M_spend_26 rfl (lv_at hl 0 rfl) ?_
        refine y_geti hx hb hA in_M hown hK.1 hW 0 (by omega) laym_0 rfl 4 (by decide) (hA _ k_fl_M_153) rfl d_M_spend_27 ?_
        rw [hs]
        refine lv_istore (lv' := [(4, .int (J ((ns : Int)))), (0, .ref (z + 0)), (1, .int (J (k))), (2, .int (J (i))), (3, .int (J (w9)))]) hx hb d_M_spend_30 hl (by decide) rfl (fun ls hl => ?_)
        refine lv_aload_n hx hb d_M_spend_32 rfl (lv_at hl 1 rfl) ?_
        refine y_getr hx hb hA in_M hown hK.1 hW 0 (by omega) laym_0 rfl 5 (by decide) (hA _ k_fl_M_19) rfl d_M_spend_33 ?_
        refine lv_iload hx hb d_M_spend_36 (lv_at hl 0 rfl) ?_
        refine lv_iload_n hx hb d_M_spend_38 rfl (lv_at hl 2 rfl) ?_
        refine y_iast hx hb hK.1 hW 4 (by omega) laym_4 rfl (by decide) hS hAr ns rfl (by omega) d_M_spend_39 (fun H locs hW hS => ?_)
        refine lv_aload_n hx hb d_M_spend_40 rfl (lv_at hl 1 rfl) ?_
        refine y_getr hx hb hA in_M hown hK.1 hW 0 (by omega) laym_0 rfl 6 (by decide) (hA _ k_fl_M_22) rfl d_M_spend_41 ?_
        refine lv_iload hx hb d_M_spend_44 (lv_at hl 0 rfl) ?_
        refine lv_iload_n hx hb d_M_spend_46 rfl (lv_at hl 3 rfl) ?_
        refine y_iast hx hb hK.1 hW 5 (by omega) laym_5 rfl (by decide) hS hAr ns rfl (by omega) d_M_spend_47 (fun H locs hW hS => ?_)
        refine lv_aload_n hx hb d_M_spend_48 rfl (lv_at hl 1 rfl) ?_
        refine y_getr hx hb hA in_M hown hK.1 hW 0 (by omega) laym_0 rfl 7 (by decide) (hA _ k_fl_M_25) rfl d_M_spend_49 ?_
        refine lv_iload hx hb d_M_spend_52 (lv_at hl 0 rfl) ?_
        refine lv_aload_n hx hb d_M_spend_54 rfl (lv_at hl 1 rfl) ?_
        refine lv_iload_n hx hb d_M_spend_55 rfl (lv_at hl 2 rfl) ?_
        refine lv_iload_n hx hb d_M_spend_56 rfl (lv_at hl 3 rfl) ?_
        have hM57 : ∀ d, (d ≤ 3 ∨ 20 ≤ d) → d ≠ 27 → (y2 (y2 τ 4 ns (k)) 5 ns (i)) d = τ d := fun d h1 h2 => by rw [y2_ne (by omega), y2_ne (by omega)]
        refine y_ci (y_runV (As := [.int (J (k)), .int (J (i))]) (rest := [.int (J ((ns : Int))), .ref (z + 6)]) ⟨hx, hb, hml, hown, hts⟩ (c_M_valueOf l G z (y2 (y2 τ 4 ns (k)) 5 ns (i)) (mTb_to hTb (hM57 1 (by decide) (by decide)) (hM57 2 (by decide) (by decide))) kn (by omega) (k) e_kn (by rw [hM57 3 (by decide) (by decide)]; exact hs9) jn (by omega) (i) e_jn (by rw [hM57 24 (by decide) (by decide)]; exact hl1) (by rw [hM57 25 (by decide) (by decide)]; exact hl2)) 2 k_co_M_valueOf k_ml_M_134 k_im_M_valueOf k_se_M_valueOf k_in_M rfl rfl (by decide +kernel) ⟨Nat.le_of_ble_eq_true rfl, Nat.le_of_ble_eq_true rfl⟩ (yPv (yK_bl G) (yK_mv G) hK hK.1 hW (by omega) laym_0 rfl (by omega) (by omega)) rfl hl.1 rfl (Nat.le_of_ble_eq_true rfl) d_M_spend_57 ⟨Nat.zero_le _, Nat.zero_le _⟩) hS hW (fun H locs hW hS => ?_)
        rw [hM57 3 (by decide) (by decide), hM57 24 (by decide) (by decide), hM57 25 (by decide) (by decide)]
        refine y_iast hx hb hK.1 hW 6 (by omega) laym_6 rfl (by decide) hS hAr ns rfl (by omega) d_M_spend_60 (fun H locs hW hS => ?_)
        refine lv_aload_n hx hb d_M_spend_61 rfl (lv_at hl 1 rfl) ?_
        refine y_getr hx hb hA in_M hown hK.1 hW 0 (by omega) laym_0 rfl 8 (by decide) (hA _ k_fl_M_28) rfl d_M_spend_62 ?_
        refine lv_iload hx hb d_M_spend_65 (lv_at hl 0 rfl) ?_
        refine lv_aload_n hx hb d_M_spend_67 rfl (lv_at hl 1 rfl) ?_
        refine lv_iload_n hx hb d_M_spend_68 rfl (lv_at hl 2 rfl) ?_
        refine lv_iload_n hx hb d_M_spend_69 rfl (lv_at hl 3 rfl) ?_
        have hM70 : ∀ d, (d ≤ 3 ∨ 20 ≤ d) → d ≠ 27 → (y2 (y2 (y2 τ 4 ns (k)) 5 ns (i)) 6 ns (vOf (τ 3 kn) (τ 24 jn) (τ 25 jn))) d = τ d := fun d h1 h2 => by rw [y2_ne (by omega), y2_ne (by omega), y2_ne (by omega)]
        refine y_ci (y_runV (As := [.int (J (k)), .int (J (i))]) (rest := [.int (J ((ns : Int))), .ref (z + 7)]) ⟨hx, hb, hml, hown, hts⟩ (c_M_trapOf l G z (y2 (y2 (y2 τ 4 ns (k)) 5 ns (i)) 6 ns (vOf (τ 3 kn) (τ 24 jn) (τ 25 jn))) (mTb_to hTb (hM70 1 (by decide) (by decide)) (hM70 2 (by decide) (by decide))) kn (by omega) (k) e_kn (by rw [hM70 3 (by decide) (by decide)]; exact hs9) jn (by omega) (i) e_jn (by rw [hM70 24 (by decide) (by decide)]; exact hl1) (by rw [hM70 26 (by decide) (by decide)]; exact hl3)) 2 k_co_M_trapOf k_ml_M_137 k_im_M_trapOf k_se_M_trapOf k_in_M rfl rfl (by decide +kernel) ⟨Nat.le_of_ble_eq_true rfl, Nat.le_of_ble_eq_true rfl⟩ (yPv (yK_bl G) (yK_mv G) hK hK.1 hW (by omega) laym_0 rfl (by omega) (by omega)) rfl hl.1 rfl (Nat.le_of_ble_eq_true rfl) d_M_spend_70 ⟨Nat.zero_le _, Nat.zero_le _⟩) hS hW (fun H locs hW hS => ?_)
        rw [hM70 3 (by decide) (by decide), hM70 24 (by decide) (by decide), hM70 26 (by decide) (by decide)]
        refine y_iast hx hb hK.1 hW 7 (by omega) laym_7 rfl (by decide) hS hAr ns rfl (by omega) d_M_spend_73 (fun H locs hW hS => ?_)
        refine lv_aload_n hx hb d_M_spend_74 rfl (lv_at hl 1 rfl) ?_
        refine y_getr hx hb hA in_M hown hK.1 hW 0 (by omega) laym_0 rfl 9 (by decide) (hA _ k_fl_M_31) rfl d_M_spend_75 ?_
        refine lv_iload hx hb d_M_spend_78 (lv_at hl 0 rfl) ?_
        refine lv_iload_n hx hb d_M_spend_80 rfl (lv_at hl 4 rfl) ?_
        refine y_iast hx hb hK.1 hW 8 (by omega) laym_8 rfl (by decide) hS hAr ns rfl (by omega) d_M_spend_81 (fun H locs hW hS => ?_)
        refine lv_aload_n hx hb d_M_spend_82 rfl (lv_at hl 1 rfl) ?_
        refine y_getr hx hb hA in_M hown hK.1 hW 0 (by omega) laym_0 rfl 10 (by decide) (hA _ k_fl_M_34) rfl d_M_spend_83 ?_
        refine lv_iload hx hb d_M_spend_86 (lv_at hl 0 rfl) ?_
        refine lv_aload_n hx hb d_M_spend_88 rfl (lv_at hl 1 rfl) ?_
        refine lv_iconst (v := J (4)) hx hb d_M_spend_89 rfl ?_
        refine lv_iconst (v := J (0)) hx hb d_M_spend_90 rfl ?_
        have hM91 : ∀ d, (d ≤ 3 ∨ 20 ≤ d) → d ≠ 27 → (y2 (y2 (y2 (y2 (y2 τ 4 ns (k)) 5 ns (i)) 6 ns (vOf (τ 3 kn) (τ 24 jn) (τ 25 jn))) 7 ns (tOf (τ 3 kn) (τ 24 jn) (τ 26 jn))) 8 ns (w9)) d = τ d := fun d h1 h2 => by rw [y2_ne (by omega), y2_ne (by omega), y2_ne (by omega), y2_ne (by omega), y2_ne (by omega)]
        refine y_cg (y_runV (As := [.int (J (4)), .int (J (0))]) (rest := [.int (J ((ns : Int))), .ref (z + 9)]) ⟨hx, hb, hml, hown, hts⟩ (c_M_node l G z (y2 (y2 (y2 (y2 (y2 τ 4 ns (k)) 5 ns (i)) 6 ns (vOf (τ 3 kn) (τ 24 jn) (τ 25 jn))) 7 ns (tOf (τ 3 kn) (τ 24 jn) (τ 26 jn))) 8 ns (w9)) (mTb_to hTb (hM91 1 (by decide) (by decide)) (hM91 2 (by decide) (by decide))) nb hnbr (by rw [hM91 0 (by decide) (by decide)]; exact hnb) fl hflr (by rw [hM91 20 (by decide) (by decide)]; exact hfl) (fun i hi => by rw [hM91 23 (by decide) (by decide)]; exact hlr i hi) (4) (0) ⟨by omega, by omega⟩ ⟨by omega, by omega⟩) 2 k_co_M_node k_ml_M_168 k_im_M_node k_se_M_node k_in_M rfl rfl (by decide +kernel) ⟨Nat.le_of_ble_eq_true rfl, Nat.le_of_ble_eq_true rfl⟩ (yPv (yK_bl G) (yK_mv G) hK hK.1 hW (by omega) laym_0 rfl (by omega) (by omega)) rfl hl.1 rfl (Nat.le_of_ble_eq_true rfl) d_M_spend_91 ⟨Nat.zero_le _, Nat.zero_le _⟩) hS hAr (fun v91 τ91 H locs hp91 hk91 hW hS => ?_)
        have e91 : v91 = nd (lfm τ fl) 4 0 := by rw [hp91.1, if_pos (by decide), lfm_to (hM91 23 (by decide) (by decide))]; rfl
        rw [e91]
        refine y_iast hx hb hK.1 hW 9 (by omega) laym_9 rfl (by decide) hS hAr ns rfl (by omega) d_M_spend_94 (fun H locs hW hS => ?_)
        refine lv_aload_n hx hb d_M_spend_95 rfl (lv_at hl 1 rfl) ?_
        refine y_getr hx hb hA in_M hown hK.1 hW 0 (by omega) laym_0 rfl 11 (by decide) (hA _ k_fl_M_37) rfl d_M_spend_96 ?_
        refine lv_iload hx hb d_M_spend_99 (lv_at hl 0 rfl) ?_
        refine lv_aload_n hx hb d_M_spend_101 rfl (lv_at hl 1 rfl) ?_
        refine lv_iload_n hx hb d_M_spend_102 rfl (lv_at hl 2 rfl) ?_
        refine lv_iload_n hx hb d_M_spend_103 rfl (lv_at hl 3 rfl) ?_
        have hM104 : ∀ d, (d ≤ 3 ∨ 20 ≤ d) → d ≠ 27 → (y2 τ91 9 ns (nd (lfm τ fl) 4 0)) d = τ d := fun d h1 h2 => by rw [y2_ne (by omega), hp91.2 d h2, y2_ne (by omega), y2_ne (by omega), y2_ne (by omega), y2_ne (by omega), y2_ne (by omega)]
        refine y_ci (y_runV (As := [.int (J (k)), .int (J (i))]) (rest := [.int (J ((ns : Int))), .ref (z + 10)]) ⟨hx, hb, hml, hown, hts⟩ (c_M_nullifier l G z (y2 τ91 9 ns (nd (lfm τ fl) 4 0)) (mTb_to hTb (hM104 1 (by decide) (by decide)) (hM104 2 (by decide) (by decide))) kn (by omega) (k) e_kn (by rw [hM104 3 (by decide) (by decide)]; exact hs9) (i) (by omega)) 2 k_co_M_nullifier k_ml_M_147 k_im_M_nullifier k_se_M_nullifier k_in_M rfl rfl (by decide +kernel) ⟨Nat.le_of_ble_eq_true rfl, Nat.le_of_ble_eq_true rfl⟩ (yPv (yK_bl G) (yK_mv G) hK hK.1 hW (by omega) laym_0 rfl (by omega) (by omega)) rfl hl.1 rfl (Nat.le_of_ble_eq_true rfl) d_M_spend_104 ⟨Nat.zero_le _, Nat.zero_le _⟩) hS hW (fun H locs hW hS => ?_)
        rw [hM104 3 (by decide) (by decide)]
        have eN : eX (τ 3 kn * 2409 + (i + 1) * 1499 + 0) = nOf (τ 3 kn) i := congrArg eX (by omega)
        rw [eN]
        refine y_iast hx hb hK.1 hW 10 (by omega) laym_10 rfl (by decide) hS hAr ns rfl (by omega) d_M_spend_107 (fun H locs hW hS => ?_)
        refine lv_iconst (v := J (0)) hx hb d_M_spend_108 rfl ?_
        refine lv_istore (lv' := [(5, .int (J (0))), (4, .int (J ((ns : Int)))), (0, .ref (z + 0)), (1, .int (J (k))), (2, .int (J (i))), (3, .int (J (w9)))]) hx hb d_M_spend_109 hl (by decide) rfl (fun ls hl => ?_)
        have hM7 : ∀ d, (d ≤ 3 ∨ 20 ≤ d) → d ≠ 27 → (y2 (y2 τ91 9 ns (nd (lfm τ fl) 4 0)) 10 ns (nOf (τ 3 kn) i)) d = τ d := fun d h1 h2 => by rw [y2_ne (by omega), y2_ne (by omega), hp91.2 d h2, y2_ne (by omega), y2_ne (by omega), y2_ne (by omega), y2_ne (by omega), y2_ne (by omega)]
        have loop111 : ∀ (q9 t : Nat), t + q9 = 4 → ∀ (ρ : yM), (∀ d, d ≠ 11 → d ≠ 27 → ρ d = (y2 (y2 τ91 9 ns (nd (lfm τ fl) 4 0)) 10 ns (nOf (τ 3 kn) i)) d) → (∀ u, u < t → ρ 11 (4 * ns + u) = nd (lfm τ fl) u (jn / 2 ^ u ^^^ 1)) → (∀ j, j < 4 * ns → ρ 11 j = τ 11 j) → ∀ (ls : Array Slot) (H : Heap) (locs : List Loc), yW ycl G yLM 0 28 z ρ H → va_S (yA z 0 28) s.heap H locs → lv_has ls 6 [(5, .int (J (((t : Nat) : Int)))), (4, .int (J ((ns : Int)))), (0, .ref (z + 0)), (1, .int (J (k))), (2, .int (J (i))), (3, .int (J (w9)))] → W p l e ({ frames := 3, cells := 0, slots := 0, locals := 70 } : Room) s m ([.ref (z + 0), .int (J (k)), .int (J (i)), .int (J (w9))] : List Value).toArray below meth c H locs 0 0 (MQ below (yQg ycl G yLM 0 28 z (fun x ρ => ((finM τ nk fl k i ∧ ns ≠ 2 ∧ 0 ≤ w9 ∧ w9 < 2473) → x = 1 ∧ spM τ ρ ns k.toNat i.toNat fl k i w9) ∧ (¬ (finM τ nk fl k i ∧ ns ≠ 2 ∧ 0 ≤ w9 ∧ w9 < 2473) → x = 0 ∧ ρ = τ))) ([.ref (z + 0), .int (J (k)), .int (J (i)), .int (J (w9))] : List Value).toArray s 0 0 (yA z 0 28)) (F0 m 111 ls []) := by
          intro q9
          induction q9 with
          | zero =>
            intro t htk ρ hF hP hQ ls H locs hW hS hl
            have ht4 : t = 4 := by omega
            subst ht4
            refine lv_iload hx hb d_M_spend_111 (lv_at hl 0 rfl) ?_
            refine lv_iconst (v := J (4)) hx hb d_M_spend_113 rfl ?_
            refine y_icmp_ge (tgt := 147) hx hb d_M_spend_114 (by decide) ⟨by omega, by omega⟩ ⟨by omega, by omega⟩ (fun hc4 => ?_) (fun hc4 => absurd hc4 (by omega))
            refine lv_aload_n hx hb d_M_spend_147 rfl (lv_at hl 2 rfl) ?_
            refine lv_dup hx hb d_M_spend_148 rfl ?_
            refine y_geti hx hb hA in_M hown hK.1 hW 0 (by omega) laym_0 rfl 4 (by decide) (hA _ k_fl_M_153) rfl d_M_spend_149 ?_
            rw [hF 0 (by omega) (by omega), y2_cl (show 0 ≠ 10 by omega), y2_cl (show 0 ≠ 9 by omega), hp91.2 0 (by omega), y2_cl (show 0 ≠ 8 by omega), y2_cl (show 0 ≠ 7 by omega), y2_cl (show 0 ≠ 6 by omega), y2_cl (show 0 ≠ 5 by omega), y2_cl (show 0 ≠ 4 by omega)]
            rw [hs]
            refine lv_iconst (v := J (1)) hx hb d_M_spend_152 rfl ?_
            refine y_iadd hx hb d_M_spend_153 ?_
            refine y_puti hx hb hA in_M hown hK.1 hW 0 (by omega) laym_0 rfl 4 (by decide) t_M tk_M nm_M hS hAr (hA _ k_fl_M_153) rfl (by decide +kernel) rfl d_M_spend_154 (fun H locs hW hS => ?_)
            refine lv_iconst (v := J (1)) hx hb d_M_spend_157 rfl ?_
            exact y_retgz hx hb hr hlocks hS hW (Or.inr rfl) ⟨fun _ => ⟨rfl, by rw [show k.toNat = kn by omega, show i.toNat = jn by omega]; exact ⟨fun d h1 h2 => y2_cg ((hF d h1 h2).trans (y2_cg (y2_cg (hp91.2 d h2)))), fun u hu => by rw [y2_cl (by decide)]; exact hP u hu, fun j hj => by rw [y2_cl (by decide)]; exact hQ j hj⟩⟩, fun h => absurd ⟨hfc, by omega, by omega, by omega⟩ h⟩ d_M_spend_158
          | succ q9 ih =>
            intro t htk ρ hF hP hQ ls H locs hW hS hl
            have hR : ∀ d, (d ≤ 3 ∨ 20 ≤ d) → d ≠ 27 → ρ d = τ d := fun d h1 h2 => (hF d (by omega) h2).trans (hM7 d h1 h2)
            have hdiv : i / 2 ^ t = ((jn / 2 ^ t : Nat) : Int) := by rw [e_jn, Int.natCast_ediv, Int.natCast_pow]; rfl
            have hdle : jn / 2 ^ t ≤ jn := Nat.div_le_self _ _
            have hxq := xq_lt (i := jn) (L := t) (by omega) (by omega)
            have h16 : 16 / 2 ^ t ≤ 16 := Nat.div_le_self _ _
            refine lv_iload hx hb d_M_spend_111 (lv_at hl 0 rfl) ?_
            refine lv_iconst (v := J (4)) hx hb d_M_spend_113 rfl ?_
            refine y_icmp_ge (tgt := 147) hx hb d_M_spend_114 (by decide) ⟨by omega, by omega⟩ ⟨by omega, by omega⟩ (fun hc5 => absurd hc5 (by omega)) (fun hc5 => ?_)
            refine lv_aload_n hx hb d_M_spend_117 rfl (lv_at hl 2 rfl) ?_
            refine y_getr hx hb hA in_M hown hK.1 hW 0 (by omega) laym_0 rfl 12 (by decide) (hA _ k_fl_M_40) rfl d_M_spend_118 ?_
            refine lv_iconst (v := J (4)) hx hb d_M_spend_121 rfl ?_
            refine lv_iload hx hb d_M_spend_122 (lv_at hl 1 rfl) ?_
            refine y_imul hx hb d_M_spend_124 ?_
            refine lv_iload hx hb d_M_spend_125 (lv_at hl 0 rfl) ?_
            refine y_iadd hx hb d_M_spend_127 ?_
            refine lv_aload_n hx hb d_M_spend_128 rfl (lv_at hl 2 rfl) ?_
            refine lv_iload hx hb d_M_spend_129 (lv_at hl 0 rfl) ?_
            refine lv_iload_n hx hb d_M_spend_131 rfl (lv_at hl 4 rfl) ?_
            refine lv_iload hx hb d_M_spend_132 (lv_at hl 0 rfl) ?_
            refine y_ishr hx hb d_M_spend_134 t rfl (by omega) (by omega) (by omega) ?_
            refine lv_iconst (v := J (1)) hx hb d_M_spend_135 rfl ?_
            refine y_ixor (n := ((jn / 2 ^ t ^^^ 1 : Nat) : Int)) hx hb d_M_spend_136 (by rw [hdiv]; exact J_xor1 _ (by omega)) ?_
            refine y_cg (y_runV (As := [.int (J (((t : Nat) : Int))), .int (J (((jn / 2 ^ t ^^^ 1 : Nat) : Int)))]) (rest := [.int (J ((4 * (ns : Int)) + ((t : Nat) : Int))), .ref (z + 11)]) ⟨hx, hb, hml, hown, hts⟩ (c_M_node l G z ρ (mTb_to hTb (hR 1 (by decide) (by decide)) (hR 2 (by decide) (by decide))) nb hnbr (by rw [hR 0 (by decide) (by decide)]; exact hnb) fl hflr (by rw [hR 20 (by decide) (by decide)]; exact hfl) (fun i hi => by rw [hR 23 (by decide) (by decide)]; exact hlr i hi) (((t : Nat) : Int)) (((jn / 2 ^ t ^^^ 1 : Nat) : Int)) ⟨by omega, by omega⟩ ⟨by omega, by omega⟩) 2 k_co_M_node k_ml_M_168 k_im_M_node k_se_M_node k_in_M rfl rfl (by decide +kernel) ⟨Nat.le_of_ble_eq_true rfl, Nat.le_of_ble_eq_true rfl⟩ (yPv (yK_bl G) (yK_mv G) hK hK.1 hW (by omega) laym_0 rfl (by omega) (by omega)) rfl hl.1 rfl (Nat.le_of_ble_eq_true rfl) d_M_spend_137 ⟨Nat.zero_le _, Nat.zero_le _⟩) hS hAr (fun v137 τ137 H locs hp137 hk137 hW hS => ?_)
            have e137 : v137 = nd (lfm τ fl) t (jn / 2 ^ t ^^^ 1) := by rw [hp137.1, if_pos (show 0 ≤ ((t : Nat) : Int) ∧ ((t : Nat) : Int) ≤ 4 ∧ 0 ≤ ((jn / 2 ^ t ^^^ 1 : Nat) : Int) ∧ ((jn / 2 ^ t ^^^ 1 : Nat) : Int) < ((16 / 2 ^ ((t : Nat) : Int).toNat : Nat) : Int) by rw [Int.toNat_natCast]; omega), lfm_to (hR 23 (by decide) (by decide)), Int.toNat_natCast, Int.toNat_natCast]
            rw [e137]
            refine y_iast hx hb hK.1 hW 11 (by omega) laym_11 rfl (by decide) hS hAr (4 * ns + t) (by omega) (by omega) d_M_spend_140 (fun H locs hW hS => ?_)
            refine lv_iinc (k := 0) (v := J (((t + 1 : Nat) : Int))) (lv' := [(5, .int (J (((t + 1 : Nat) : Int)))), (4, .int (J ((ns : Int)))), (0, .ref (z + 0)), (1, .int (J (k))), (2, .int (J (i))), (3, .int (J (w9)))]) hx hb d_M_spend_141 hl rfl (by rw [Int.natCast_add t 1]; exact J_add _ _) (by decide) rfl (fun ls hl => ?_)
            refine lv_goto (tgt := 111) hx hb d_M_spend_144 (by decide) ?_
            refine ih (t + 1) (by omega) _ (fun d h1 h2 => by rw [y2_ne h1, hp137.2 d h2]; exact hF d h1 h2) (fun u hu => ?_) (fun j hj => by rw [y2_ot (by omega), hp137.2 11 (by decide)]; exact hQ j hj) ls H locs hW hS hl
            by_cases e : u = t
            · subst e; rw [y2_at]
            · rw [y2_ot (by omega), hp137.2 11 (by decide)]; exact hP u (by omega)
        exact loop111 4 0 rfl _ (fun _ _ _ => rfl) (fun u h => absurd h (Nat.not_lt_zero u)) (fun j hj => by rw [y2_cl (by decide), y2_cl (by decide), hp91.2 11 (by decide), y2_cl (by decide), y2_cl (by decide), y2_cl (by decide), y2_cl (by decide), y2_cl (by decide)]) ls _ _ hW hS hl
      · skip
        rw [show (if 0 ≤ w9 ∧ w9 < 2473 then (1 : Int) else 0) = 0 from if_neg hq18]
        refine y_if_ne (tgt := 26) hx hb d_M_spend_21 (by decide) ⟨by omega, by omega⟩ (fun hc6 => absurd hc6 (by decide)) (fun hc6 => ?_)
        refine lv_iconst (v := J (0)) hx hb d_M_spend_24 rfl ?_
        exact y_retgz hx hb hr hlocks hS hW (Or.inl rfl) ⟨fun h => absurd h (fun hh => by first | exact hf9 hh.1 | (have h2 := hh.2; omega)), fun _ => ⟨rfl, rfl⟩⟩ d_M_spend_25
  · skip
    rw [b01_f hf9]
    refine y_if_eq (tgt := 24) hx hb d_M_spend_6 (by decide) ⟨by omega, by omega⟩ (fun hc7 => ?_) (fun hc7 => absurd hc7 (by decide))
    refine lv_iconst (v := J (0)) hx hb d_M_spend_24 rfl ?_
    exact y_retgz hx hb hr hlocks hS hW (Or.inl rfl) ⟨fun h => absurd h (fun hh => by first | exact hf9 hh.1 | (have h2 := hh.2; omega)), fun _ => ⟨rfl, rfl⟩⟩ d_M_spend_25

set_option maxHeartbeats 4000000 in
set_option maxRecDepth 100000 in
theorem c_M_proven (l : Launch) (G : yG) (z : Nat) (τ : yM) (hTb : mTb τ) (sn : Nat) (hsn : sn < 2) (kn ln : Nat) (hkn : kn < 4) (hln : ln < 16) (e4 : τ 4 sn = (kn : Int)) (e5 : τ 5 sn = (ln : Int)) (hs9 : 0 ≤ τ 3 kn ∧ τ 3 kn < 2473) (hv6 : 0 ≤ τ 6 sn ∧ τ 6 sn < 1000) (hv7 : 0 ≤ τ 7 sn ∧ τ 7 sn < 2473) (hpr : ∀ L, L < 4 → 0 ≤ τ 11 (4 * sn + L) ∧ τ 11 (4 * sn + L) < 10009) (h9r : jr (τ 9 sn)) (h10r : jr (τ 10 sn)) : Met l y_M_proven (Cond.code y_M_proven b_M_proven 6 (some .boolean) :: yT) ({ frames := 2, cells := 0, slots := 0, locals := 45 } : Room) (yP ycl G yLM 0 28 z τ (yK G) [.ref (z + 0), .int (J ((sn : Int)))]) (yQi (b01 (pth ln (fun L => τ 11 (4 * sn + L)) (cOf (τ 3 kn) (τ 6 sn) (τ 7 sn)) 4 = τ 9 sn ∧ τ 10 sn = nOf (τ 3 kn) (ln : Int)))) 0 0 yN := by
  refine y_met (by decide +kernel) (Nat.le_of_ble_eq_true rfl) ?_
  intro p e s m below meth c ls hx hb hr hml hlocks hown hname hts hv hl
  have hA : ∀ w ∈ yT, w.before _ s = true := fun w h => hts w (List.mem_cons_of_mem _ h)
  have hl : lv_has ls 6 [(0, .ref (z + 0)), (1, .int (J ((sn : Int))))] := hl
  obtain ⟨hW, hK⟩ := hv
  have hS : va_S yN s.heap s.heap [] := va_S.rf
  refine lv_aload_n hx hb d_M_proven_0 rfl (lv_at hl 0 rfl) ?_
  refine y_getr hx hb hA in_M hown hK.1 hW 0 (by omega) laym_0 rfl 5 (by decide) (hA _ k_fl_M_19) rfl d_M_proven_1 ?_
  refine lv_iload_n hx hb d_M_proven_4 rfl (lv_at hl 1 rfl) ?_
  refine y_iald hx hb hK.1 hW 4 (by omega) laym_4 rfl (by decide) sn rfl (by omega) d_M_proven_5 ?_
  rw [e4]
  refine lv_istore_n (lv' := [(2, .int (J ((kn : Int)))), (0, .ref (z + 0)), (1, .int (J ((sn : Int))))]) hx hb d_M_proven_6 rfl hl (by decide) rfl (fun ls hl => ?_)
  refine lv_aload_n hx hb d_M_proven_7 rfl (lv_at hl 1 rfl) ?_
  refine lv_iload_n hx hb d_M_proven_8 rfl (lv_at hl 0 rfl) ?_
  refine lv_aload_n hx hb d_M_proven_9 rfl (lv_at hl 1 rfl) ?_
  refine y_getr hx hb hA in_M hown hK.1 hW 0 (by omega) laym_0 rfl 7 (by decide) (hA _ k_fl_M_25) rfl d_M_proven_10 ?_
  refine lv_iload_n hx hb d_M_proven_13 rfl (lv_at hl 2 rfl) ?_
  refine y_iald hx hb hK.1 hW 6 (by omega) laym_6 rfl (by decide) sn rfl (by omega) d_M_proven_14 ?_
  refine lv_aload_n hx hb d_M_proven_15 rfl (lv_at hl 1 rfl) ?_
  refine y_getr hx hb hA in_M hown hK.1 hW 0 (by omega) laym_0 rfl 8 (by decide) (hA _ k_fl_M_28) rfl d_M_proven_16 ?_
  refine lv_iload_n hx hb d_M_proven_19 rfl (lv_at hl 2 rfl) ?_
  refine y_iald hx hb hK.1 hW 7 (by omega) laym_7 rfl (by decide) sn rfl (by omega) d_M_proven_20 ?_
  refine y_ci (y_runV (As := [.int (J ((kn : Int))), .int (J (τ 6 sn)), .int (J (τ 7 sn))]) (rest := []) ⟨hx, hb, hml, hown, hts⟩ (c_M_commitment l G z τ hTb kn (by omega) ((kn : Int)) rfl hs9 (τ 6 sn) (τ 7 sn) (by omega) (by omega)) 3 k_co_M_commitment k_ml_M_140 k_im_M_commitment k_se_M_commitment k_in_M rfl rfl (by decide +kernel) ⟨Nat.le_of_ble_eq_true rfl, Nat.le_of_ble_eq_true rfl⟩ (yPv (yK_bl G) (yK_mv G) hK hK.1 hW (by omega) laym_0 rfl (by omega) (by omega)) rfl hl.1 rfl (Nat.le_of_ble_eq_true rfl) d_M_proven_21 ⟨Nat.zero_le _, Nat.zero_le _⟩) hS hW (fun H locs hW hS => ?_)
  have eC : eX (τ 6 sn * 1281 + τ 7 sn * 1369 + τ 3 kn) = cOf (τ 3 kn) (τ 6 sn) (τ 7 sn) := congrArg eX (by omega)
  have rC := cOf_rng (τ 3 kn) (τ 6 sn) (τ 7 sn)
  rw [eC]
  refine lv_istore_n (lv' := [(3, .int (J (cOf (τ 3 kn) (τ 6 sn) (τ 7 sn)))), (2, .int (J ((kn : Int)))), (0, .ref (z + 0)), (1, .int (J ((sn : Int))))]) hx hb d_M_proven_24 rfl hl (by decide) rfl (fun ls hl => ?_)
  refine lv_iconst (v := J (0)) hx hb d_M_proven_25 rfl ?_
  refine lv_istore (lv' := [(4, .int (J (0))), (3, .int (J (cOf (τ 3 kn) (τ 6 sn) (τ 7 sn)))), (2, .int (J ((kn : Int)))), (0, .ref (z + 0)), (1, .int (J ((sn : Int))))]) hx hb d_M_proven_26 hl (by decide) rfl (fun ls hl => ?_)
  have loop28 : ∀ (q9 t : Nat), t + q9 = 4 → ∀ (ls : Array Slot) (H : Heap) (locs : List Loc), yW ycl G yLM 0 28 z τ H → va_S yN s.heap H locs → lv_has ls 6 [(4, .int (J (((t : Nat) : Int)))), (3, .int (J (pth ln (fun L => τ 11 (4 * sn + L)) (cOf (τ 3 kn) (τ 6 sn) (τ 7 sn)) t))), (2, .int (J ((kn : Int)))), (0, .ref (z + 0)), (1, .int (J ((sn : Int))))] → W p l e ({ frames := 2, cells := 0, slots := 0, locals := 45 } : Room) s m ([.ref (z + 0), .int (J ((sn : Int)))] : List Value).toArray below meth c H locs 0 0 (MQ below (yQi (b01 (pth ln (fun L => τ 11 (4 * sn + L)) (cOf (τ 3 kn) (τ 6 sn) (τ 7 sn)) 4 = τ 9 sn ∧ τ 10 sn = nOf (τ 3 kn) (ln : Int)))) ([.ref (z + 0), .int (J ((sn : Int)))] : List Value).toArray s 0 0 yN) (F0 m 28 ls []) := by
    intro q9
    induction q9 with
    | zero =>
      intro t htk ls H locs hW hS hl
      have ht4 : t = 4 := by omega
      subst ht4
      have hrp := pth_rng (leaf := ln) (p := (fun L => τ 11 (4 * sn + L))) rC 4
      refine lv_iload hx hb d_M_proven_28 (lv_at hl 0 rfl) ?_
      refine lv_iconst (v := J (4)) hx hb d_M_proven_30 rfl ?_
      refine y_icmp_ge (tgt := 93) hx hb d_M_proven_31 (by decide) ⟨by omega, by omega⟩ ⟨by omega, by omega⟩ (fun hc1 => ?_) (fun hc1 => absurd hc1 (by omega))
      refine lv_iload_n hx hb d_M_proven_93 rfl (lv_at hl 1 rfl) ?_
      refine lv_aload_n hx hb d_M_proven_94 rfl (lv_at hl 3 rfl) ?_
      refine y_getr hx hb hA in_M hown hK.1 hW 0 (by omega) laym_0 rfl 10 (by decide) (hA _ k_fl_M_34) rfl d_M_proven_95 ?_
      refine lv_iload_n hx hb d_M_proven_98 rfl (lv_at hl 4 rfl) ?_
      refine y_iald hx hb hK.1 hW 9 (by omega) laym_9 rfl (by decide) sn rfl (by omega) d_M_proven_99 ?_
      refine y_icmp_ne (tgt := 127) hx hb d_M_proven_100 (by decide) ⟨by omega, by omega⟩ h9r (fun hca => ?_) (fun hca => ?_)
      · skip
        refine lv_iconst (v := J (0)) hx hb d_M_proven_127 rfl ?_
        exact y_retz hx hb hr hlocks hS (Or.inl rfl) (b01_f (fun hf => by first | exact hca hf.1 | exact hcb hf.2)).symm d_M_proven_128
      · skip
        refine lv_aload_n hx hb d_M_proven_103 rfl (lv_at hl 3 rfl) ?_
        refine y_getr hx hb hA in_M hown hK.1 hW 0 (by omega) laym_0 rfl 11 (by decide) (hA _ k_fl_M_37) rfl d_M_proven_104 ?_
        refine lv_iload_n hx hb d_M_proven_107 rfl (lv_at hl 4 rfl) ?_
        refine y_iald hx hb hK.1 hW 10 (by omega) laym_10 rfl (by decide) sn rfl (by omega) d_M_proven_108 ?_
        refine lv_aload_n hx hb d_M_proven_109 rfl (lv_at hl 3 rfl) ?_
        refine lv_iload_n hx hb d_M_proven_110 rfl (lv_at hl 2 rfl) ?_
        refine lv_aload_n hx hb d_M_proven_111 rfl (lv_at hl 3 rfl) ?_
        refine y_getr hx hb hA in_M hown hK.1 hW 0 (by omega) laym_0 rfl 6 (by decide) (hA _ k_fl_M_22) rfl d_M_proven_112 ?_
        refine lv_iload_n hx hb d_M_proven_115 rfl (lv_at hl 4 rfl) ?_
        refine y_iald hx hb hK.1 hW 5 (by omega) laym_5 rfl (by decide) sn rfl (by omega) d_M_proven_116 ?_
        rw [e5]
        refine y_ci (y_runV (As := [.int (J ((kn : Int))), .int (J ((ln : Int)))]) (rest := [.int (J (τ 10 sn))]) ⟨hx, hb, hml, hown, hts⟩ (c_M_nullifier l G z τ hTb kn (by omega) ((kn : Int)) rfl hs9 ((ln : Int)) (by omega)) 2 k_co_M_nullifier k_ml_M_147 k_im_M_nullifier k_se_M_nullifier k_in_M rfl rfl (by decide +kernel) ⟨Nat.le_of_ble_eq_true rfl, Nat.le_of_ble_eq_true rfl⟩ (yPv (yK_bl G) (yK_mv G) hK hK.1 hW (by omega) laym_0 rfl (by omega) (by omega)) rfl hl.1 rfl (Nat.le_of_ble_eq_true rfl) d_M_proven_117 ⟨Nat.zero_le _, Nat.zero_le _⟩) hS hW (fun H locs hW hS => ?_)
        have eN : eX (τ 3 kn * 2409 + ((ln : Int) + 1) * 1499 + 0) = nOf (τ 3 kn) (ln : Int) := congrArg eX (by omega)
        have hnr := nOf_rng (τ 3 kn) (ln : Int)
        rw [eN]
        refine y_icmp_ne (tgt := 127) hx hb d_M_proven_120 (by decide) h10r ⟨by omega, by omega⟩ (fun hcb => ?_) (fun hcb => ?_)
        · skip
          refine lv_iconst (v := J (0)) hx hb d_M_proven_127 rfl ?_
          exact y_retz hx hb hr hlocks hS (Or.inl rfl) (b01_f (fun hf => by first | exact hca hf.1 | exact hcb hf.2)).symm d_M_proven_128
        · skip
          refine lv_iconst (v := J (1)) hx hb d_M_proven_123 rfl ?_
          refine lv_goto (tgt := 128) hx hb d_M_proven_124 (by decide) ?_
          exact y_retz hx hb hr hlocks hS (Or.inr rfl) (b01_t ⟨hca, hcb⟩).symm d_M_proven_128
    | succ q9 ih =>
      intro t htk ls H locs hW hS hl
      have hrp := pth_rng (leaf := ln) (p := (fun L => τ 11 (4 * sn + L))) rC t
      have hpt := hpr t (by omega)
      have hdiv : (ln : Int) / 2 ^ t = ((ln / 2 ^ t : Nat) : Int) := by rw [Int.natCast_ediv, Int.natCast_pow]; rfl
      have hdle : ln / 2 ^ t ≤ ln := Nat.div_le_self _ _
      refine lv_iload hx hb d_M_proven_28 (lv_at hl 0 rfl) ?_
      refine lv_iconst (v := J (4)) hx hb d_M_proven_30 rfl ?_
      refine y_icmp_ge (tgt := 93) hx hb d_M_proven_31 (by decide) ⟨by omega, by omega⟩ ⟨by omega, by omega⟩ (fun hc4 => absurd hc4 (by omega)) (fun hc4 => ?_)
      refine lv_aload_n hx hb d_M_proven_34 rfl (lv_at hl 3 rfl) ?_
      refine y_getr hx hb hA in_M hown hK.1 hW 0 (by omega) laym_0 rfl 12 (by decide) (hA _ k_fl_M_40) rfl d_M_proven_35 ?_
      refine lv_iconst (v := J (4)) hx hb d_M_proven_38 rfl ?_
      refine lv_iload_n hx hb d_M_proven_39 rfl (lv_at hl 4 rfl) ?_
      refine y_imul hx hb d_M_proven_40 ?_
      refine lv_iload hx hb d_M_proven_41 (lv_at hl 0 rfl) ?_
      refine y_iadd hx hb d_M_proven_43 ?_
      refine y_iald hx hb hK.1 hW 11 (by omega) laym_11 rfl (by decide) (4 * sn + t) (by omega) (by omega) d_M_proven_44 ?_
      refine lv_istore (lv' := [(5, .int (J (τ 11 (4 * sn + t)))), (4, .int (J (((t : Nat) : Int)))), (3, .int (J (pth ln (fun L => τ 11 (4 * sn + L)) (cOf (τ 3 kn) (τ 6 sn) (τ 7 sn)) t))), (2, .int (J ((kn : Int)))), (0, .ref (z + 0)), (1, .int (J ((sn : Int))))]) hx hb d_M_proven_45 hl (by decide) rfl (fun ls hl => ?_)
      refine lv_aload_n hx hb d_M_proven_47 rfl (lv_at hl 4 rfl) ?_
      refine y_getr hx hb hA in_M hown hK.1 hW 0 (by omega) laym_0 rfl 6 (by decide) (hA _ k_fl_M_22) rfl d_M_proven_48 ?_
      refine lv_iload_n hx hb d_M_proven_51 rfl (lv_at hl 5 rfl) ?_
      refine y_iald hx hb hK.1 hW 5 (by omega) laym_5 rfl (by decide) sn rfl (by omega) d_M_proven_52 ?_
      rw [e5]
      refine lv_iload hx hb d_M_proven_53 (lv_at hl 1 rfl) ?_
      refine y_ishr hx hb d_M_proven_55 t rfl (by omega) (by omega) (by omega) ?_
      refine lv_iconst (v := J (1)) hx hb d_M_proven_56 rfl ?_
      refine y_iand1 hx hb d_M_proven_57 (by rw [hdiv]; exact Int.natCast_nonneg _) (by rw [hdiv]; omega) ?_
      refine y_if_ne (tgt := 75) hx hb d_M_proven_58 (by decide) ⟨by omega, by omega⟩ (fun hbit => ?_) (fun hbit => ?_)
      · skip
        refine lv_aload_n hx hb d_M_proven_75 rfl (lv_at hl 4 rfl) ?_
        refine lv_iload hx hb d_M_proven_76 (lv_at hl 0 rfl) ?_
        refine lv_iload_n hx hb d_M_proven_78 rfl (lv_at hl 2 rfl) ?_
        refine lv_iload hx hb d_M_proven_79 (lv_at hl 1 rfl) ?_
        refine lv_iconst (v := J (1)) hx hb d_M_proven_81 rfl ?_
        refine y_iadd hx hb d_M_proven_82 ?_
        refine y_ci (y_runV (As := [.int (J (τ 11 (4 * sn + t))), .int (J (pth ln (fun L => τ 11 (4 * sn + L)) (cOf (τ 3 kn) (τ 6 sn) (τ 7 sn)) t)), .int (J (((t : Nat) : Int) + 1))]) (rest := []) ⟨hx, hb, hml, hown, hts⟩ (c_M_hash l G z τ hTb (τ 11 (4 * sn + t)) (pth ln (fun L => τ 11 (4 * sn + L)) (cOf (τ 3 kn) (τ 6 sn) (τ 7 sn)) t) (((t : Nat) : Int) + 1) (by omega) (by omega) (by omega)) 3 k_co_M_hash k_ml_M_102 k_im_M_hash k_se_M_hash k_in_M rfl rfl (by decide +kernel) ⟨Nat.le_of_ble_eq_true rfl, Nat.le_of_ble_eq_true rfl⟩ (yPv (yK_bl G) (yK_mv G) hK hK.1 hW (by omega) laym_0 rfl (by omega) (by omega)) rfl hl.1 rfl (Nat.le_of_ble_eq_true rfl) d_M_proven_83 ⟨Nat.zero_le _, Nat.zero_le _⟩) hS hW (fun H locs hW hS => ?_)
        refine lv_istore_n (lv' := [(3, .int (J (eX ((τ 11 (4 * sn + t)) * 2409 + (pth ln (fun L => τ 11 (4 * sn + L)) (cOf (τ 3 kn) (τ 6 sn) (τ 7 sn)) t) * 1499 + (((t : Nat) : Int) + 1))))), (5, .int (J (τ 11 (4 * sn + t)))), (4, .int (J (((t : Nat) : Int)))), (2, .int (J ((kn : Int)))), (0, .ref (z + 0)), (1, .int (J ((sn : Int))))]) hx hb d_M_proven_86 rfl hl (by decide) rfl (fun ls hl => ?_)
        refine lv_iinc (k := 2) (v := J (((t + 1 : Nat) : Int))) (lv' := [(4, .int (J (((t + 1 : Nat) : Int)))), (3, .int (J (eX ((τ 11 (4 * sn + t)) * 2409 + (pth ln (fun L => τ 11 (4 * sn + L)) (cOf (τ 3 kn) (τ 6 sn) (τ 7 sn)) t) * 1499 + (((t : Nat) : Int) + 1))))), (5, .int (J (τ 11 (4 * sn + t)))), (2, .int (J ((kn : Int)))), (0, .ref (z + 0)), (1, .int (J ((sn : Int))))]) hx hb d_M_proven_87 hl rfl (by rw [Int.natCast_add t 1]; exact J_add _ _) (by decide) rfl (fun ls hl => ?_)
        refine lv_goto (tgt := 28) hx hb d_M_proven_90 (by decide) ?_
        refine ih (t + 1) (by omega) ls H locs hW hS ?_
        have e : pth ln (fun L => τ 11 (4 * sn + L)) (cOf (τ 3 kn) (τ 6 sn) (τ 7 sn)) (t + 1) = eX ((τ 11 (4 * sn + t)) * 2409 + (pth ln (fun L => τ 11 (4 * sn + L)) (cOf (τ 3 kn) (τ 6 sn) (τ 7 sn)) t) * 1499 + (((t : Nat) : Int) + 1)) := (pth_1 (by rw [hdiv] at hbit; omega)).trans (congrArg eX (by show 2409 * τ 11 (4 * sn + t) + 1499 * pth ln (fun L => τ 11 (4 * sn + L)) (cOf (τ 3 kn) (τ 6 sn) (τ 7 sn)) t + 1 * ((t : Int) + 1) = _; omega))
        rw [e]
        exact lv_sub hl [0, 1, 3, 4, 5] rfl
      · skip
        refine lv_aload_n hx hb d_M_proven_61 rfl (lv_at hl 4 rfl) ?_
        refine lv_iload_n hx hb d_M_proven_62 rfl (lv_at hl 2 rfl) ?_
        refine lv_iload hx hb d_M_proven_63 (lv_at hl 0 rfl) ?_
        refine lv_iload hx hb d_M_proven_65 (lv_at hl 1 rfl) ?_
        refine lv_iconst (v := J (1)) hx hb d_M_proven_67 rfl ?_
        refine y_iadd hx hb d_M_proven_68 ?_
        refine y_ci (y_runV (As := [.int (J (pth ln (fun L => τ 11 (4 * sn + L)) (cOf (τ 3 kn) (τ 6 sn) (τ 7 sn)) t)), .int (J (τ 11 (4 * sn + t))), .int (J (((t : Nat) : Int) + 1))]) (rest := []) ⟨hx, hb, hml, hown, hts⟩ (c_M_hash l G z τ hTb (pth ln (fun L => τ 11 (4 * sn + L)) (cOf (τ 3 kn) (τ 6 sn) (τ 7 sn)) t) (τ 11 (4 * sn + t)) (((t : Nat) : Int) + 1) (by omega) (by omega) (by omega)) 3 k_co_M_hash k_ml_M_102 k_im_M_hash k_se_M_hash k_in_M rfl rfl (by decide +kernel) ⟨Nat.le_of_ble_eq_true rfl, Nat.le_of_ble_eq_true rfl⟩ (yPv (yK_bl G) (yK_mv G) hK hK.1 hW (by omega) laym_0 rfl (by omega) (by omega)) rfl hl.1 rfl (Nat.le_of_ble_eq_true rfl) d_M_proven_69 ⟨Nat.zero_le _, Nat.zero_le _⟩) hS hW (fun H locs hW hS => ?_)
        refine lv_goto (tgt := 86) hx hb d_M_proven_72 (by decide) ?_
        refine lv_istore_n (lv' := [(3, .int (J (eX ((pth ln (fun L => τ 11 (4 * sn + L)) (cOf (τ 3 kn) (τ 6 sn) (τ 7 sn)) t) * 2409 + (τ 11 (4 * sn + t)) * 1499 + (((t : Nat) : Int) + 1))))), (5, .int (J (τ 11 (4 * sn + t)))), (4, .int (J (((t : Nat) : Int)))), (2, .int (J ((kn : Int)))), (0, .ref (z + 0)), (1, .int (J ((sn : Int))))]) hx hb d_M_proven_86 rfl hl (by decide) rfl (fun ls hl => ?_)
        refine lv_iinc (k := 2) (v := J (((t + 1 : Nat) : Int))) (lv' := [(4, .int (J (((t + 1 : Nat) : Int)))), (3, .int (J (eX ((pth ln (fun L => τ 11 (4 * sn + L)) (cOf (τ 3 kn) (τ 6 sn) (τ 7 sn)) t) * 2409 + (τ 11 (4 * sn + t)) * 1499 + (((t : Nat) : Int) + 1))))), (5, .int (J (τ 11 (4 * sn + t)))), (2, .int (J ((kn : Int)))), (0, .ref (z + 0)), (1, .int (J ((sn : Int))))]) hx hb d_M_proven_87 hl rfl (by rw [Int.natCast_add t 1]; exact J_add _ _) (by decide) rfl (fun ls hl => ?_)
        refine lv_goto (tgt := 28) hx hb d_M_proven_90 (by decide) ?_
        refine ih (t + 1) (by omega) ls H locs hW hS ?_
        have e : pth ln (fun L => τ 11 (4 * sn + L)) (cOf (τ 3 kn) (τ 6 sn) (τ 7 sn)) (t + 1) = eX ((pth ln (fun L => τ 11 (4 * sn + L)) (cOf (τ 3 kn) (τ 6 sn) (τ 7 sn)) t) * 2409 + (τ 11 (4 * sn + t)) * 1499 + (((t : Nat) : Int) + 1)) := (pth_0 (by rw [hdiv] at hbit; omega)).trans (congrArg eX (by show 2409 * pth ln (fun L => τ 11 (4 * sn + L)) (cOf (τ 3 kn) (τ 6 sn) (τ 7 sn)) t + 1499 * τ 11 (4 * sn + t) + 1 * ((t : Int) + 1) = _; omega))
        rw [e]
        exact lv_sub hl [0, 1, 3, 4, 5] rfl
  exact loop28 4 0 rfl ls _ _ hW hS hl
