def yr (τ : yM) (r : Nat → Int) : yM := fun d => if d = 27 then r else τ d
theorem yr_o {τ : yM} {r : Nat → Int} {d : Nat} (h : d ≠ 27) : yr τ r d = τ d := if_neg h
theorem yr_of {τ ρ : yM} {r : Nat → Int} (h : ∀ d, d ≠ 27 → ρ d = yr τ r d) : ρ = yr τ (ρ 27) := by
  funext d
  by_cases e : d = 27
  · subst e; exact (if_pos rfl).symm
  · rw [h d e, yr_o e, yr_o e]
theorem yr_to {τ ρ : yM} (h : ∀ d, d ≠ 27 → ρ d = τ d) : ρ = yr τ (ρ 27) := yr_of (r := τ 27) (fun d e => (h d e).trans (yr_o e).symm)
theorem yr_self {τ : yM} : yr τ (τ 27) = τ := (yr_to (fun _ _ => rfl)).symm
def mA (τ : yM) (up : Nat → Nat) (nb : Nat) : Nat → Prop := fun j => ¬ rootM τ up (τ 9 j) nb
def mB (τ : yM) (sk sl : Nat → Nat) : Nat → Prop := fun j => ¬ (pth (sl j) (fun L => τ 11 (4 * j + L)) (cOf (τ 3 (sk j)) (τ 6 j) (τ 7 j)) 4 = τ 9 j ∧ τ 10 j = nOf (τ 3 (sk j)) (sl j : Int))
def mC (τ : yM) (nb : Nat) : Nat → Prop := fun j => revM τ (τ 10 j) (2 * nb) ∨ ∃ i, i < j ∧ τ 10 i = τ 10 j
def mW (τ : yM) (ns no nb fl : Nat) : Int := if (sm (fun j => (τ 6 j * 1281 + τ 8 j * 1369) % 2473) ns - sm (fun j => (τ 13 j * 1281 + τ 15 j * 1369) % 2473) no - τ 0 22 * 1281) % 2473 = ((τ 0 23 + sm (τ 8) ns - sm (τ 15) no) % 2473) * 1369 % 2473 then (if -(sm (τ 21) nb) < τ 0 22 then -7 else if nb = 12 ∨ (16 : Int) < (fl : Int) + (no : Int) then -8 else 0) else -6
theorem mW_0 {τ : yM} {ns no nb fl : Nat} (h : mW τ ns no nb fl = 0) : nb ≠ 12 ∧ fl + no ≤ 16 := by
  unfold mW at h
  split at h
  · split at h
    · exact absurd h (by decide)
    · split at h
      · exact absurd h (by decide)
      · omega
  · exact absurd h (by decide)
theorem mW_rng (τ : yM) (ns no nb fl : Nat) : -8 ≤ mW τ ns no nb fl ∧ mW τ ns no nb fl ≤ 0 := by
  unfold mW
  split
  · split
    · decide
    · split <;> decide
  · decide
theorem cF_rng {ns no : Nat} {a b w : Int} (ha : -8 ≤ a ∧ a ≤ 0) (hb : -8 ≤ b ∧ b ≤ 0) (hw : -8 ≤ w ∧ w ≤ 0) : -8 ≤ cFault ns no a b w ∧ cFault ns no a b w ≤ 0 := by
  unfold cFault
  split
  · decide
  · split
    · exact ha
    · split
      · exact hb
      · exact hw
theorem cF_0 {ns no : Nat} {a b w : Int} (h : cFault ns no a b w = 0) : w = 0 := by
  unfold cFault at h
  split at h
  · exact absurd h (by decide)
  · split at h
    · omega
    · split at h
      · omega
      · exact h
theorem d_M_fault_0 : decode b_M_fault 0 = .ok (.aload_n 0, 1) := by decide +kernel
theorem d_M_fault_1 : decode b_M_fault 1 = .ok (.getfield 153, 3) := by decide +kernel
theorem d_M_fault_4 : decode b_M_fault 4 = .ok (.aload_n 0, 1) := by decide +kernel
theorem d_M_fault_5 : decode b_M_fault 5 = .ok (.getfield 156, 3) := by decide +kernel
theorem d_M_fault_8 : decode b_M_fault 8 = .ok (.iadd, 1) := by decide +kernel
theorem d_M_fault_9 : decode b_M_fault 9 = .ok (.ifCond .ne 6, 3) := by decide +kernel
theorem d_M_fault_12 : decode b_M_fault 12 = .ok (.bipush (-2), 2) := by decide +kernel
theorem d_M_fault_14 : decode b_M_fault 14 = .ok (.ireturn, 1) := by decide +kernel
theorem d_M_fault_15 : decode b_M_fault 15 = .ok (.iconst 0, 1) := by decide +kernel
theorem d_M_fault_16 : decode b_M_fault 16 = .ok (.istore_n 1, 1) := by decide +kernel
theorem d_M_fault_17 : decode b_M_fault 17 = .ok (.iload_n 1, 1) := by decide +kernel
theorem d_M_fault_18 : decode b_M_fault 18 = .ok (.aload_n 0, 1) := by decide +kernel
theorem d_M_fault_19 : decode b_M_fault 19 = .ok (.getfield 153, 3) := by decide +kernel
theorem d_M_fault_22 : decode b_M_fault 22 = .ok (.if_icmp .ge 72, 3) := by decide +kernel
theorem d_M_fault_25 : decode b_M_fault 25 = .ok (.aload_n 0, 1) := by decide +kernel
theorem d_M_fault_26 : decode b_M_fault 26 = .ok (.aload_n 0, 1) := by decide +kernel
theorem d_M_fault_27 : decode b_M_fault 27 = .ok (.getfield 34, 3) := by decide +kernel
theorem d_M_fault_30 : decode b_M_fault 30 = .ok (.iload_n 1, 1) := by decide +kernel
theorem d_M_fault_31 : decode b_M_fault 31 = .ok (.iaload, 1) := by decide +kernel
theorem d_M_fault_32 : decode b_M_fault 32 = .ok (.invokevirtual 174, 3) := by decide +kernel
theorem d_M_fault_35 : decode b_M_fault 35 = .ok (.ifCond .ne 6, 3) := by decide +kernel
theorem d_M_fault_38 : decode b_M_fault 38 = .ok (.bipush (-3), 2) := by decide +kernel
theorem d_M_fault_40 : decode b_M_fault 40 = .ok (.ireturn, 1) := by decide +kernel
theorem d_M_fault_41 : decode b_M_fault 41 = .ok (.aload_n 0, 1) := by decide +kernel
theorem d_M_fault_42 : decode b_M_fault 42 = .ok (.iload_n 1, 1) := by decide +kernel
theorem d_M_fault_43 : decode b_M_fault 43 = .ok (.invokevirtual 177, 3) := by decide +kernel
theorem d_M_fault_46 : decode b_M_fault 46 = .ok (.ifCond .ne 6, 3) := by decide +kernel
theorem d_M_fault_49 : decode b_M_fault 49 = .ok (.bipush (-4), 2) := by decide +kernel
theorem d_M_fault_51 : decode b_M_fault 51 = .ok (.ireturn, 1) := by decide +kernel
theorem d_M_fault_52 : decode b_M_fault 52 = .ok (.aload_n 0, 1) := by decide +kernel
theorem d_M_fault_53 : decode b_M_fault 53 = .ok (.aload_n 0, 1) := by decide +kernel
theorem d_M_fault_54 : decode b_M_fault 54 = .ok (.getfield 37, 3) := by decide +kernel
theorem d_M_fault_57 : decode b_M_fault 57 = .ok (.iload_n 1, 1) := by decide +kernel
theorem d_M_fault_58 : decode b_M_fault 58 = .ok (.iaload, 1) := by decide +kernel
theorem d_M_fault_59 : decode b_M_fault 59 = .ok (.invokevirtual 150, 3) := by decide +kernel
theorem d_M_fault_62 : decode b_M_fault 62 = .ok (.ifCond .ne 23, 3) := by decide +kernel
theorem d_M_fault_65 : decode b_M_fault 65 = .ok (.iload_n 1, 1) := by decide +kernel
theorem d_M_fault_66 : decode b_M_fault 66 = .ok (.iconst 1, 1) := by decide +kernel
theorem d_M_fault_67 : decode b_M_fault 67 = .ok (.if_icmp .ne 21, 3) := by decide +kernel
theorem d_M_fault_70 : decode b_M_fault 70 = .ok (.aload_n 0, 1) := by decide +kernel
theorem d_M_fault_71 : decode b_M_fault 71 = .ok (.getfield 37, 3) := by decide +kernel
theorem d_M_fault_74 : decode b_M_fault 74 = .ok (.iconst 0, 1) := by decide +kernel
theorem d_M_fault_75 : decode b_M_fault 75 = .ok (.iaload, 1) := by decide +kernel
theorem d_M_fault_76 : decode b_M_fault 76 = .ok (.aload_n 0, 1) := by decide +kernel
theorem d_M_fault_77 : decode b_M_fault 77 = .ok (.getfield 37, 3) := by decide +kernel
theorem d_M_fault_80 : decode b_M_fault 80 = .ok (.iconst 1, 1) := by decide +kernel
theorem d_M_fault_81 : decode b_M_fault 81 = .ok (.iaload, 1) := by decide +kernel
theorem d_M_fault_82 : decode b_M_fault 82 = .ok (.if_icmp .ne 6, 3) := by decide +kernel
theorem d_M_fault_85 : decode b_M_fault 85 = .ok (.bipush (-5), 2) := by decide +kernel
theorem d_M_fault_87 : decode b_M_fault 87 = .ok (.ireturn, 1) := by decide +kernel
theorem d_M_fault_88 : decode b_M_fault 88 = .ok (.iinc 1 1, 3) := by decide +kernel
theorem d_M_fault_91 : decode b_M_fault 91 = .ok (.goto (-74), 3) := by decide +kernel
theorem d_M_fault_94 : decode b_M_fault 94 = .ok (.iconst 0, 1) := by decide +kernel
theorem d_M_fault_95 : decode b_M_fault 95 = .ok (.istore_n 1, 1) := by decide +kernel
theorem d_M_fault_96 : decode b_M_fault 96 = .ok (.iload_n 1, 1) := by decide +kernel
theorem d_M_fault_97 : decode b_M_fault 97 = .ok (.aload_n 0, 1) := by decide +kernel
theorem d_M_fault_98 : decode b_M_fault 98 = .ok (.getfield 156, 3) := by decide +kernel
theorem d_M_fault_101 : decode b_M_fault 101 = .ok (.if_icmp .ge 43, 3) := by decide +kernel
theorem d_M_fault_104 : decode b_M_fault 104 = .ok (.aload_n 0, 1) := by decide +kernel
theorem d_M_fault_105 : decode b_M_fault 105 = .ok (.getfield 55, 3) := by decide +kernel
theorem d_M_fault_108 : decode b_M_fault 108 = .ok (.iload_n 1, 1) := by decide +kernel
theorem d_M_fault_109 : decode b_M_fault 109 = .ok (.iaload, 1) := by decide +kernel
theorem d_M_fault_110 : decode b_M_fault 110 = .ok (.aload_n 0, 1) := by decide +kernel
theorem d_M_fault_111 : decode b_M_fault 111 = .ok (.aload_n 0, 1) := by decide +kernel
theorem d_M_fault_112 : decode b_M_fault 112 = .ok (.getfield 43, 3) := by decide +kernel
theorem d_M_fault_115 : decode b_M_fault 115 = .ok (.iload_n 1, 1) := by decide +kernel
theorem d_M_fault_116 : decode b_M_fault 116 = .ok (.iaload, 1) := by decide +kernel
theorem d_M_fault_117 : decode b_M_fault 117 = .ok (.aload_n 0, 1) := by decide +kernel
theorem d_M_fault_118 : decode b_M_fault 118 = .ok (.getfield 46, 3) := by decide +kernel
theorem d_M_fault_121 : decode b_M_fault 121 = .ok (.iload_n 1, 1) := by decide +kernel
theorem d_M_fault_122 : decode b_M_fault 122 = .ok (.iaload, 1) := by decide +kernel
theorem d_M_fault_123 : decode b_M_fault 123 = .ok (.aload_n 0, 1) := by decide +kernel
theorem d_M_fault_124 : decode b_M_fault 124 = .ok (.getfield 49, 3) := by decide +kernel
theorem d_M_fault_127 : decode b_M_fault 127 = .ok (.iload_n 1, 1) := by decide +kernel
theorem d_M_fault_128 : decode b_M_fault 128 = .ok (.iaload, 1) := by decide +kernel
theorem d_M_fault_129 : decode b_M_fault 129 = .ok (.invokevirtual 140, 3) := by decide +kernel
theorem d_M_fault_132 : decode b_M_fault 132 = .ok (.if_icmp .eq 6, 3) := by decide +kernel
theorem d_M_fault_135 : decode b_M_fault 135 = .ok (.bipush (-4), 2) := by decide +kernel
theorem d_M_fault_137 : decode b_M_fault 137 = .ok (.ireturn, 1) := by decide +kernel
theorem d_M_fault_138 : decode b_M_fault 138 = .ok (.iinc 1 1, 3) := by decide +kernel
theorem d_M_fault_141 : decode b_M_fault 141 = .ok (.goto (-45), 3) := by decide +kernel
theorem d_M_fault_144 : decode b_M_fault 144 = .ok (.aload_n 0, 1) := by decide +kernel
theorem d_M_fault_145 : decode b_M_fault 145 = .ok (.invokevirtual 180, 3) := by decide +kernel
theorem d_M_fault_148 : decode b_M_fault 148 = .ok (.aload_n 0, 1) := by decide +kernel
theorem d_M_fault_149 : decode b_M_fault 149 = .ok (.invokevirtual 183, 3) := by decide +kernel
theorem d_M_fault_152 : decode b_M_fault 152 = .ok (.sipush 1369, 3) := by decide +kernel
theorem d_M_fault_155 : decode b_M_fault 155 = .ok (.imul, 1) := by decide +kernel
theorem d_M_fault_156 : decode b_M_fault 156 = .ok (.sipush 2473, 3) := by decide +kernel
theorem d_M_fault_159 : decode b_M_fault 159 = .ok (.irem, 1) := by decide +kernel
theorem d_M_fault_160 : decode b_M_fault 160 = .ok (.if_icmp .eq 6, 3) := by decide +kernel
theorem d_M_fault_163 : decode b_M_fault 163 = .ok (.bipush (-6), 2) := by decide +kernel
theorem d_M_fault_165 : decode b_M_fault 165 = .ok (.ireturn, 1) := by decide +kernel
theorem d_M_fault_166 : decode b_M_fault 166 = .ok (.aload_n 0, 1) := by decide +kernel
theorem d_M_fault_167 : decode b_M_fault 167 = .ok (.invokevirtual 186, 3) := by decide +kernel
theorem d_M_fault_170 : decode b_M_fault 170 = .ok (.aload_n 0, 1) := by decide +kernel
theorem d_M_fault_171 : decode b_M_fault 171 = .ok (.getfield 159, 3) := by decide +kernel
theorem d_M_fault_174 : decode b_M_fault 174 = .ok (.if_icmp .ge 6, 3) := by decide +kernel
theorem d_M_fault_177 : decode b_M_fault 177 = .ok (.bipush (-7), 2) := by decide +kernel
theorem d_M_fault_179 : decode b_M_fault 179 = .ok (.ireturn, 1) := by decide +kernel
theorem d_M_fault_180 : decode b_M_fault 180 = .ok (.aload_n 0, 1) := by decide +kernel
theorem d_M_fault_181 : decode b_M_fault 181 = .ok (.getfield 106, 3) := by decide +kernel
theorem d_M_fault_184 : decode b_M_fault 184 = .ok (.bipush 12, 2) := by decide +kernel
theorem d_M_fault_186 : decode b_M_fault 186 = .ok (.if_icmp .eq 17, 3) := by decide +kernel
theorem d_M_fault_189 : decode b_M_fault 189 = .ok (.aload_n 0, 1) := by decide +kernel
theorem d_M_fault_190 : decode b_M_fault 190 = .ok (.invokevirtual 114, 3) := by decide +kernel
theorem d_M_fault_193 : decode b_M_fault 193 = .ok (.aload_n 0, 1) := by decide +kernel
theorem d_M_fault_194 : decode b_M_fault 194 = .ok (.getfield 156, 3) := by decide +kernel
theorem d_M_fault_197 : decode b_M_fault 197 = .ok (.iadd, 1) := by decide +kernel
theorem d_M_fault_198 : decode b_M_fault 198 = .ok (.bipush 16, 2) := by decide +kernel
theorem d_M_fault_200 : decode b_M_fault 200 = .ok (.if_icmp .le 8, 3) := by decide +kernel
theorem d_M_fault_203 : decode b_M_fault 203 = .ok (.bipush (-8), 2) := by decide +kernel
theorem d_M_fault_205 : decode b_M_fault 205 = .ok (.goto 4, 3) := by decide +kernel
theorem d_M_fault_208 : decode b_M_fault 208 = .ok (.iconst 0, 1) := by decide +kernel
theorem d_M_fault_209 : decode b_M_fault 209 = .ok (.ireturn, 1) := by decide +kernel

set_option maxHeartbeats 4000000 in
set_option maxRecDepth 100000 in
theorem c_M_fault (l : Launch) (G : yG) (z : Nat) (τ : yM) (hTb : mTb τ) (nb : Nat) (hnbr : nb ≤ 12) (hnb : τ 0 24 = (nb : Int)) (fl : Nat) (hflr : fl ≤ 16) (hfl : (if nb = 0 then 0 else τ 20 (nb - 1)) = (fl : Int)) (up : Nat → Nat) (hup : ∀ b, b < nb → up b ≤ 16 ∧ τ 20 b = (up b : Int) ∧ ∀ i, i < up b → 0 ≤ τ 23 i ∧ τ 23 i < 10009) (hsh : ∀ i, i < 2 * nb → jr (τ 22 i)) (ns no : Nat) (hns : ns ≤ 2) (hno : no ≤ 2) (hs : τ 0 4 = (ns : Int)) (ho : τ 0 13 = (no : Int)) (ht : 0 ≤ τ 0 23 ∧ τ 0 23 < 2473) (hsw : ∀ j, j < ns → 0 ≤ τ 8 j ∧ τ 8 j ≤ 2472) (how : ∀ j, j < no → 0 ≤ τ 15 j ∧ τ 15 j ≤ 2472) (hsv : ∀ j, j < ns → 0 ≤ τ 6 j ∧ τ 6 j < 1000) (hov : ∀ j, j < no → 0 ≤ τ 13 j ∧ τ 13 j < 1000) (hbr : -9999 ≤ τ 0 22 ∧ τ 0 22 ≤ 9999) (sk sl : Nat → Nat) (hsd : ∀ j, j < ns → sk j < 4 ∧ sl j < 16 ∧ τ 4 j = (sk j : Int) ∧ τ 5 j = (sl j : Int) ∧ (0 ≤ τ 3 (sk j) ∧ τ 3 (sk j) < 2473) ∧ (0 ≤ τ 7 j ∧ τ 7 j < 2473) ∧ (∀ L, L < 4 → 0 ≤ τ 11 (4 * j + L) ∧ τ 11 (4 * j + L) < 10009) ∧ jr (τ 9 j)) (hn2 : ∀ j, j < 2 → jr (τ 10 j)) (okk : Nat → Nat) (hod : ∀ j, j < no → okk j < 4 ∧ τ 12 j = (okk j : Int) ∧ (0 ≤ τ 3 (okk j) ∧ τ 3 (okk j) < 2473) ∧ (0 ≤ τ 14 j ∧ τ 14 j < 2473) ∧ jr (τ 16 j)) (hpl : jr (-(sm (τ 21) nb))) : Met l y_M_fault (Cond.code y_M_fault b_M_fault 2 (some .int) :: yT) ({ frames := 3, cells := 0, slots := 0, locals := 71 } : Room) (yP ycl G yLM 0 28 z τ (yK G) [.ref (z + 0)]) (yQg ycl G yLM 0 28 z (fun v ρ => v = (cFault ns no (jgo (mA τ up nb) (mB τ sk sl) (mC τ nb) ns ns) (cif (∃ j, j < no ∧ ¬ τ 16 j = cOf (τ 3 (okk j)) (τ 13 j) (τ 14 j)) (-4) 0) (mW τ ns no nb fl)) ∧ ∀ d, d ≠ 27 → ρ d = τ d)) 0 0 (yA z 0 28) := by
  refine y_met (by decide +kernel) (Nat.le_of_ble_eq_true rfl) ?_
  intro p e s m below meth c ls hx hb hr hml hlocks hown hname hts hv hl
  have hA : ∀ w ∈ yT, w.before _ s = true := fun w h => hts w (List.mem_cons_of_mem _ h)
  have hl : lv_has ls 2 [(0, .ref (z + 0))] := hl
  obtain ⟨hW, hK⟩ := hv
  have hS : va_S (yA z 0 28) s.heap s.heap [] := va_S.rf
  have hAr : ∀ d, 0 ≤ d ∧ d < 0 + 28 → yA z 0 28 (z + d) := yA_all
  refine lv_aload_n hx hb d_M_fault_0 rfl (lv_at hl 0 rfl) ?_
  refine y_geti hx hb hA in_M hown hK.1 hW 0 (by omega) laym_0 rfl 4 (by decide) (hA _ k_fl_M_153) rfl d_M_fault_1 ?_
  rw [hs]
  refine lv_aload_n hx hb d_M_fault_4 rfl (lv_at hl 0 rfl) ?_
  refine y_geti hx hb hA in_M hown hK.1 hW 0 (by omega) laym_0 rfl 13 (by decide) (hA _ k_fl_M_156) rfl d_M_fault_5 ?_
  rw [ho]
  refine y_iadd hx hb d_M_fault_8 ?_
  refine y_if_ne (tgt := 15) hx hb d_M_fault_9 (by decide) ⟨by omega, by omega⟩ (fun hc1 => ?_) (fun hc1 => ?_)
  · skip
    refine lv_iconst (v := J (0)) hx hb d_M_fault_15 rfl ?_
    refine lv_istore_n (lv' := [(1, .int (J (0))), (0, .ref (z + 0))]) hx hb d_M_fault_16 rfl hl (by decide) rfl (fun ls hl => ?_)
    have h00 : ¬ (ns = 0 ∧ no = 0) := by omega
    have loop17 : ∀ (q9 j : Nat), j + q9 = ns → ∀ (r : Nat → Int), jgo (mA τ up nb) (mB τ sk sl) (mC τ nb) ns ns = jgo (mA τ up nb) (mB τ sk sl) (mC τ nb) ns q9 → ∀ (ls : Array Slot) (H : Heap) (locs : List Loc), yW ycl G yLM 0 28 z (yr τ r) H → va_S (yA z 0 28) s.heap H locs → lv_has ls 2 [(1, .int (J (((j : Nat) : Int)))), (0, .ref (z + 0))] → W p l e ({ frames := 3, cells := 0, slots := 0, locals := 71 } : Room) s m ([.ref (z + 0)] : List Value).toArray below meth c H locs 0 0 (MQ below (yQg ycl G yLM 0 28 z (fun v ρ => v = (cFault ns no (jgo (mA τ up nb) (mB τ sk sl) (mC τ nb) ns ns) (cif (∃ j, j < no ∧ ¬ τ 16 j = cOf (τ 3 (okk j)) (τ 13 j) (τ 14 j)) (-4) 0) (mW τ ns no nb fl)) ∧ ∀ d, d ≠ 27 → ρ d = τ d)) ([.ref (z + 0)] : List Value).toArray s 0 0 (yA z 0 28)) (F0 m 17 ls []) := by
      intro q9
      induction q9 with
      | zero =>
        intro j hjk r hJ ls H locs hW hS hl
        have hjN : ns = j := by omega
        subst hjN
        have hJ0 : jgo (mA τ up nb) (mB τ sk sl) (mC τ nb) ns ns = 0 := hJ
        refine lv_iload_n hx hb d_M_fault_17 rfl (lv_at hl 0 rfl) ?_
        refine lv_aload_n hx hb d_M_fault_18 rfl (lv_at hl 1 rfl) ?_
        refine y_geti hx hb hA in_M hown hK.1 hW 0 (by omega) laym_0 rfl 4 (by decide) (hA _ k_fl_M_153) rfl d_M_fault_19 ?_
        rw [yr_o (show 0 ≠ 27 by decide)]
        rw [hs]
        refine y_icmp_ge (tgt := 94) hx hb d_M_fault_22 (by decide) ⟨by omega, by omega⟩ ⟨by omega, by omega⟩ (fun hc2 => ?_) (fun hc2 => absurd hc2 (by omega))
        refine lv_iconst (v := J (0)) hx hb d_M_fault_94 rfl ?_
        refine lv_istore_n (lv' := [(1, .int (J (0))), (0, .ref (z + 0))]) hx hb d_M_fault_95 rfl hl (by decide) rfl (fun ls hl => ?_)
        have loop96 : ∀ (p9 o : Nat), o + p9 = no → (∀ t, t < o → τ 16 t = cOf (τ 3 (okk t)) (τ 13 t) (τ 14 t)) → ∀ (ls : Array Slot) (H : Heap) (locs : List Loc), yW ycl G yLM 0 28 z (yr τ r) H → va_S (yA z 0 28) s.heap H locs → lv_has ls 2 [(1, .int (J (((o : Nat) : Int)))), (0, .ref (z + 0))] → W p l e ({ frames := 3, cells := 0, slots := 0, locals := 71 } : Room) s m ([.ref (z + 0)] : List Value).toArray below meth c H locs 0 0 (MQ below (yQg ycl G yLM 0 28 z (fun v ρ => v = (cFault ns no (jgo (mA τ up nb) (mB τ sk sl) (mC τ nb) ns ns) (cif (∃ j, j < no ∧ ¬ τ 16 j = cOf (τ 3 (okk j)) (τ 13 j) (τ 14 j)) (-4) 0) (mW τ ns no nb fl)) ∧ ∀ d, d ≠ 27 → ρ d = τ d)) ([.ref (z + 0)] : List Value).toArray s 0 0 (yA z 0 28)) (F0 m 96 ls []) := by
          intro p9
          induction p9 with
          | zero =>
            intro o hok hI ls H locs hW hS hl
            have hoN : no = o := by omega
            subst hoN
            have hO0 : cif (∃ j, j < no ∧ ¬ τ 16 j = cOf (τ 3 (okk j)) (τ 13 j) (τ 14 j)) (-4) 0 = 0 := cif_f (fun ⟨t, h1, h2⟩ => h2 (hI t h1))
            refine lv_iload_n hx hb d_M_fault_96 rfl (lv_at hl 0 rfl) ?_
            refine lv_aload_n hx hb d_M_fault_97 rfl (lv_at hl 1 rfl) ?_
            refine y_geti hx hb hA in_M hown hK.1 hW 0 (by omega) laym_0 rfl 13 (by decide) (hA _ k_fl_M_156) rfl d_M_fault_98 ?_
            rw [yr_o (show 0 ≠ 27 by decide)]
            rw [ho]
            refine y_icmp_ge (tgt := 144) hx hb d_M_fault_101 (by decide) ⟨by omega, by omega⟩ ⟨by omega, by omega⟩ (fun hc3 => ?_) (fun hc3 => absurd hc3 (by omega))
            refine lv_aload_n hx hb d_M_fault_144 rfl (lv_at hl 1 rfl) ?_
            refine y_ci (y_runV (As := []) (rest := []) ⟨hx, hb, hml, hown, hts⟩ (c_M_covers l G z (yr τ r) ns no hns hno hs ho ht hsw how hsv hov hbr) 0 k_co_M_covers k_ml_M_180 k_im_M_covers k_se_M_covers k_in_M rfl rfl (by decide +kernel) ⟨Nat.le_of_ble_eq_true rfl, Nat.le_of_ble_eq_true rfl⟩ (yPv (yK_bl G) (yK_mv G) hK hK.1 hW (by omega) laym_0 rfl (by omega) (by omega)) rfl hl.1 rfl (Nat.le_of_ble_eq_true rfl) d_M_fault_145 ⟨Nat.zero_le _, Nat.zero_le _⟩) hS hW (fun H locs hW hS => ?_)
            refine W.eq (g2 := F0 m 148 ls [.int (J ((sm (fun j => (τ 6 j * 1281 + τ 8 j * 1369) % 2473) ns - sm (fun j => (τ 13 j * 1281 + τ 15 j * 1369) % 2473) no - τ 0 22 * 1281) % 2473))]) rfl ?_
            refine lv_aload_n hx hb d_M_fault_148 rfl (lv_at hl 1 rfl) ?_
            refine y_ci (y_runV (As := []) (rest := [.int (J ((sm (fun j => (τ 6 j * 1281 + τ 8 j * 1369) % 2473) ns - sm (fun j => (τ 13 j * 1281 + τ 15 j * 1369) % 2473) no - τ 0 22 * 1281) % 2473))]) ⟨hx, hb, hml, hown, hts⟩ (c_M_seal l G z (yr τ r) ns no hns hno hs ho ht hsw how) 0 k_co_M_seal k_ml_M_183 k_im_M_seal k_se_M_seal k_in_M rfl rfl (by decide +kernel) ⟨Nat.le_of_ble_eq_true rfl, Nat.le_of_ble_eq_true rfl⟩ (yPv (yK_bl G) (yK_mv G) hK hK.1 hW (by omega) laym_0 rfl (by omega) (by omega)) rfl hl.1 rfl (Nat.le_of_ble_eq_true rfl) d_M_fault_149 ⟨Nat.zero_le _, Nat.zero_le _⟩) hS hW (fun H locs hW hS => ?_)
            refine W.eq (g2 := F0 m 152 ls [.int (J ((τ 0 23 + sm (τ 8) ns - sm (τ 15) no) % 2473)), .int (J ((sm (fun j => (τ 6 j * 1281 + τ 8 j * 1369) % 2473) ns - sm (fun j => (τ 13 j * 1281 + τ 15 j * 1369) % 2473) no - τ 0 22 * 1281) % 2473))]) rfl ?_
            refine lv_sipush (v := J (1369)) hx hb d_M_fault_152 (by decide) ?_
            refine y_imul hx hb d_M_fault_155 ?_
            refine lv_sipush (v := J (2473)) hx hb d_M_fault_156 (by decide) ?_
            refine y_irem hx hb d_M_fault_159 (by omega) (by omega) (by decide) ?_
            refine y_icmp_eq (tgt := 166) hx hb d_M_fault_160 (by decide) ⟨by omega, by omega⟩ ⟨by omega, by omega⟩ (fun hcv => ?_) (fun hcv => ?_)
            · skip
              refine lv_aload_n hx hb d_M_fault_166 rfl (lv_at hl 1 rfl) ?_
              refine y_ci (y_runV (As := []) (rest := []) ⟨hx, hb, hml, hown, hts⟩ (c_M_pool l G z (yr τ r) nb hnbr hnb) 0 k_co_M_pool k_ml_M_186 k_im_M_pool k_se_M_pool k_in_M rfl rfl (by decide +kernel) ⟨Nat.le_of_ble_eq_true rfl, Nat.le_of_ble_eq_true rfl⟩ (yPv (yK_bl G) (yK_mv G) hK hK.1 hW (by omega) laym_0 rfl (by omega) (by omega)) rfl hl.1 rfl (Nat.le_of_ble_eq_true rfl) d_M_fault_167 ⟨Nat.zero_le _, Nat.zero_le _⟩) hS hW (fun H locs hW hS => ?_)
              refine W.eq (g2 := F0 m 170 ls [.int (J (-(sm (τ 21) nb)))]) rfl ?_
              refine lv_aload_n hx hb d_M_fault_170 rfl (lv_at hl 1 rfl) ?_
              refine y_geti hx hb hA in_M hown hK.1 hW 0 (by omega) laym_0 rfl 22 (by decide) (hA _ k_fl_M_159) rfl d_M_fault_171 ?_
              rw [yr_o (show 0 ≠ 27 by decide)]
              refine y_icmp_ge (tgt := 180) hx hb d_M_fault_174 (by decide) hpl ⟨by omega, by omega⟩ (fun hc5 => ?_) (fun hc5 => ?_)
              · skip
                refine lv_aload_n hx hb d_M_fault_180 rfl (lv_at hl 1 rfl) ?_
                refine y_geti hx hb hA in_M hown hK.1 hW 0 (by omega) laym_0 rfl 24 (by decide) (hA _ k_fl_M_106) rfl d_M_fault_181 ?_
                rw [yr_o (show 0 ≠ 27 by decide)]
                rw [hnb]
                refine lv_bipush (v := J (12)) hx hb d_M_fault_184 (by decide) ?_
                refine y_icmp_eq (tgt := 203) hx hb d_M_fault_186 (by decide) ⟨by omega, by omega⟩ ⟨by omega, by omega⟩ (fun hc6 => ?_) (fun hc6 => ?_)
                · skip
                  refine lv_bipush (v := J (-8)) hx hb d_M_fault_203 (by decide) ?_
                  refine lv_goto (tgt := 209) hx hb d_M_fault_205 (by decide) ?_
                  exact y_retg hx hb hr hlocks hS hW ⟨((cF_w h00 hJ0 hO0).trans ((if_pos hcv).trans ((if_neg (by omega)).trans (if_pos (by omega))))).symm, fun d hd => yr_o hd⟩ d_M_fault_209
                · skip
                  refine lv_aload_n hx hb d_M_fault_189 rfl (lv_at hl 1 rfl) ?_
                  refine y_ci (y_runV (As := []) (rest := []) ⟨hx, hb, hml, hown, hts⟩ (c_M_leaves l G z (yr τ r) nb hnbr hnb) 0 k_co_M_leaves k_ml_M_114 k_im_M_leaves k_se_M_leaves k_in_M rfl rfl (by decide +kernel) ⟨Nat.le_of_ble_eq_true rfl, Nat.le_of_ble_eq_true rfl⟩ (yPv (yK_bl G) (yK_mv G) hK hK.1 hW (by omega) laym_0 rfl (by omega) (by omega)) rfl hl.1 rfl (Nat.le_of_ble_eq_true rfl) d_M_fault_190 ⟨Nat.zero_le _, Nat.zero_le _⟩) hS hW (fun H locs hW hS => ?_)
                  refine W.eq (g2 := F0 m 193 ls [.int (J ((fl : Int)))]) (by rw [show (if nb = 0 then 0 else (yr τ r) 20 (nb - 1)) = (fl : Int) from hfl]) ?_
                  refine lv_aload_n hx hb d_M_fault_193 rfl (lv_at hl 1 rfl) ?_
                  refine y_geti hx hb hA in_M hown hK.1 hW 0 (by omega) laym_0 rfl 13 (by decide) (hA _ k_fl_M_156) rfl d_M_fault_194 ?_
                  rw [yr_o (show 0 ≠ 27 by decide)]
                  rw [ho]
                  refine y_iadd hx hb d_M_fault_197 ?_
                  refine lv_bipush (v := J (16)) hx hb d_M_fault_198 (by decide) ?_
                  refine y_icmp_le (tgt := 208) hx hb d_M_fault_200 (by decide) ⟨by omega, by omega⟩ ⟨by omega, by omega⟩ (fun hc7 => ?_) (fun hc7 => ?_)
                  · skip
                    refine lv_iconst (v := J (0)) hx hb d_M_fault_208 rfl ?_
                    exact y_retg hx hb hr hlocks hS hW ⟨((cF_w h00 hJ0 hO0).trans ((if_pos hcv).trans ((if_neg (by omega)).trans (if_neg (by omega))))).symm, fun d hd => yr_o hd⟩ d_M_fault_209
                  · skip
                    refine lv_bipush (v := J (-8)) hx hb d_M_fault_203 (by decide) ?_
                    refine lv_goto (tgt := 209) hx hb d_M_fault_205 (by decide) ?_
                    exact y_retg hx hb hr hlocks hS hW ⟨((cF_w h00 hJ0 hO0).trans ((if_pos hcv).trans ((if_neg (by omega)).trans (if_pos (by omega))))).symm, fun d hd => yr_o hd⟩ d_M_fault_209
              · skip
                refine lv_bipush (v := J (-7)) hx hb d_M_fault_177 (by decide) ?_
                exact y_retg hx hb hr hlocks hS hW ⟨((cF_w h00 hJ0 hO0).trans ((if_pos hcv).trans (if_pos (by omega)))).symm, fun d hd => yr_o hd⟩ d_M_fault_179
            · skip
              refine lv_bipush (v := J (-6)) hx hb d_M_fault_163 (by decide) ?_
              exact y_retg hx hb hr hlocks hS hW ⟨((cF_w h00 hJ0 hO0).trans (if_neg hcv)).symm, fun d hd => yr_o hd⟩ d_M_fault_165
          | succ p9 ih =>
            intro o hok hI ls H locs hW hS hl
            obtain ⟨o1, o2, o3, o4, o5⟩ := hod o (by omega)
            have hv1 := hov o (by omega)
            have rC := cOf_rng (τ 3 (okk o)) (τ 13 o) (τ 14 o)
            refine lv_iload_n hx hb d_M_fault_96 rfl (lv_at hl 0 rfl) ?_
            refine lv_aload_n hx hb d_M_fault_97 rfl (lv_at hl 1 rfl) ?_
            refine y_geti hx hb hA in_M hown hK.1 hW 0 (by omega) laym_0 rfl 13 (by decide) (hA _ k_fl_M_156) rfl d_M_fault_98 ?_
            rw [yr_o (show 0 ≠ 27 by decide)]
            rw [ho]
            refine y_icmp_ge (tgt := 144) hx hb d_M_fault_101 (by decide) ⟨by omega, by omega⟩ ⟨by omega, by omega⟩ (fun hc8 => absurd hc8 (by omega)) (fun hc8 => ?_)
            refine lv_aload_n hx hb d_M_fault_104 rfl (lv_at hl 1 rfl) ?_
            refine y_getr hx hb hA in_M hown hK.1 hW 0 (by omega) laym_0 rfl 18 (by decide) (hA _ k_fl_M_55) rfl d_M_fault_105 ?_
            refine lv_iload_n hx hb d_M_fault_108 rfl (lv_at hl 0 rfl) ?_
            refine y_iald hx hb hK.1 hW 16 (by omega) laym_16 rfl (by decide) o rfl (by omega) d_M_fault_109 ?_
            rw [yr_o (show 16 ≠ 27 by decide)]
            refine lv_aload_n hx hb d_M_fault_110 rfl (lv_at hl 1 rfl) ?_
            refine lv_aload_n hx hb d_M_fault_111 rfl (lv_at hl 1 rfl) ?_
            refine y_getr hx hb hA in_M hown hK.1 hW 0 (by omega) laym_0 rfl 14 (by decide) (hA _ k_fl_M_43) rfl d_M_fault_112 ?_
            refine lv_iload_n hx hb d_M_fault_115 rfl (lv_at hl 0 rfl) ?_
            refine y_iald hx hb hK.1 hW 12 (by omega) laym_12 rfl (by decide) o rfl (by omega) d_M_fault_116 ?_
            rw [yr_o (show 12 ≠ 27 by decide)]
            rw [o2]
            refine lv_aload_n hx hb d_M_fault_117 rfl (lv_at hl 1 rfl) ?_
            refine y_getr hx hb hA in_M hown hK.1 hW 0 (by omega) laym_0 rfl 15 (by decide) (hA _ k_fl_M_46) rfl d_M_fault_118 ?_
            refine lv_iload_n hx hb d_M_fault_121 rfl (lv_at hl 0 rfl) ?_
            refine y_iald hx hb hK.1 hW 13 (by omega) laym_13 rfl (by decide) o rfl (by omega) d_M_fault_122 ?_
            rw [yr_o (show 13 ≠ 27 by decide)]
            refine lv_aload_n hx hb d_M_fault_123 rfl (lv_at hl 1 rfl) ?_
            refine y_getr hx hb hA in_M hown hK.1 hW 0 (by omega) laym_0 rfl 16 (by decide) (hA _ k_fl_M_49) rfl d_M_fault_124 ?_
            refine lv_iload_n hx hb d_M_fault_127 rfl (lv_at hl 0 rfl) ?_
            refine y_iald hx hb hK.1 hW 14 (by omega) laym_14 rfl (by decide) o rfl (by omega) d_M_fault_128 ?_
            rw [yr_o (show 14 ≠ 27 by decide)]
            refine y_ci (y_runV (As := [.int (J ((okk o : Int))), .int (J (τ 13 o)), .int (J (τ 14 o))]) (rest := [.int (J (τ 16 o))]) ⟨hx, hb, hml, hown, hts⟩ (c_M_commitment l G z (yr τ r) hTb (okk o) o1 ((okk o : Int)) rfl o3 (τ 13 o) (τ 14 o) ⟨by omega, by omega⟩ ⟨by omega, by omega⟩) 3 k_co_M_commitment k_ml_M_140 k_im_M_commitment k_se_M_commitment k_in_M rfl rfl (by decide +kernel) ⟨Nat.le_of_ble_eq_true rfl, Nat.le_of_ble_eq_true rfl⟩ (yPv (yK_bl G) (yK_mv G) hK hK.1 hW (by omega) laym_0 rfl (by omega) (by omega)) rfl hl.1 rfl (Nat.le_of_ble_eq_true rfl) d_M_fault_129 ⟨Nat.zero_le _, Nat.zero_le _⟩) hS hW (fun H locs hW hS => ?_)
            refine W.eq (g2 := F0 m 132 ls [.int (J (cOf (τ 3 (okk o)) (τ 13 o) (τ 14 o))), .int (J (τ 16 o))]) (by rw [show eX (τ 13 o * 1281 + τ 14 o * 1369 + (yr τ r) 3 (okk o)) = cOf (τ 3 (okk o)) (τ 13 o) (τ 14 o) from congrArg eX (by show τ 13 o * 1281 + τ 14 o * 1369 + τ 3 (okk o) = _; omega)]) ?_
            refine y_icmp_eq (tgt := 138) hx hb d_M_fault_132 (by decide) o5 ⟨by omega, by omega⟩ (fun hoc => ?_) (fun hoc => ?_)
            · skip
              refine lv_iinc (k := 0) (v := J (((o + 1 : Nat) : Int))) (lv' := [(1, .int (J (((o + 1 : Nat) : Int)))), (0, .ref (z + 0))]) hx hb d_M_fault_138 hl rfl (by rw [Int.natCast_add o 1]; exact J_add _ _) (by decide) rfl (fun ls hl => ?_)
              refine lv_goto (tgt := 96) hx hb d_M_fault_141 (by decide) ?_
              refine ih (o + 1) (by omega) (fun t ht => ?_) ls H locs hW hS hl
              by_cases e : t = o
              · subst e; exact hoc
              · exact hI t (by omega)
            · skip
              refine lv_bipush (v := J (-4)) hx hb d_M_fault_135 (by decide) ?_
              exact y_retg hx hb hr hlocks hS hW (by have e : cif (∃ j, j < no ∧ ¬ τ 16 j = cOf (τ 3 (okk j)) (τ 13 j) (τ 14 j)) (-4) 0 = -4 := cif_t ⟨o, by omega, hoc⟩; exact ⟨((cF_b h00 hJ0 (by rw [e]; decide)).trans e).symm, fun d hd => yr_o hd⟩) d_M_fault_137
        exact loop96 no 0 (by omega) (fun t h => absurd h (Nat.not_lt_zero t)) ls _ _ hW hS hl
      | succ q9 ih =>
        intro j hjk r hJ ls H locs hW hS hl
        obtain ⟨d1, d2, d3, d4, d5, d6, d7, d8⟩ := hsd j (by omega)
        have hJs := hJ.trans (jgo_s (by omega : j + (q9 + 1) = ns))
        have n2j := hn2 j (by omega)
        have n20 := hn2 0 (by omega)
        have n21 := hn2 1 (by omega)
        refine lv_iload_n hx hb d_M_fault_17 rfl (lv_at hl 0 rfl) ?_
        refine lv_aload_n hx hb d_M_fault_18 rfl (lv_at hl 1 rfl) ?_
        refine y_geti hx hb hA in_M hown hK.1 hW 0 (by omega) laym_0 rfl 4 (by decide) (hA _ k_fl_M_153) rfl d_M_fault_19 ?_
        rw [yr_o (show 0 ≠ 27 by decide)]
        rw [hs]
        refine y_icmp_ge (tgt := 94) hx hb d_M_fault_22 (by decide) ⟨by omega, by omega⟩ ⟨by omega, by omega⟩ (fun hc10 => absurd hc10 (by omega)) (fun hc10 => ?_)
        refine lv_aload_n hx hb d_M_fault_25 rfl (lv_at hl 1 rfl) ?_
        refine lv_aload_n hx hb d_M_fault_26 rfl (lv_at hl 1 rfl) ?_
        refine y_getr hx hb hA in_M hown hK.1 hW 0 (by omega) laym_0 rfl 10 (by decide) (hA _ k_fl_M_34) rfl d_M_fault_27 ?_
        refine lv_iload_n hx hb d_M_fault_30 rfl (lv_at hl 0 rfl) ?_
        refine y_iald hx hb hK.1 hW 9 (by omega) laym_9 rfl (by decide) j rfl (by omega) d_M_fault_31 ?_
        rw [yr_o (show 9 ≠ 27 by decide)]
        refine y_cg (y_runV (As := [.int (J (τ 9 j))]) (rest := []) ⟨hx, hb, hml, hown, hts⟩ (c_M_isRoot l G z (yr τ r) hTb nb hnbr hnb up hup (τ 9 j) d8) 1 k_co_M_isRoot k_ml_M_174 k_im_M_isRoot k_se_M_isRoot k_in_M rfl rfl (by decide +kernel) ⟨Nat.le_of_ble_eq_true rfl, Nat.le_of_ble_eq_true rfl⟩ (yPv (yK_bl G) (yK_mv G) hK hK.1 hW (by omega) laym_0 rfl (by omega) (by omega)) rfl hl.1 rfl (Nat.le_of_ble_eq_true rfl) d_M_fault_32 ⟨Nat.zero_le _, Nat.zero_le _⟩) hS hAr (fun v32 τ32 H locs hp32 hk32 hW hS => ?_)
        have hv32 : v32 = b01 (rootM τ up (τ 9 j) nb) := hp32.1
        obtain ⟨r32, e_r32⟩ : ∃ r', τ32 = yr τ r' := ⟨τ32 27, yr_of hp32.2⟩
        subst e_r32
        by_cases hAq : rootM τ up (τ 9 j) nb
        · skip
          rw [hv32, b01_t hAq]
          refine y_if_ne (tgt := 41) hx hb d_M_fault_35 (by decide) ⟨by omega, by omega⟩ (fun hc11 => ?_) (fun hc11 => absurd hc11 (by decide))
          refine lv_aload_n hx hb d_M_fault_41 rfl (lv_at hl 1 rfl) ?_
          refine lv_iload_n hx hb d_M_fault_42 rfl (lv_at hl 0 rfl) ?_
          refine y_ci (y_runV (As := [.int (J (((j : Nat) : Int)))]) (rest := []) ⟨hx, hb, hml, hown, hts⟩ (c_M_proven l G z (yr τ r32) hTb j (by omega) (sk j) (sl j) d1 d2 d3 d4 d5 (hsv j (by omega)) d6 d7 d8 (hn2 j (by omega))) 1 k_co_M_proven k_ml_M_177 k_im_M_proven k_se_M_proven k_in_M rfl rfl (by decide +kernel) ⟨Nat.le_of_ble_eq_true rfl, Nat.le_of_ble_eq_true rfl⟩ (yPv (yK_bl G) (yK_mv G) hK hK.1 hW (by omega) laym_0 rfl (by omega) (by omega)) rfl hl.1 rfl (Nat.le_of_ble_eq_true rfl) d_M_fault_43 ⟨Nat.zero_le _, Nat.zero_le _⟩) hS hW (fun H locs hW hS => ?_)
          refine W.eq (g2 := F0 m 46 ls [.int (J (b01 (pth (sl j) (fun L => τ 11 (4 * j + L)) (cOf (τ 3 (sk j)) (τ 6 j) (τ 7 j)) 4 = τ 9 j ∧ τ 10 j = nOf (τ 3 (sk j)) (sl j : Int))))]) rfl ?_
          by_cases hprv : pth (sl j) (fun L => τ 11 (4 * j + L)) (cOf (τ 3 (sk j)) (τ 6 j) (τ 7 j)) 4 = τ 9 j ∧ τ 10 j = nOf (τ 3 (sk j)) (sl j : Int)
          · skip
            rw [b01_t hprv]
            refine y_if_ne (tgt := 52) hx hb d_M_fault_46 (by decide) ⟨by omega, by omega⟩ (fun hc12 => ?_) (fun hc12 => absurd hc12 (by decide))
            refine lv_aload_n hx hb d_M_fault_52 rfl (lv_at hl 1 rfl) ?_
            refine lv_aload_n hx hb d_M_fault_53 rfl (lv_at hl 1 rfl) ?_
            refine y_getr hx hb hA in_M hown hK.1 hW 0 (by omega) laym_0 rfl 11 (by decide) (hA _ k_fl_M_37) rfl d_M_fault_54 ?_
            refine lv_iload_n hx hb d_M_fault_57 rfl (lv_at hl 0 rfl) ?_
            refine y_iald hx hb hK.1 hW 10 (by omega) laym_10 rfl (by decide) j rfl (by omega) d_M_fault_58 ?_
            rw [yr_o (show 10 ≠ 27 by decide)]
            refine y_ci (y_runV (As := [.int (J (τ 10 j))]) (rest := []) ⟨hx, hb, hml, hown, hts⟩ (c_M_revealed l G z (yr τ r32) nb hnbr hnb (τ 10 j) n2j hsh) 1 k_co_M_revealed k_ml_M_150 k_im_M_revealed k_se_M_revealed k_in_M rfl rfl (by decide +kernel) ⟨Nat.le_of_ble_eq_true rfl, Nat.le_of_ble_eq_true rfl⟩ (yPv (yK_bl G) (yK_mv G) hK hK.1 hW (by omega) laym_0 rfl (by omega) (by omega)) rfl hl.1 rfl (Nat.le_of_ble_eq_true rfl) d_M_fault_59 ⟨Nat.zero_le _, Nat.zero_le _⟩) hS hW (fun H locs hW hS => ?_)
            refine W.eq (g2 := F0 m 62 ls [.int (J (b01 (revM τ (τ 10 j) (2 * nb))))]) rfl ?_
            by_cases hrv : revM τ (τ 10 j) (2 * nb)
            · skip
              rw [b01_t hrv]
              refine y_if_ne (tgt := 85) hx hb d_M_fault_62 (by decide) ⟨by omega, by omega⟩ (fun hc13 => ?_) (fun hc13 => absurd hc13 (by decide))
              refine lv_bipush (v := J (-5)) hx hb d_M_fault_85 (by decide) ?_
              exact y_retg hx hb hr hlocks hS hW (by have e := hJs.trans ((cif_f (p := mA τ up nb j) (fun h => h hAq)).trans ((cif_f (p := mB τ sk sl j) (fun h => h hprv)).trans (cif_t (p := mC τ nb j) (by first | exact Or.inl hrv | exact Or.inr ⟨0, by omega, by rw [show j = 1 by omega]; exact heq⟩)))); exact ⟨((cF_a h00 (by rw [e]; decide)).trans e).symm, fun d hd => yr_o hd⟩) d_M_fault_87
            · skip
              rw [b01_f hrv]
              refine y_if_ne (tgt := 85) hx hb d_M_fault_62 (by decide) ⟨by omega, by omega⟩ (fun hc14 => absurd hc14 (by decide)) (fun hc14 => ?_)
              refine lv_iload_n hx hb d_M_fault_65 rfl (lv_at hl 0 rfl) ?_
              refine lv_iconst (v := J (1)) hx hb d_M_fault_66 rfl ?_
              refine y_icmp_ne (tgt := 88) hx hb d_M_fault_67 (by decide) ⟨by omega, by omega⟩ ⟨by omega, by omega⟩ (fun hc15 => ?_) (fun hc15 => ?_)
              · skip
                refine lv_iinc (k := 0) (v := J (((j + 1 : Nat) : Int))) (lv' := [(1, .int (J (((j + 1 : Nat) : Int)))), (0, .ref (z + 0))]) hx hb d_M_fault_88 hl rfl (by rw [Int.natCast_add j 1]; exact J_add _ _) (by decide) rfl (fun ls hl => ?_)
                refine lv_goto (tgt := 17) hx hb d_M_fault_91 (by decide) ?_
                refine ih (j + 1) (by omega) r32 (hJs.trans ((cif_f (fun h => h hAq)).trans ((cif_f (fun h => h hprv)).trans (cif_f (fun h => ?_))))) ls H locs hW hS hl
                rcases h with h | ⟨i, h1, h2⟩
                · exact hrv h
                · first | omega | (have hj1 : j = 1 := (by omega); have hi0 : i = 0 := (by omega); rw [hi0, hj1] at h2; exact heq h2)
              · skip
                refine lv_aload_n hx hb d_M_fault_70 rfl (lv_at hl 1 rfl) ?_
                refine y_getr hx hb hA in_M hown hK.1 hW 0 (by omega) laym_0 rfl 11 (by decide) (hA _ k_fl_M_37) rfl d_M_fault_71 ?_
                refine lv_iconst (v := J (0)) hx hb d_M_fault_74 rfl ?_
                refine y_iald hx hb hK.1 hW 10 (by omega) laym_10 rfl (by decide) 0 rfl (by omega) d_M_fault_75 ?_
                rw [yr_o (show 10 ≠ 27 by decide)]
                refine lv_aload_n hx hb d_M_fault_76 rfl (lv_at hl 1 rfl) ?_
                refine y_getr hx hb hA in_M hown hK.1 hW 0 (by omega) laym_0 rfl 11 (by decide) (hA _ k_fl_M_37) rfl d_M_fault_77 ?_
                refine lv_iconst (v := J (1)) hx hb d_M_fault_80 rfl ?_
                refine y_iald hx hb hK.1 hW 10 (by omega) laym_10 rfl (by decide) 1 rfl (by omega) d_M_fault_81 ?_
                rw [yr_o (show 10 ≠ 27 by decide)]
                refine y_icmp_ne (tgt := 88) hx hb d_M_fault_82 (by decide) n20 n21 (fun heq => ?_) (fun heq => ?_)
                · skip
                  refine lv_iinc (k := 0) (v := J (((j + 1 : Nat) : Int))) (lv' := [(1, .int (J (((j + 1 : Nat) : Int)))), (0, .ref (z + 0))]) hx hb d_M_fault_88 hl rfl (by rw [Int.natCast_add j 1]; exact J_add _ _) (by decide) rfl (fun ls hl => ?_)
                  refine lv_goto (tgt := 17) hx hb d_M_fault_91 (by decide) ?_
                  refine ih (j + 1) (by omega) r32 (hJs.trans ((cif_f (fun h => h hAq)).trans ((cif_f (fun h => h hprv)).trans (cif_f (fun h => ?_))))) ls H locs hW hS hl
                  rcases h with h | ⟨i, h1, h2⟩
                  · exact hrv h
                  · first | omega | (have hj1 : j = 1 := (by omega); have hi0 : i = 0 := (by omega); rw [hi0, hj1] at h2; exact heq h2)
                · skip
                  refine lv_bipush (v := J (-5)) hx hb d_M_fault_85 (by decide) ?_
                  exact y_retg hx hb hr hlocks hS hW (by have e := hJs.trans ((cif_f (p := mA τ up nb j) (fun h => h hAq)).trans ((cif_f (p := mB τ sk sl j) (fun h => h hprv)).trans (cif_t (p := mC τ nb j) (by first | exact Or.inl hrv | exact Or.inr ⟨0, by omega, by rw [show j = 1 by omega]; exact heq⟩)))); exact ⟨((cF_a h00 (by rw [e]; decide)).trans e).symm, fun d hd => yr_o hd⟩) d_M_fault_87
          · skip
            rw [b01_f hprv]
            refine y_if_ne (tgt := 52) hx hb d_M_fault_46 (by decide) ⟨by omega, by omega⟩ (fun hc17 => absurd hc17 (by decide)) (fun hc17 => ?_)
            refine lv_bipush (v := J (-4)) hx hb d_M_fault_49 (by decide) ?_
            exact y_retg hx hb hr hlocks hS hW (by have e := hJs.trans ((cif_f (p := mA τ up nb j) (fun h => h hAq)).trans (cif_t (p := mB τ sk sl j) hprv)); exact ⟨((cF_a h00 (by rw [e]; decide)).trans e).symm, fun d hd => yr_o hd⟩) d_M_fault_51
        · skip
          rw [hv32, b01_f hAq]
          refine y_if_ne (tgt := 41) hx hb d_M_fault_35 (by decide) ⟨by omega, by omega⟩ (fun hc18 => absurd hc18 (by decide)) (fun hc18 => ?_)
          refine lv_bipush (v := J (-3)) hx hb d_M_fault_38 (by decide) ?_
          exact y_retg hx hb hr hlocks hS hW (by have e := hJs.trans (cif_t (p := mA τ up nb j) hAq); exact ⟨((cF_a h00 (by rw [e]; decide)).trans e).symm, fun d hd => yr_o hd⟩) d_M_fault_40
    exact loop17 ns 0 (by omega) (τ 27) rfl ls _ _ (by rw [yr_self]; exact hW) hS hl
  · skip
    refine lv_bipush (v := J (-2)) hx hb d_M_fault_12 (by decide) ?_
    exact y_retg hx hb hr hlocks hS hW ⟨(cF_2 (by omega)).symm, fun _ _ => rfl⟩ d_M_fault_14
