/-! The judging of a draft. -/
/-- the first of the draft's n spends at which a, b or c holds -/
noncomputable def jgo (a b c : Nat → Prop) (n : Nat) : Nat → Int
  | 0 => 0
  | k + 1 => cif (a (n - (k + 1))) (-3) (cif (b (n - (k + 1))) (-4) (cif (c (n - (k + 1))) (-5) (jgo a b c n k)))
theorem jgo_s {a b c : Nat → Prop} {n k j : Nat} (h : j + (k + 1) = n) : jgo a b c n (k + 1) = cif (a j) (-3) (cif (b j) (-4) (cif (c j) (-5) (jgo a b c n k))) := by
  have e : n - (k + 1) = j := by omega
  show cif (a (n - (k + 1))) (-3) (cif (b (n - (k + 1))) (-4) (cif (c (n - (k + 1))) (-5) (jgo a b c n k))) = _
  rw [e]
def jA (σ : yM) (nb : Nat) : Nat → Prop := fun j => ¬ hasR σ (σ (46 + 2 * j) 7) nb
def jB (σ : yM) (sa : Nat → Int) (spl : Nat → Nat) : Nat → Prop := fun j => ¬ (pth (spl j) (σ (46 + 2 * j + 1)) (cOf (sa j) (σ (46 + 2 * j) 3) (σ (46 + 2 * j) 4)) 4 = σ (46 + 2 * j) 7 ∧ σ (46 + 2 * j) 8 = nOf (sa j) (spl j : Int))
def jC (σ : yM) (sc : Nat → Nat) (nb : Nat) : Nat → Prop := fun j => revB σ sc (σ (46 + 2 * j) 8) nb ∨ ∃ i, i < j ∧ σ (46 + 2 * i) 8 = σ (46 + 2 * j) 8
/-- the leaves from f on are 0 -/
def lz (lf : Nat → Int) (f : Nat) : Nat → Int := fun i => if f ≤ i then 0 else lf i
theorem lz_u (lf : Nat → Int) (f : Nat) : lfu (lz lf (f + 1)) f 0 = lz lf f := by
  funext i
  unfold lfu lz
  by_cases h : i = f
  · subst h; simp
  · rw [if_neg h]
    by_cases h2 : f ≤ i
    · rw [if_pos h2, if_pos (by omega)]
    · rw [if_neg h2, if_neg (by omega)]
theorem lz_rng {lf : Nat → Int} (h : ∀ i, 0 ≤ lf i ∧ lf i < 10009) (f : Nat) : ∀ i, 0 ≤ lz lf f i ∧ lz lf f i < 10009 := by
  intro i
  unfold lz
  split
  · decide
  · exact h i

theorem d_P_lookAtLatestLeaf_0 : decode b_P_lookAtLatestLeaf 0 = .ok (.iconst 0, 1) := by decide +kernel
theorem d_P_lookAtLatestLeaf_1 : decode b_P_lookAtLatestLeaf 1 = .ok (.istore_n 1, 1) := by decide +kernel
theorem d_P_lookAtLatestLeaf_2 : decode b_P_lookAtLatestLeaf 2 = .ok (.iload_n 1, 1) := by decide +kernel
theorem d_P_lookAtLatestLeaf_3 : decode b_P_lookAtLatestLeaf 3 = .ok (.aload_n 0, 1) := by decide +kernel
theorem d_P_lookAtLatestLeaf_4 : decode b_P_lookAtLatestLeaf 4 = .ok (.getfield 52, 3) := by decide +kernel
theorem d_P_lookAtLatestLeaf_7 : decode b_P_lookAtLatestLeaf 7 = .ok (.if_icmp .ge 35, 3) := by decide +kernel
theorem d_P_lookAtLatestLeaf_10 : decode b_P_lookAtLatestLeaf 10 = .ok (.aload_n 0, 1) := by decide +kernel
theorem d_P_lookAtLatestLeaf_11 : decode b_P_lookAtLatestLeaf 11 = .ok (.getfield 47, 3) := by decide +kernel
theorem d_P_lookAtLatestLeaf_14 : decode b_P_lookAtLatestLeaf 14 = .ok (.iload_n 1, 1) := by decide +kernel
theorem d_P_lookAtLatestLeaf_15 : decode b_P_lookAtLatestLeaf 15 = .ok (.aaload, 1) := by decide +kernel
theorem d_P_lookAtLatestLeaf_16 : decode b_P_lookAtLatestLeaf 16 = .ok (.aload_n 0, 1) := by decide +kernel
theorem d_P_lookAtLatestLeaf_17 : decode b_P_lookAtLatestLeaf 17 = .ok (.getfield 10, 3) := by decide +kernel
theorem d_P_lookAtLatestLeaf_20 : decode b_P_lookAtLatestLeaf 20 = .ok (.aload_n 0, 1) := by decide +kernel
theorem d_P_lookAtLatestLeaf_21 : decode b_P_lookAtLatestLeaf 21 = .ok (.getfield 21, 3) := by decide +kernel
theorem d_P_lookAtLatestLeaf_24 : decode b_P_lookAtLatestLeaf 24 = .ok (.aload_n 0, 1) := by decide +kernel
theorem d_P_lookAtLatestLeaf_25 : decode b_P_lookAtLatestLeaf 25 = .ok (.getfield 21, 3) := by decide +kernel
theorem d_P_lookAtLatestLeaf_28 : decode b_P_lookAtLatestLeaf 28 = .ok (.getfield 64, 3) := by decide +kernel
theorem d_P_lookAtLatestLeaf_31 : decode b_P_lookAtLatestLeaf 31 = .ok (.iconst 1, 1) := by decide +kernel
theorem d_P_lookAtLatestLeaf_32 : decode b_P_lookAtLatestLeaf 32 = .ok (.isub, 1) := by decide +kernel
theorem d_P_lookAtLatestLeaf_33 : decode b_P_lookAtLatestLeaf 33 = .ok (.invokevirtual 67, 3) := by decide +kernel
theorem d_P_lookAtLatestLeaf_36 : decode b_P_lookAtLatestLeaf 36 = .ok (.iinc 1 1, 3) := by decide +kernel
theorem d_P_lookAtLatestLeaf_39 : decode b_P_lookAtLatestLeaf 39 = .ok (.goto (-37), 3) := by decide +kernel
theorem d_P_lookAtLatestLeaf_42 : decode b_P_lookAtLatestLeaf 42 = .ok (.return_, 1) := by decide +kernel
theorem d_P_judgeOutputs_0 : decode b_P_judgeOutputs 0 = .ok (.iconst 0, 1) := by decide +kernel
theorem d_P_judgeOutputs_1 : decode b_P_judgeOutputs 1 = .ok (.istore_n 1, 1) := by decide +kernel
theorem d_P_judgeOutputs_2 : decode b_P_judgeOutputs 2 = .ok (.iload_n 1, 1) := by decide +kernel
theorem d_P_judgeOutputs_3 : decode b_P_judgeOutputs 3 = .ok (.aload_n 0, 1) := by decide +kernel
theorem d_P_judgeOutputs_4 : decode b_P_judgeOutputs 4 = .ok (.getfield 41, 3) := by decide +kernel
theorem d_P_judgeOutputs_7 : decode b_P_judgeOutputs 7 = .ok (.getfield 97, 3) := by decide +kernel
theorem d_P_judgeOutputs_10 : decode b_P_judgeOutputs 10 = .ok (.if_icmp .ge 31, 3) := by decide +kernel
theorem d_P_judgeOutputs_13 : decode b_P_judgeOutputs 13 = .ok (.aload_n 0, 1) := by decide +kernel
theorem d_P_judgeOutputs_14 : decode b_P_judgeOutputs 14 = .ok (.getfield 41, 3) := by decide +kernel
theorem d_P_judgeOutputs_17 : decode b_P_judgeOutputs 17 = .ok (.getfield 100, 3) := by decide +kernel
theorem d_P_judgeOutputs_20 : decode b_P_judgeOutputs 20 = .ok (.iload_n 1, 1) := by decide +kernel
theorem d_P_judgeOutputs_21 : decode b_P_judgeOutputs 21 = .ok (.aaload, 1) := by decide +kernel
theorem d_P_judgeOutputs_22 : decode b_P_judgeOutputs 22 = .ok (.aload_n 0, 1) := by decide +kernel
theorem d_P_judgeOutputs_23 : decode b_P_judgeOutputs 23 = .ok (.getfield 10, 3) := by decide +kernel
theorem d_P_judgeOutputs_26 : decode b_P_judgeOutputs 26 = .ok (.invokevirtual 216, 3) := by decide +kernel
theorem d_P_judgeOutputs_29 : decode b_P_judgeOutputs 29 = .ok (.ifCond .ne 6, 3) := by decide +kernel
theorem d_P_judgeOutputs_32 : decode b_P_judgeOutputs 32 = .ok (.bipush (-4), 2) := by decide +kernel
theorem d_P_judgeOutputs_34 : decode b_P_judgeOutputs 34 = .ok (.ireturn, 1) := by decide +kernel
theorem d_P_judgeOutputs_35 : decode b_P_judgeOutputs 35 = .ok (.iinc 1 1, 3) := by decide +kernel
theorem d_P_judgeOutputs_38 : decode b_P_judgeOutputs 38 = .ok (.goto (-36), 3) := by decide +kernel
theorem d_P_judgeOutputs_41 : decode b_P_judgeOutputs 41 = .ok (.iconst 0, 1) := by decide +kernel
theorem d_P_judgeOutputs_42 : decode b_P_judgeOutputs 42 = .ok (.ireturn, 1) := by decide +kernel
theorem d_P_judgeWhole_0 : decode b_P_judgeWhole 0 = .ok (.aload_n 0, 1) := by decide +kernel
theorem d_P_judgeWhole_1 : decode b_P_judgeWhole 1 = .ok (.getfield 41, 3) := by decide +kernel
theorem d_P_judgeWhole_4 : decode b_P_judgeWhole 4 = .ok (.aload_n 0, 1) := by decide +kernel
theorem d_P_judgeWhole_5 : decode b_P_judgeWhole 5 = .ok (.getfield 10, 3) := by decide +kernel
theorem d_P_judgeWhole_8 : decode b_P_judgeWhole 8 = .ok (.invokevirtual 217, 3) := by decide +kernel
theorem d_P_judgeWhole_11 : decode b_P_judgeWhole 11 = .ok (.aload_n 0, 1) := by decide +kernel
theorem d_P_judgeWhole_12 : decode b_P_judgeWhole 12 = .ok (.getfield 10, 3) := by decide +kernel
theorem d_P_judgeWhole_15 : decode b_P_judgeWhole 15 = .ok (.getfield 221, 3) := by decide +kernel
theorem d_P_judgeWhole_18 : decode b_P_judgeWhole 18 = .ok (.aload_n 0, 1) := by decide +kernel
theorem d_P_judgeWhole_19 : decode b_P_judgeWhole 19 = .ok (.getfield 41, 3) := by decide +kernel
theorem d_P_judgeWhole_22 : decode b_P_judgeWhole 22 = .ok (.invokevirtual 225, 3) := by decide +kernel
theorem d_P_judgeWhole_25 : decode b_P_judgeWhole 25 = .ok (.invokevirtual 228, 3) := by decide +kernel
theorem d_P_judgeWhole_28 : decode b_P_judgeWhole 28 = .ok (.if_icmp .eq 6, 3) := by decide +kernel
theorem d_P_judgeWhole_31 : decode b_P_judgeWhole 31 = .ok (.bipush (-6), 2) := by decide +kernel
theorem d_P_judgeWhole_33 : decode b_P_judgeWhole 33 = .ok (.ireturn, 1) := by decide +kernel
theorem d_P_judgeWhole_34 : decode b_P_judgeWhole 34 = .ok (.aload_n 0, 1) := by decide +kernel
theorem d_P_judgeWhole_35 : decode b_P_judgeWhole 35 = .ok (.getfield 34, 3) := by decide +kernel
theorem d_P_judgeWhole_38 : decode b_P_judgeWhole 38 = .ok (.getfield 163, 3) := by decide +kernel
theorem d_P_judgeWhole_41 : decode b_P_judgeWhole 41 = .ok (.aload_n 0, 1) := by decide +kernel
theorem d_P_judgeWhole_42 : decode b_P_judgeWhole 42 = .ok (.getfield 41, 3) := by decide +kernel
theorem d_P_judgeWhole_45 : decode b_P_judgeWhole 45 = .ok (.getfield 116, 3) := by decide +kernel
theorem d_P_judgeWhole_48 : decode b_P_judgeWhole 48 = .ok (.isub, 1) := by decide +kernel
theorem d_P_judgeWhole_49 : decode b_P_judgeWhole 49 = .ok (.ifCond .ge 6, 3) := by decide +kernel
theorem d_P_judgeWhole_52 : decode b_P_judgeWhole 52 = .ok (.bipush (-7), 2) := by decide +kernel
theorem d_P_judgeWhole_54 : decode b_P_judgeWhole 54 = .ok (.ireturn, 1) := by decide +kernel
theorem d_P_judgeWhole_55 : decode b_P_judgeWhole 55 = .ok (.aload_n 0, 1) := by decide +kernel
theorem d_P_judgeWhole_56 : decode b_P_judgeWhole 56 = .ok (.getfield 34, 3) := by decide +kernel
theorem d_P_judgeWhole_59 : decode b_P_judgeWhole 59 = .ok (.getfield 147, 3) := by decide +kernel
theorem d_P_judgeWhole_62 : decode b_P_judgeWhole 62 = .ok (.bipush 12, 2) := by decide +kernel
theorem d_P_judgeWhole_64 : decode b_P_judgeWhole 64 = .ok (.if_icmp .eq 23, 3) := by decide +kernel
theorem d_P_judgeWhole_67 : decode b_P_judgeWhole 67 = .ok (.bipush 16, 2) := by decide +kernel
theorem d_P_judgeWhole_69 : decode b_P_judgeWhole 69 = .ok (.aload_n 0, 1) := by decide +kernel
theorem d_P_judgeWhole_70 : decode b_P_judgeWhole 70 = .ok (.getfield 21, 3) := by decide +kernel
theorem d_P_judgeWhole_73 : decode b_P_judgeWhole 73 = .ok (.getfield 64, 3) := by decide +kernel
theorem d_P_judgeWhole_76 : decode b_P_judgeWhole 76 = .ok (.isub, 1) := by decide +kernel
theorem d_P_judgeWhole_77 : decode b_P_judgeWhole 77 = .ok (.aload_n 0, 1) := by decide +kernel
theorem d_P_judgeWhole_78 : decode b_P_judgeWhole 78 = .ok (.getfield 41, 3) := by decide +kernel
theorem d_P_judgeWhole_81 : decode b_P_judgeWhole 81 = .ok (.getfield 97, 3) := by decide +kernel
theorem d_P_judgeWhole_84 : decode b_P_judgeWhole 84 = .ok (.if_icmp .ge 6, 3) := by decide +kernel
theorem d_P_judgeWhole_87 : decode b_P_judgeWhole 87 = .ok (.bipush (-8), 2) := by decide +kernel
theorem d_P_judgeWhole_89 : decode b_P_judgeWhole 89 = .ok (.ireturn, 1) := by decide +kernel
theorem d_P_judgeWhole_90 : decode b_P_judgeWhole 90 = .ok (.iconst 0, 1) := by decide +kernel
theorem d_P_judgeWhole_91 : decode b_P_judgeWhole 91 = .ok (.ireturn, 1) := by decide +kernel
theorem d_P_judgeSpends_0 : decode b_P_judgeSpends 0 = .ok (.iconst 0, 1) := by decide +kernel
theorem d_P_judgeSpends_1 : decode b_P_judgeSpends 1 = .ok (.istore_n 1, 1) := by decide +kernel
theorem d_P_judgeSpends_2 : decode b_P_judgeSpends 2 = .ok (.iload_n 1, 1) := by decide +kernel
theorem d_P_judgeSpends_3 : decode b_P_judgeSpends 3 = .ok (.aload_n 0, 1) := by decide +kernel
theorem d_P_judgeSpends_4 : decode b_P_judgeSpends 4 = .ok (.getfield 41, 3) := by decide +kernel
theorem d_P_judgeSpends_7 : decode b_P_judgeSpends 7 = .ok (.getfield 78, 3) := by decide +kernel
theorem d_P_judgeSpends_10 : decode b_P_judgeSpends 10 = .ok (.if_icmp .ge 78, 3) := by decide +kernel
theorem d_P_judgeSpends_13 : decode b_P_judgeSpends 13 = .ok (.aload_n 0, 1) := by decide +kernel
theorem d_P_judgeSpends_14 : decode b_P_judgeSpends 14 = .ok (.getfield 41, 3) := by decide +kernel
theorem d_P_judgeSpends_17 : decode b_P_judgeSpends 17 = .ok (.getfield 81, 3) := by decide +kernel
theorem d_P_judgeSpends_20 : decode b_P_judgeSpends 20 = .ok (.iload_n 1, 1) := by decide +kernel
theorem d_P_judgeSpends_21 : decode b_P_judgeSpends 21 = .ok (.aaload, 1) := by decide +kernel
theorem d_P_judgeSpends_22 : decode b_P_judgeSpends 22 = .ok (.astore_n 2, 1) := by decide +kernel
theorem d_P_judgeSpends_23 : decode b_P_judgeSpends 23 = .ok (.aload_n 0, 1) := by decide +kernel
theorem d_P_judgeSpends_24 : decode b_P_judgeSpends 24 = .ok (.getfield 34, 3) := by decide +kernel
theorem d_P_judgeSpends_27 : decode b_P_judgeSpends 27 = .ok (.aload_n 2, 1) := by decide +kernel
theorem d_P_judgeSpends_28 : decode b_P_judgeSpends 28 = .ok (.getfield 200, 3) := by decide +kernel
theorem d_P_judgeSpends_31 : decode b_P_judgeSpends 31 = .ok (.invokevirtual 203, 3) := by decide +kernel
theorem d_P_judgeSpends_34 : decode b_P_judgeSpends 34 = .ok (.ifCond .ne 6, 3) := by decide +kernel
theorem d_P_judgeSpends_37 : decode b_P_judgeSpends 37 = .ok (.bipush (-3), 2) := by decide +kernel
theorem d_P_judgeSpends_39 : decode b_P_judgeSpends 39 = .ok (.ireturn, 1) := by decide +kernel
theorem d_P_judgeSpends_40 : decode b_P_judgeSpends 40 = .ok (.aload_n 2, 1) := by decide +kernel
theorem d_P_judgeSpends_41 : decode b_P_judgeSpends 41 = .ok (.aload_n 0, 1) := by decide +kernel
theorem d_P_judgeSpends_42 : decode b_P_judgeSpends 42 = .ok (.getfield 10, 3) := by decide +kernel
theorem d_P_judgeSpends_45 : decode b_P_judgeSpends 45 = .ok (.invokevirtual 206, 3) := by decide +kernel
theorem d_P_judgeSpends_48 : decode b_P_judgeSpends 48 = .ok (.ifCond .ne 6, 3) := by decide +kernel
theorem d_P_judgeSpends_51 : decode b_P_judgeSpends 51 = .ok (.bipush (-4), 2) := by decide +kernel
theorem d_P_judgeSpends_53 : decode b_P_judgeSpends 53 = .ok (.ireturn, 1) := by decide +kernel
theorem d_P_judgeSpends_54 : decode b_P_judgeSpends 54 = .ok (.aload_n 0, 1) := by decide +kernel
theorem d_P_judgeSpends_55 : decode b_P_judgeSpends 55 = .ok (.getfield 34, 3) := by decide +kernel
theorem d_P_judgeSpends_58 : decode b_P_judgeSpends 58 = .ok (.aload_n 2, 1) := by decide +kernel
theorem d_P_judgeSpends_59 : decode b_P_judgeSpends 59 = .ok (.getfield 210, 3) := by decide +kernel
theorem d_P_judgeSpends_62 : decode b_P_judgeSpends 62 = .ok (.invokevirtual 166, 3) := by decide +kernel
theorem d_P_judgeSpends_65 : decode b_P_judgeSpends 65 = .ok (.ifCond .ne 14, 3) := by decide +kernel
theorem d_P_judgeSpends_68 : decode b_P_judgeSpends 68 = .ok (.aload_n 0, 1) := by decide +kernel
theorem d_P_judgeSpends_69 : decode b_P_judgeSpends 69 = .ok (.getfield 41, 3) := by decide +kernel
theorem d_P_judgeSpends_72 : decode b_P_judgeSpends 72 = .ok (.iload_n 1, 1) := by decide +kernel
theorem d_P_judgeSpends_73 : decode b_P_judgeSpends 73 = .ok (.invokevirtual 213, 3) := by decide +kernel
theorem d_P_judgeSpends_76 : decode b_P_judgeSpends 76 = .ok (.ifCond .eq 6, 3) := by decide +kernel
theorem d_P_judgeSpends_79 : decode b_P_judgeSpends 79 = .ok (.bipush (-5), 2) := by decide +kernel
theorem d_P_judgeSpends_81 : decode b_P_judgeSpends 81 = .ok (.ireturn, 1) := by decide +kernel
theorem d_P_judgeSpends_82 : decode b_P_judgeSpends 82 = .ok (.iinc 1 1, 3) := by decide +kernel
theorem d_P_judgeSpends_85 : decode b_P_judgeSpends 85 = .ok (.goto (-83), 3) := by decide +kernel
theorem d_P_judgeSpends_88 : decode b_P_judgeSpends 88 = .ok (.iconst 0, 1) := by decide +kernel
theorem d_P_judgeSpends_89 : decode b_P_judgeSpends 89 = .ok (.ireturn, 1) := by decide +kernel
theorem d_P_disconnect_0 : decode b_P_disconnect 0 = .ok (.aload_n 0, 1) := by decide +kernel
theorem d_P_disconnect_1 : decode b_P_disconnect 1 = .ok (.getfield 34, 3) := by decide +kernel
theorem d_P_disconnect_4 : decode b_P_disconnect 4 = .ok (.getfield 147, 3) := by decide +kernel
theorem d_P_disconnect_7 : decode b_P_disconnect 7 = .ok (.ifCond .ne 5, 3) := by decide +kernel
theorem d_P_disconnect_10 : decode b_P_disconnect 10 = .ok (.iconst (-1), 1) := by decide +kernel
theorem d_P_disconnect_11 : decode b_P_disconnect 11 = .ok (.ireturn, 1) := by decide +kernel
theorem d_P_disconnect_12 : decode b_P_disconnect 12 = .ok (.aload_n 0, 1) := by decide +kernel
theorem d_P_disconnect_13 : decode b_P_disconnect 13 = .ok (.getfield 34, 3) := by decide +kernel
theorem d_P_disconnect_16 : decode b_P_disconnect 16 = .ok (.invokevirtual 150, 3) := by decide +kernel
theorem d_P_disconnect_19 : decode b_P_disconnect 19 = .ok (.istore_n 1, 1) := by decide +kernel
theorem d_P_disconnect_20 : decode b_P_disconnect 20 = .ok (.iconst 0, 1) := by decide +kernel
theorem d_P_disconnect_21 : decode b_P_disconnect 21 = .ok (.istore_n 2, 1) := by decide +kernel
theorem d_P_disconnect_22 : decode b_P_disconnect 22 = .ok (.iload_n 2, 1) := by decide +kernel
theorem d_P_disconnect_23 : decode b_P_disconnect 23 = .ok (.iload_n 1, 1) := by decide +kernel
theorem d_P_disconnect_24 : decode b_P_disconnect 24 = .ok (.if_icmp .ge 16, 3) := by decide +kernel
theorem d_P_disconnect_27 : decode b_P_disconnect 27 = .ok (.aload_n 0, 1) := by decide +kernel
theorem d_P_disconnect_28 : decode b_P_disconnect 28 = .ok (.getfield 21, 3) := by decide +kernel
theorem d_P_disconnect_31 : decode b_P_disconnect 31 = .ok (.invokevirtual 153, 3) := by decide +kernel
theorem d_P_disconnect_34 : decode b_P_disconnect 34 = .ok (.iinc 2 1, 3) := by decide +kernel
theorem d_P_disconnect_37 : decode b_P_disconnect 37 = .ok (.goto (-15), 3) := by decide +kernel
theorem d_P_disconnect_40 : decode b_P_disconnect 40 = .ok (.aload_n 0, 1) := by decide +kernel
theorem d_P_disconnect_41 : decode b_P_disconnect 41 = .ok (.getfield 34, 3) := by decide +kernel
theorem d_P_disconnect_44 : decode b_P_disconnect 44 = .ok (.getfield 147, 3) := by decide +kernel
theorem d_P_disconnect_47 : decode b_P_disconnect 47 = .ok (.ireturn, 1) := by decide +kernel

set_option maxHeartbeats 4000000 in
set_option maxRecDepth 100000 in
theorem c_P_look (l : Launch) (G : yG) (z : Nat) (σ : yM) (nk : Nat) (hnk : nk ≤ 4) (hk0 : σ 0 5 = (nk : Int)) (hBs : yBs σ) (f : Nat) (hf : f < 16) (hfl : σ 12 5 = (f : Int) + 1) (sec : Nat → Nat) (hsec : ∀ k, k < nk → sec k < 2473 ∧ σ (53 + 5 * k) 0 = (sec k : Int) ∧ σ (53 + 5 * k) 1 = eE (sec k : Int)) (op : Int) (hop : σ 16 f = eE op) (hvr : 0 ≤ σ 14 f ∧ σ 14 f < 1000) (htr : 0 ≤ σ 15 f ∧ σ 15 f < 2473) (hlr : 0 ≤ σ 13 f ∧ σ 13 f < 10009) : Met l y_P_lookAtLatestLeaf (Cond.code y_P_lookAtLatestLeaf b_P_lookAtLatestLeaf 2 (Option.none : Option Jvm.ClassFile.FieldType) :: yT) ({ frames := 5, cells := 0, slots := 0, locals := 128 } : Room) (yP ycl G yLP 0 73 z σ (yK G) [.ref (z + 0)]) (yQh ycl G yLP 0 73 z (fun τ => (∀ d, (d < 53 ∨ ∃ k, d = 53 + 5 * k) → τ d = σ d) ∧ (∀ d j, j ≠ f → τ d j = σ d j) ∧ ∀ k, k < nk → kSee τ (53 + 5 * k) (sec k : Int) op (σ 14 f) (σ 15 f) (σ 13 f) f)) 0 0 (yA z 0 73) := by
  refine y_met (by decide +kernel) (Nat.le_of_ble_eq_true rfl) ?_
  intro p e s m below meth c ls hx hb hr hml hlocks hown hname hts hv hl
  have hA : ∀ w ∈ yT, w.before _ s = true := fun w h => hts w (List.mem_cons_of_mem _ h)
  have hl : lv_has ls 2 [(0, .ref (z + 0))] := hl
  obtain ⟨hW, hK⟩ := hv
  have hS : va_S (yA z 0 73) s.heap s.heap [] := va_S.rf
  have hAr : ∀ d, 0 ≤ d ∧ d < 0 + 73 → yA z 0 73 (z + d) := yA_all
  refine lv_iconst (v := J (0)) hx hb d_P_lookAtLatestLeaf_0 rfl ?_
  refine lv_istore_n (lv' := [(1, .int (J (0))), (0, .ref (z + 0))]) hx hb d_P_lookAtLatestLeaf_1 rfl hl (by decide) rfl (fun ls hl => ?_)
  have loop2 : ∀ (q9 j : Nat), j + q9 = nk → ∀ (τ : yM), (∀ d, (d < 53 ∨ ∃ k, d = 53 + 5 * k) → τ d = σ d) → (∀ d j, j ≠ f → τ d j = σ d j) → (∀ k, k < j → kSee τ (53 + 5 * k) (sec k : Int) op (σ 14 f) (σ 15 f) (σ 13 f) f) → ∀ (ls : Array Slot) (H : Heap) (locs : List Loc), yW ycl G yLP 0 73 z τ H → va_S (yA z 0 73) s.heap H locs → lv_has ls 2 [(1, .int (J (((j : Nat) : Int)))), (0, .ref (z + 0))] → W p l e ({ frames := 5, cells := 0, slots := 0, locals := 128 } : Room) s m ([.ref (z + 0)] : List Value).toArray below meth c H locs 0 0 (MQ below (yQh ycl G yLP 0 73 z (fun τ => (∀ d, (d < 53 ∨ ∃ k, d = 53 + 5 * k) → τ d = σ d) ∧ (∀ d j, j ≠ f → τ d j = σ d j) ∧ ∀ k, k < nk → kSee τ (53 + 5 * k) (sec k : Int) op (σ 14 f) (σ 15 f) (σ 13 f) f)) ([.ref (z + 0)] : List Value).toArray s 0 0 (yA z 0 73)) (F0 m 2 ls []) := by
    intro q9
    induction q9 with
    | zero =>
      intro j hjk τ hF hG hI ls H locs hW hS hl
      have hjN : nk = j := by omega
      subst hjN
      refine lv_iload_n hx hb d_P_lookAtLatestLeaf_2 rfl (lv_at hl 0 rfl) ?_
      refine lv_aload_n hx hb d_P_lookAtLatestLeaf_3 rfl (lv_at hl 1 rfl) ?_
      refine y_geti hx hb hA in_P hown hK.1 hW 0 (by omega) lay_0 rfl 5 (by decide) (hA _ k_fl_P_52) rfl d_P_lookAtLatestLeaf_4 ?_
      rw [hF 0 (Or.inl (by omega))]
      rw [hk0]
      refine y_icmp_ge (tgt := 42) hx hb d_P_lookAtLatestLeaf_7 (by decide) ⟨by omega, by omega⟩ ⟨by omega, by omega⟩ (fun hc1 => ?_) (fun hc1 => absurd hc1 (by omega))
      exact y_reth hx hb hr hlocks hS hW ⟨hF, hG, hI⟩ d_P_lookAtLatestLeaf_42
    | succ q9 ih =>
      intro j hjk τ hF hG hI ls H locs hW hS hl
      have g13 : τ 13 = σ 13 := hF 13 (Or.inl (by decide))
      have g14 : τ 14 = σ 14 := hF 14 (Or.inl (by decide))
      have g15 : τ 15 = σ 15 := hF 15 (Or.inl (by decide))
      have g16 : τ 16 = σ 16 := hF 16 (Or.inl (by decide))
      obtain ⟨hs1, hs2, hs3⟩ := hsec j (by omega)
      have gK : τ (53 + 5 * j) = σ (53 + 5 * j) := hF _ (Or.inr ⟨j, rfl⟩)
      refine lv_iload_n hx hb d_P_lookAtLatestLeaf_2 rfl (lv_at hl 0 rfl) ?_
      refine lv_aload_n hx hb d_P_lookAtLatestLeaf_3 rfl (lv_at hl 1 rfl) ?_
      refine y_geti hx hb hA in_P hown hK.1 hW 0 (by omega) lay_0 rfl 5 (by decide) (hA _ k_fl_P_52) rfl d_P_lookAtLatestLeaf_4 ?_
      rw [hF 0 (Or.inl (by omega))]
      rw [hk0]
      refine y_icmp_ge (tgt := 42) hx hb d_P_lookAtLatestLeaf_7 (by decide) ⟨by omega, by omega⟩ ⟨by omega, by omega⟩ (fun hc2 => absurd hc2 (by omega)) (fun hc2 => ?_)
      refine lv_aload_n hx hb d_P_lookAtLatestLeaf_10 rfl (lv_at hl 1 rfl) ?_
      refine y_getr hx hb hA in_P hown hK.1 hW 0 (by omega) lay_0 rfl 4 (by decide) (hA _ k_fl_P_47) rfl d_P_lookAtLatestLeaf_11 ?_
      refine lv_iload_n hx hb d_P_lookAtLatestLeaf_14 rfl (lv_at hl 0 rfl) ?_
      refine y_aald hx hb hK.1 hW 52 (by omega) lay_52 rfl (by decide) j rfl (by omega) d_P_lookAtLatestLeaf_15 ?_
      refine lv_aload_n hx hb d_P_lookAtLatestLeaf_16 rfl (lv_at hl 1 rfl) ?_
      refine y_getr hx hb hA in_P hown hK.1 hW 0 (by omega) lay_0 rfl 0 (by decide) (hA _ k_fl_P_10) rfl d_P_lookAtLatestLeaf_17 ?_
      refine lv_aload_n hx hb d_P_lookAtLatestLeaf_20 rfl (lv_at hl 1 rfl) ?_
      refine y_getr hx hb hA in_P hown hK.1 hW 0 (by omega) lay_0 rfl 1 (by decide) (hA _ k_fl_P_21) rfl d_P_lookAtLatestLeaf_21 ?_
      refine lv_aload_n hx hb d_P_lookAtLatestLeaf_24 rfl (lv_at hl 1 rfl) ?_
      refine y_getr hx hb hA in_P hown hK.1 hW 0 (by omega) lay_0 rfl 1 (by decide) (hA _ k_fl_P_21) rfl d_P_lookAtLatestLeaf_25 ?_
      refine y_geti hx hb hA in_Tree hown hK.1 hW 12 (by omega) lay_12 rfl 5 (by decide) (hA _ k_fl_P_64) rfl d_P_lookAtLatestLeaf_28 ?_
      rw [hF 12 (Or.inl (by omega))]
      refine lv_iconst (v := J (1)) hx hb d_P_lookAtLatestLeaf_31 rfl ?_
      refine y_isub hx hb d_P_lookAtLatestLeaf_32 ?_
      rw [hfl, show (f : Int) + 1 - 1 = (f : Int) by omega]
      refine y_ch (y_runV (As := [.ref (z + 1), .ref (z + 12), .int (J ((f : Int)))]) (rest := []) ⟨hx, hb, hml, hown, hts⟩ (c_Key_look l G z τ (yBs_to hBs (hF 3 (Or.inl (by omega))) (hF 5 (Or.inl (by omega))) (hF 7 (Or.inl (by omega))) (hF 9 (Or.inl (by omega))) (hF 11 (Or.inl (by omega)))) j (by omega) (sec j) hs1 (by rw [gK]; exact hs2) (by rw [gK]; exact hs3) f hf op (by rw [g16]; exact hop) (by rw [g14]; exact hvr) (by rw [g15]; exact htr) (by rw [g13]; exact hlr)) 3 k_co_Key_look k_ml_P_67 k_im_Key_look k_se_Key_look k_in_Key rfl rfl (by decide +kernel) ⟨Nat.le_of_ble_eq_true rfl, Nat.le_of_ble_eq_true rfl⟩ (yPv (yK_bl G) (yK_mv G) hK hK.1 hW (by omega) (lay_Key (n := j) (by omega)) rfl (by omega) (by omega)) rfl hl.1 rfl (Nat.le_of_ble_eq_true rfl) d_P_lookAtLatestLeaf_33 ⟨Nat.zero_le _, Nat.zero_le _⟩) hS hAr (fun τ33 H locs hp33 hk33 hW hS => ?_)
      refine lv_iinc (k := 0) (v := J (((j + 1 : Nat) : Int))) (lv' := [(1, .int (J (((j + 1 : Nat) : Int)))), (0, .ref (z + 0))]) hx hb d_P_lookAtLatestLeaf_36 hl rfl (by rw [Int.natCast_add j 1]; exact J_add _ _) (by decide) rfl (fun ls hl => ?_)
      refine lv_goto (tgt := 2) hx hb d_P_lookAtLatestLeaf_39 (by decide) ?_
      obtain ⟨u1, u2, u3, u4, u5, u6⟩ := hp33
      refine ih (j + 1) (by omega) _ (fun d hd => ?_) (fun d t ht => (u2 d t ht).trans (hG d t ht)) ?_ ls H locs hW hS hl
      · refine (u1 d ?_ ?_ ?_ ?_).trans (hF d hd) <;> (rcases hd with h | ⟨k, h⟩ <;> omega)
      · intro k hk
        by_cases e : k = j
        · subst e; unfold kSee; rw [u3, u4, u5, u6, g13, g14, g15]; exact ⟨rfl, rfl, rfl, rfl⟩
        · have hh := hI k (by omega)
          unfold kSee at hh ⊢
          rw [u1 (53 + 5 * k + 1) (by omega) (by omega) (by omega) (by omega), u1 (53 + 5 * k + 2) (by omega) (by omega) (by omega) (by omega), u1 (53 + 5 * k + 3) (by omega) (by omega) (by omega) (by omega), u1 (53 + 5 * k + 4) (by omega) (by omega) (by omega) (by omega)]
          exact hh
  exact loop2 nk 0 (by omega) _ (fun _ _ => rfl) (fun _ _ _ => rfl) (fun k h => absurd h (Nat.not_lt_zero k)) ls _ _ hW hS hl

set_option maxHeartbeats 4000000 in
set_option maxRecDepth 100000 in
theorem c_P_judgeOutputs (l : Launch) (G : yG) (z : Nat) (σ : yM) (hBs : yBs σ) (no : Nat) (hno : no ≤ 2) (ho : σ 43 3 = (no : Int)) (oa : Nat → Int) (hoa : ∀ j, j < no → σ (50 + j) 0 = eE (oa j) ∧ jr (σ (50 + j) 1) ∧ jr (σ (50 + j) 2) ∧ jr (σ (50 + j) 3)) : Met l y_P_judgeOutputs (Cond.code y_P_judgeOutputs b_P_judgeOutputs 2 (some .int) :: yT) ({ frames := 5, cells := 0, slots := 0, locals := 123 } : Room) (yP ycl G yLP 0 73 z σ (yK G) [.ref (z + 0)]) (yQi (cif (∃ j, j < no ∧ ¬ σ (50 + j) 3 = cOf (oa j) (σ (50 + j) 1) (σ (50 + j) 2)) (-4) 0)) 0 0 yN := by
  refine y_met (by decide +kernel) (Nat.le_of_ble_eq_true rfl) ?_
  intro p e s m below meth c ls hx hb hr hml hlocks hown hname hts hv hl
  have hA : ∀ w ∈ yT, w.before _ s = true := fun w h => hts w (List.mem_cons_of_mem _ h)
  have hl : lv_has ls 2 [(0, .ref (z + 0))] := hl
  obtain ⟨hW, hK⟩ := hv
  have hS : va_S yN s.heap s.heap [] := va_S.rf
  refine lv_iconst (v := J (0)) hx hb d_P_judgeOutputs_0 rfl ?_
  refine lv_istore_n (lv' := [(1, .int (J (0))), (0, .ref (z + 0))]) hx hb d_P_judgeOutputs_1 rfl hl (by decide) rfl (fun ls hl => ?_)
  have loop2 : ∀ (q9 j : Nat), j + q9 = no → (∀ t, t < j → σ (50 + t) 3 = cOf (oa t) (σ (50 + t) 1) (σ (50 + t) 2)) → ∀ (ls : Array Slot) (H : Heap) (locs : List Loc), yW ycl G yLP 0 73 z σ H → va_S yN s.heap H locs → lv_has ls 2 [(1, .int (J (((j : Nat) : Int)))), (0, .ref (z + 0))] → W p l e ({ frames := 5, cells := 0, slots := 0, locals := 123 } : Room) s m ([.ref (z + 0)] : List Value).toArray below meth c H locs 0 0 (MQ below (yQi (cif (∃ j, j < no ∧ ¬ σ (50 + j) 3 = cOf (oa j) (σ (50 + j) 1) (σ (50 + j) 2)) (-4) 0)) ([.ref (z + 0)] : List Value).toArray s 0 0 yN) (F0 m 2 ls []) := by
    intro q9
    induction q9 with
    | zero =>
      intro j hjk hI ls H locs hW hS hl
      have hjN : no = j := by omega
      subst hjN
      refine lv_iload_n hx hb d_P_judgeOutputs_2 rfl (lv_at hl 0 rfl) ?_
      refine lv_aload_n hx hb d_P_judgeOutputs_3 rfl (lv_at hl 1 rfl) ?_
      refine y_getr hx hb hA in_P hown hK.1 hW 0 (by omega) lay_0 rfl 3 (by decide) (hA _ k_fl_P_41) rfl d_P_judgeOutputs_4 ?_
      refine y_geti hx hb hA in_Draft hown hK.1 hW 43 (by omega) lay_43 rfl 3 (by decide) (hA _ k_fl_P_97) rfl d_P_judgeOutputs_7 ?_
      rw [ho]
      refine y_icmp_ge (tgt := 41) hx hb d_P_judgeOutputs_10 (by decide) ⟨by omega, by omega⟩ ⟨by omega, by omega⟩ (fun hc1 => ?_) (fun hc1 => absurd hc1 (by omega))
      refine lv_iconst (v := J (0)) hx hb d_P_judgeOutputs_41 rfl ?_
      exact y_reti hx hb hr hlocks hS (cif_f (fun ⟨t, h1, h2⟩ => h2 (hI t h1))).symm d_P_judgeOutputs_42
    | succ q9 ih =>
      intro j hjk hI ls H locs hW hS hl
      refine lv_iload_n hx hb d_P_judgeOutputs_2 rfl (lv_at hl 0 rfl) ?_
      refine lv_aload_n hx hb d_P_judgeOutputs_3 rfl (lv_at hl 1 rfl) ?_
      refine y_getr hx hb hA in_P hown hK.1 hW 0 (by omega) lay_0 rfl 3 (by decide) (hA _ k_fl_P_41) rfl d_P_judgeOutputs_4 ?_
      refine y_geti hx hb hA in_Draft hown hK.1 hW 43 (by omega) lay_43 rfl 3 (by decide) (hA _ k_fl_P_97) rfl d_P_judgeOutputs_7 ?_
      rw [ho]
      refine y_icmp_ge (tgt := 41) hx hb d_P_judgeOutputs_10 (by decide) ⟨by omega, by omega⟩ ⟨by omega, by omega⟩ (fun hc2 => absurd hc2 (by omega)) (fun hc2 => ?_)
      refine lv_aload_n hx hb d_P_judgeOutputs_13 rfl (lv_at hl 1 rfl) ?_
      refine y_getr hx hb hA in_P hown hK.1 hW 0 (by omega) lay_0 rfl 3 (by decide) (hA _ k_fl_P_41) rfl d_P_judgeOutputs_14 ?_
      refine y_getr hx hb hA in_Draft hown hK.1 hW 43 (by omega) lay_43 rfl 1 (by decide) (hA _ k_fl_P_100) rfl d_P_judgeOutputs_17 ?_
      refine lv_iload_n hx hb d_P_judgeOutputs_20 rfl (lv_at hl 0 rfl) ?_
      refine y_aald hx hb hK.1 hW 45 (by omega) lay_45 rfl (by decide) j rfl (by omega) d_P_judgeOutputs_21 ?_
      refine lv_aload_n hx hb d_P_judgeOutputs_22 rfl (lv_at hl 1 rfl) ?_
      refine y_getr hx hb hA in_P hown hK.1 hW 0 (by omega) lay_0 rfl 0 (by decide) (hA _ k_fl_P_10) rfl d_P_judgeOutputs_23 ?_
      refine y_ci (y_runV (As := [.ref (z + 1)]) (rest := []) ⟨hx, hb, hml, hown, hts⟩ (c_Output_isProven l G z σ hBs j (by omega) (oa j) (hoa j (by omega)).1 (hoa j (by omega)).2.1 (hoa j (by omega)).2.2.1 (hoa j (by omega)).2.2.2) 1 k_co_Output_isProven k_ml_P_216 k_im_Output_isProven k_se_Output_isProven k_in_Output rfl rfl (by decide +kernel) ⟨Nat.le_of_ble_eq_true rfl, Nat.le_of_ble_eq_true rfl⟩ (yPv (yK_bl G) (yK_mv G) hK hK.1 hW (by omega) (lay_Output (n := j) (by omega)) rfl (by omega) (by omega)) rfl hl.1 rfl (Nat.le_of_ble_eq_true rfl) d_P_judgeOutputs_26 ⟨Nat.zero_le _, Nat.zero_le _⟩) hS hW (fun H locs hW hS => ?_)
      by_cases hpv : σ (50 + j) 3 = cOf (oa j) (σ (50 + j) 1) (σ (50 + j) 2)
      · skip
        rw [show (if σ (50 + j) 3 = cOf (oa j) (σ (50 + j) 1) (σ (50 + j) 2) then (1 : Int) else 0) = 1 from if_pos hpv]
        refine y_if_ne (tgt := 35) hx hb d_P_judgeOutputs_29 (by decide) ⟨by omega, by omega⟩ (fun hc3 => ?_) (fun hc3 => absurd hc3 (by decide))
        refine lv_iinc (k := 0) (v := J (((j + 1 : Nat) : Int))) (lv' := [(1, .int (J (((j + 1 : Nat) : Int)))), (0, .ref (z + 0))]) hx hb d_P_judgeOutputs_35 hl rfl (by rw [Int.natCast_add j 1]; exact J_add _ _) (by decide) rfl (fun ls hl => ?_)
        refine lv_goto (tgt := 2) hx hb d_P_judgeOutputs_38 (by decide) ?_
        refine ih (j + 1) (by omega) (fun t ht => ?_) ls H locs hW hS hl
        by_cases e : t = j
        · subst e; exact hpv
        · exact hI t (by omega)
      · skip
        rw [show (if σ (50 + j) 3 = cOf (oa j) (σ (50 + j) 1) (σ (50 + j) 2) then (1 : Int) else 0) = 0 from if_neg hpv]
        refine y_if_ne (tgt := 35) hx hb d_P_judgeOutputs_29 (by decide) ⟨by omega, by omega⟩ (fun hc4 => absurd hc4 (by decide)) (fun hc4 => ?_)
        refine lv_bipush (v := J (-4)) hx hb d_P_judgeOutputs_32 (by decide) ?_
        exact y_reti hx hb hr hlocks hS (cif_t ⟨j, by omega, hpv⟩).symm d_P_judgeOutputs_34
  exact loop2 no 0 (by omega) (fun t h => absurd h (Nat.not_lt_zero t)) ls _ _ hW hS hl

set_option maxHeartbeats 4000000 in
set_option maxRecDepth 100000 in
theorem c_P_judgeWhole (l : Launch) (G : yG) (z : Nat) (σ : yM) (ns no : Nat) (hns : ns ≤ 2) (hno : no ≤ 2) (hs : σ 43 2 = (ns : Int)) (ho : σ 43 3 = (no : Int)) (ht : 0 ≤ σ 43 5 ∧ σ 43 5 < 2473) (hsw : ∀ j, j < ns → 0 ≤ σ (46 + 2 * j) 5 ∧ σ (46 + 2 * j) 5 ≤ 2472) (how : ∀ j, j < no → 0 ≤ σ (50 + j) 7 ∧ σ (50 + j) 7 ≤ 2472) (hBs : yBs σ) (b0 : Int) (hb0 : σ 43 4 = b0) (hb0r : -9999 ≤ b0 ∧ b0 ≤ 9999) (cs co : Nat → Int) (hcs : ∀ j, j < ns → σ (46 + 2 * j) 9 = eE (cs j)) (hco : ∀ j, j < no → σ (50 + j) 8 = eE (co j)) (hct : -200000 ≤ σ 17 3 ∧ σ 17 3 ≤ 200000) (nb : Nat) (hnbr : nb ≤ 12) (hnb : σ 17 2 = (nb : Int)) (fl : Nat) (hflr : fl ≤ 16) (hfl : σ 12 5 = (fl : Int)) : Met l y_P_judgeWhole (Cond.code y_P_judgeWhole b_P_judgeWhole 1 (some .int) :: yT) ({ frames := 4, cells := 0, slots := 0, locals := 101 } : Room) (yP ycl G yLP 0 73 z σ (yK G) [.ref (z + 0)]) (yQi (if (-(1281 * b0) + sm cs ns - sm co no) % 2473 = (1369 * ((σ 43 5 + sm (fun j => σ (46 + 2 * j) 5) ns - sm (fun j => σ (50 + j) 7) no) % 2473)) % 2473 then (if σ 17 3 - b0 < 0 then -7 else if nb = 12 ∨ (16 : Int) - (fl : Int) < (no : Int) then -8 else 0) else -6)) 0 0 yN := by
  refine y_met (by decide +kernel) (Nat.le_of_ble_eq_true rfl) ?_
  intro p e s m below meth c ls hx hb hr hml hlocks hown hname hts hv hl
  have hA : ∀ w ∈ yT, w.before _ s = true := fun w h => hts w (List.mem_cons_of_mem _ h)
  have hl : lv_has ls 1 [(0, .ref (z + 0))] := hl
  obtain ⟨hW, hK⟩ := hv
  have hS : va_S yN s.heap s.heap [] := va_S.rf
  refine lv_aload_n hx hb d_P_judgeWhole_0 rfl (lv_at hl 0 rfl) ?_
  refine y_getr hx hb hA in_P hown hK.1 hW 0 (by omega) lay_0 rfl 3 (by decide) (hA _ k_fl_P_41) rfl d_P_judgeWhole_1 ?_
  refine lv_aload_n hx hb d_P_judgeWhole_4 rfl (lv_at hl 0 rfl) ?_
  refine y_getr hx hb hA in_P hown hK.1 hW 0 (by omega) lay_0 rfl 0 (by decide) (hA _ k_fl_P_10) rfl d_P_judgeWhole_5 ?_
  refine y_ci (y_runV (As := [.ref (z + 1)]) (rest := []) ⟨hx, hb, hml, hown, hts⟩ (c_Draft_excess l G z σ ns no hns hno hs ho hBs b0 hb0 ⟨by omega, by omega⟩ cs co hcs hco) 1 k_co_Draft_excess k_ml_P_217 k_im_Draft_excess k_se_Draft_excess k_in_Draft rfl rfl (by decide +kernel) ⟨Nat.le_of_ble_eq_true rfl, Nat.le_of_ble_eq_true rfl⟩ (yPv (yK_bl G) (yK_mv G) hK hK.1 hW (by omega) lay_43 rfl (by omega) (by omega)) rfl hl.1 rfl (Nat.le_of_ble_eq_true rfl) d_P_judgeWhole_8 ⟨Nat.zero_le _, Nat.zero_le _⟩) hS hW (fun H locs hW hS => ?_)
  refine lv_aload_n hx hb d_P_judgeWhole_11 rfl (lv_at hl 0 rfl) ?_
  refine y_getr hx hb hA in_P hown hK.1 hW 0 (by omega) lay_0 rfl 0 (by decide) (hA _ k_fl_P_10) rfl d_P_judgeWhole_12 ?_
  refine y_getr hx hb hA in_Bases hown hK.1 hW 1 (by omega) lay_1 rfl 2 (by decide) (hA _ k_fl_P_221) rfl d_P_judgeWhole_15 ?_
  refine lv_aload_n hx hb d_P_judgeWhole_18 rfl (lv_at hl 0 rfl) ?_
  refine y_getr hx hb hA in_P hown hK.1 hW 0 (by omega) lay_0 rfl 3 (by decide) (hA _ k_fl_P_41) rfl d_P_judgeWhole_19 ?_
  refine y_ci (y_runV (As := []) (rest := [.ref (z + 6), .int (J (eE (-(1281 * b0) + sm cs ns - sm co no)))]) ⟨hx, hb, hml, hown, hts⟩ (c_Draft_sealScalar l G z σ ns no hns hno hs ho ht hsw how) 0 k_co_Draft_sealScalar k_ml_P_225 k_im_Draft_sealScalar k_se_Draft_sealScalar k_in_Draft rfl rfl (by decide +kernel) ⟨Nat.le_of_ble_eq_true rfl, Nat.le_of_ble_eq_true rfl⟩ (yPv (yK_bl G) (yK_mv G) hK hK.1 hW (by omega) lay_43 rfl (by omega) (by omega)) rfl hl.1 rfl (Nat.le_of_ble_eq_true rfl) d_P_judgeWhole_22 ⟨Nat.zero_le _, Nat.zero_le _⟩) hS hW (fun H locs hW hS => ?_)
  refine y_ci (y_runV (As := [.int (J ((σ 43 5 + sm (fun j => σ (46 + 2 * j) 5) ns - sm (fun j => σ (50 + j) 7) no) % 2473))]) (rest := [.int (J (eE (-(1281 * b0) + sm cs ns - sm co no)))]) ⟨hx, hb, hml, hown, hts⟩ (c_Base_times l G z σ 6 1369 lay_6 lay_7 (by decide) (fun b h => (hBs b h).2.2.1) ((σ 43 5 + sm (fun j => σ (46 + 2 * j) 5) ns - sm (fun j => σ (50 + j) 7) no) % 2473) ⟨by omega, by omega⟩) 1 k_co_Base_times k_ml_P_228 k_im_Base_times k_se_Base_times k_in_Base rfl rfl (by decide +kernel) ⟨Nat.le_of_ble_eq_true rfl, Nat.le_of_ble_eq_true rfl⟩ (yPv (yK_bl G) (yK_mv G) hK hK.1 hW (by omega) lay_6 rfl (by omega) (by omega)) rfl hl.1 rfl (Nat.le_of_ble_eq_true rfl) d_P_judgeWhole_25 ⟨Nat.zero_le _, Nat.zero_le _⟩) hS hW (fun H locs hW hS => ?_)
  have r1 := eE_rng (-(1281 * b0) + sm cs ns - sm co no)
  have r2 := eE_rng (1369 * ((σ 43 5 + sm (fun j => σ (46 + 2 * j) 5) ns - sm (fun j => σ (50 + j) 7) no) % 2473))
  refine y_icmp_eq (tgt := 34) hx hb d_P_judgeWhole_28 (by decide) ⟨by omega, by omega⟩ ⟨by omega, by omega⟩ (fun heq => ?_) (fun heq => ?_)
  · skip
    refine lv_aload_n hx hb d_P_judgeWhole_34 rfl (lv_at hl 0 rfl) ?_
    refine y_getr hx hb hA in_P hown hK.1 hW 0 (by omega) lay_0 rfl 2 (by decide) (hA _ k_fl_P_34) rfl d_P_judgeWhole_35 ?_
    refine y_geti hx hb hA in_Chain hown hK.1 hW 17 (by omega) lay_17 rfl 3 (by decide) (hA _ k_fl_P_163) rfl d_P_judgeWhole_38 ?_
    refine lv_aload_n hx hb d_P_judgeWhole_41 rfl (lv_at hl 0 rfl) ?_
    refine y_getr hx hb hA in_P hown hK.1 hW 0 (by omega) lay_0 rfl 3 (by decide) (hA _ k_fl_P_41) rfl d_P_judgeWhole_42 ?_
    refine y_geti hx hb hA in_Draft hown hK.1 hW 43 (by omega) lay_43 rfl 4 (by decide) (hA _ k_fl_P_116) rfl d_P_judgeWhole_45 ?_
    rw [hb0]
    refine y_isub hx hb d_P_judgeWhole_48 ?_
    refine y_if_ge (tgt := 55) hx hb d_P_judgeWhole_49 (by decide) ⟨by omega, by omega⟩ (fun hc2 => ?_) (fun hc2 => ?_)
    · skip
      refine lv_aload_n hx hb d_P_judgeWhole_55 rfl (lv_at hl 0 rfl) ?_
      refine y_getr hx hb hA in_P hown hK.1 hW 0 (by omega) lay_0 rfl 2 (by decide) (hA _ k_fl_P_34) rfl d_P_judgeWhole_56 ?_
      refine y_geti hx hb hA in_Chain hown hK.1 hW 17 (by omega) lay_17 rfl 2 (by decide) (hA _ k_fl_P_147) rfl d_P_judgeWhole_59 ?_
      rw [hnb]
      refine lv_bipush (v := J (12)) hx hb d_P_judgeWhole_62 (by decide) ?_
      refine y_icmp_eq (tgt := 87) hx hb d_P_judgeWhole_64 (by decide) ⟨by omega, by omega⟩ ⟨by omega, by omega⟩ (fun hc3 => ?_) (fun hc3 => ?_)
      · skip
        refine lv_bipush (v := J (-8)) hx hb d_P_judgeWhole_87 (by decide) ?_
        exact y_reti hx hb hr hlocks hS ((if_pos (eE_inj.mp heq)).trans ((if_neg (by omega)).trans (if_pos (by omega)))).symm d_P_judgeWhole_89
      · skip
        refine lv_bipush (v := J (16)) hx hb d_P_judgeWhole_67 (by decide) ?_
        refine lv_aload_n hx hb d_P_judgeWhole_69 rfl (lv_at hl 0 rfl) ?_
        refine y_getr hx hb hA in_P hown hK.1 hW 0 (by omega) lay_0 rfl 1 (by decide) (hA _ k_fl_P_21) rfl d_P_judgeWhole_70 ?_
        refine y_geti hx hb hA in_Tree hown hK.1 hW 12 (by omega) lay_12 rfl 5 (by decide) (hA _ k_fl_P_64) rfl d_P_judgeWhole_73 ?_
        rw [hfl]
        refine y_isub hx hb d_P_judgeWhole_76 ?_
        refine lv_aload_n hx hb d_P_judgeWhole_77 rfl (lv_at hl 0 rfl) ?_
        refine y_getr hx hb hA in_P hown hK.1 hW 0 (by omega) lay_0 rfl 3 (by decide) (hA _ k_fl_P_41) rfl d_P_judgeWhole_78 ?_
        refine y_geti hx hb hA in_Draft hown hK.1 hW 43 (by omega) lay_43 rfl 3 (by decide) (hA _ k_fl_P_97) rfl d_P_judgeWhole_81 ?_
        rw [ho]
        refine y_icmp_ge (tgt := 90) hx hb d_P_judgeWhole_84 (by decide) ⟨by omega, by omega⟩ ⟨by omega, by omega⟩ (fun hc4 => ?_) (fun hc4 => ?_)
        · skip
          refine lv_iconst (v := J (0)) hx hb d_P_judgeWhole_90 rfl ?_
          exact y_reti hx hb hr hlocks hS ((if_pos (eE_inj.mp heq)).trans ((if_neg (by omega)).trans (if_neg (by omega)))).symm d_P_judgeWhole_91
        · skip
          refine lv_bipush (v := J (-8)) hx hb d_P_judgeWhole_87 (by decide) ?_
          exact y_reti hx hb hr hlocks hS ((if_pos (eE_inj.mp heq)).trans ((if_neg (by omega)).trans (if_pos (by omega)))).symm d_P_judgeWhole_89
    · skip
      refine lv_bipush (v := J (-7)) hx hb d_P_judgeWhole_52 (by decide) ?_
      exact y_reti hx hb hr hlocks hS ((if_pos (eE_inj.mp heq)).trans ((if_pos (by omega)))).symm d_P_judgeWhole_54
  · skip
    refine lv_bipush (v := J (-6)) hx hb d_P_judgeWhole_31 (by decide) ?_
    exact y_reti hx hb hr hlocks hS (if_neg (fun h => heq (eE_inj.mpr h))).symm d_P_judgeWhole_33

set_option maxHeartbeats 4000000 in
set_option maxRecDepth 100000 in
theorem c_P_judgeSpends (l : Launch) (G : yG) (z : Nat) (σ : yM) (nb : Nat) (hnbr : nb ≤ 12) (hnb : σ 17 2 = (nb : Int)) (sc : Nat → Nat) (hsc : ∀ i, i < nb → sc i ≤ 2 ∧ σ (19 + 2 * i) 1 = (sc i : Int)) (hnr : ∀ i, i < nb → ∀ j, j < sc i → jr (σ (19 + 2 * i + 1) j)) (hemp : jr (σ 17 1)) (hrt : ∀ i, i < nb → jr (σ (19 + 2 * i) 4)) (hBs : yBs σ) (ns : Nat) (hns : ns ≤ 2) (hs : σ 43 2 = (ns : Int)) (hn2 : ∀ j, j < 2 → jr (σ (46 + 2 * j) 8)) (sa : Nat → Int) (spl : Nat → Nat) (hsd : ∀ j, j < ns → spl j < 16 ∧ σ (46 + 2 * j) 1 = eE (sa j) ∧ σ (46 + 2 * j) 0 = sa j ∧ jr (sa j) ∧ σ (46 + 2 * j) 2 = (spl j : Int) ∧ jr (σ (46 + 2 * j) 3) ∧ jr (σ (46 + 2 * j) 4) ∧ jr (σ (46 + 2 * j) 7) ∧ (∀ L, L < 4 → jr (σ (46 + 2 * j + 1) L)) ∧ jr (σ (46 + 2 * j) 8)) : Met l y_P_judgeSpends (Cond.code y_P_judgeSpends b_P_judgeSpends 3 (some .int) :: yT) ({ frames := 5, cells := 0, slots := 0, locals := 128 } : Room) (yP ycl G yLP 0 73 z σ (yK G) [.ref (z + 0)]) (yQi (jgo (jA σ nb) (jB σ sa spl) (jC σ sc nb) ns ns)) 0 0 yN := by
  refine y_met (by decide +kernel) (Nat.le_of_ble_eq_true rfl) ?_
  intro p e s m below meth c ls hx hb hr hml hlocks hown hname hts hv hl
  have hA : ∀ w ∈ yT, w.before _ s = true := fun w h => hts w (List.mem_cons_of_mem _ h)
  have hl : lv_has ls 3 [(0, .ref (z + 0))] := hl
  obtain ⟨hW, hK⟩ := hv
  have hS : va_S yN s.heap s.heap [] := va_S.rf
  refine lv_iconst (v := J (0)) hx hb d_P_judgeSpends_0 rfl ?_
  refine lv_istore_n (lv' := [(1, .int (J (0))), (0, .ref (z + 0))]) hx hb d_P_judgeSpends_1 rfl hl (by decide) rfl (fun ls hl => ?_)
  have loop2 : ∀ (q9 j : Nat), j + q9 = ns → jgo (jA σ nb) (jB σ sa spl) (jC σ sc nb) ns ns = jgo (jA σ nb) (jB σ sa spl) (jC σ sc nb) ns q9 → ∀ (ls : Array Slot) (H : Heap) (locs : List Loc), yW ycl G yLP 0 73 z σ H → va_S yN s.heap H locs → lv_has ls 3 [(1, .int (J (((j : Nat) : Int)))), (0, .ref (z + 0))] → W p l e ({ frames := 5, cells := 0, slots := 0, locals := 128 } : Room) s m ([.ref (z + 0)] : List Value).toArray below meth c H locs 0 0 (MQ below (yQi (jgo (jA σ nb) (jB σ sa spl) (jC σ sc nb) ns ns)) ([.ref (z + 0)] : List Value).toArray s 0 0 yN) (F0 m 2 ls []) := by
    intro q9
    induction q9 with
    | zero =>
      intro j hjk hV ls H locs hW hS hl
      have hjN : j = ns := by omega
      refine lv_iload_n hx hb d_P_judgeSpends_2 rfl (lv_at hl 0 rfl) ?_
      refine lv_aload_n hx hb d_P_judgeSpends_3 rfl (lv_at hl 1 rfl) ?_
      refine y_getr hx hb hA in_P hown hK.1 hW 0 (by omega) lay_0 rfl 3 (by decide) (hA _ k_fl_P_41) rfl d_P_judgeSpends_4 ?_
      refine y_geti hx hb hA in_Draft hown hK.1 hW 43 (by omega) lay_43 rfl 2 (by decide) (hA _ k_fl_P_78) rfl d_P_judgeSpends_7 ?_
      rw [hs]
      refine y_icmp_ge (tgt := 88) hx hb d_P_judgeSpends_10 (by decide) ⟨by omega, by omega⟩ ⟨by omega, by omega⟩ (fun hc1 => ?_) (fun hc1 => absurd hc1 (by omega))
      refine lv_iconst (v := J (0)) hx hb d_P_judgeSpends_88 rfl ?_
      exact y_reti hx hb hr hlocks hS hV.symm d_P_judgeSpends_89
    | succ q9 ih =>
      intro j hjk hV ls H locs hW hS hl
      obtain ⟨d1, d2, d3, d4, d5, d6, d7, d8, d9, d10⟩ := hsd j (by omega)
      replace hV := hV.trans (jgo_s hjk)
      refine lv_iload_n hx hb d_P_judgeSpends_2 rfl (lv_at hl 0 rfl) ?_
      refine lv_aload_n hx hb d_P_judgeSpends_3 rfl (lv_at hl 1 rfl) ?_
      refine y_getr hx hb hA in_P hown hK.1 hW 0 (by omega) lay_0 rfl 3 (by decide) (hA _ k_fl_P_41) rfl d_P_judgeSpends_4 ?_
      refine y_geti hx hb hA in_Draft hown hK.1 hW 43 (by omega) lay_43 rfl 2 (by decide) (hA _ k_fl_P_78) rfl d_P_judgeSpends_7 ?_
      rw [hs]
      refine y_icmp_ge (tgt := 88) hx hb d_P_judgeSpends_10 (by decide) ⟨by omega, by omega⟩ ⟨by omega, by omega⟩ (fun hc2 => absurd hc2 (by omega)) (fun hc2 => ?_)
      refine lv_aload_n hx hb d_P_judgeSpends_13 rfl (lv_at hl 1 rfl) ?_
      refine y_getr hx hb hA in_P hown hK.1 hW 0 (by omega) lay_0 rfl 3 (by decide) (hA _ k_fl_P_41) rfl d_P_judgeSpends_14 ?_
      refine y_getr hx hb hA in_Draft hown hK.1 hW 43 (by omega) lay_43 rfl 0 (by decide) (hA _ k_fl_P_81) rfl d_P_judgeSpends_17 ?_
      refine lv_iload_n hx hb d_P_judgeSpends_20 rfl (lv_at hl 0 rfl) ?_
      refine y_aald hx hb hK.1 hW 44 (by omega) lay_44 rfl (by decide) j rfl (by omega) d_P_judgeSpends_21 ?_
      refine lv_astore_n (lv' := [(2, .ref (z + (46 + 2 * j))), (1, .int (J (((j : Nat) : Int)))), (0, .ref (z + 0))]) hx hb d_P_judgeSpends_22 rfl hl (by decide) rfl (fun ls hl => ?_)
      refine lv_aload_n hx hb d_P_judgeSpends_23 rfl (lv_at hl 2 rfl) ?_
      refine y_getr hx hb hA in_P hown hK.1 hW 0 (by omega) lay_0 rfl 2 (by decide) (hA _ k_fl_P_34) rfl d_P_judgeSpends_24 ?_
      refine lv_aload_n hx hb d_P_judgeSpends_27 rfl (lv_at hl 0 rfl) ?_
      refine y_geti hx hb hA in_Spend hown hK.1 hW (46 + 2 * j) (by omega) (lay_Spend (n := j) (by omega)) rfl 7 (by decide) (hA _ k_fl_P_200) rfl d_P_judgeSpends_28 ?_
      refine y_ci (y_runV (As := [.int (J (σ (46 + 2 * j) 7))]) (rest := []) ⟨hx, hb, hml, hown, hts⟩ (c_Chain_hasRoot l G z σ nb hnbr hnb (σ (46 + 2 * j) 7) d8 hemp hrt) 1 k_co_Chain_hasRoot k_ml_P_203 k_im_Chain_hasRoot k_se_Chain_hasRoot k_in_Chain rfl rfl (by decide +kernel) ⟨Nat.le_of_ble_eq_true rfl, Nat.le_of_ble_eq_true rfl⟩ (yPv (yK_bl G) (yK_mv G) hK hK.1 hW (by omega) lay_17 rfl (by omega) (by omega)) rfl hl.1 rfl (Nat.le_of_ble_eq_true rfl) d_P_judgeSpends_31 ⟨Nat.zero_le _, Nat.zero_le _⟩) hS hW (fun H locs hW hS => ?_)
      by_cases hra : hasR σ (σ (46 + 2 * j) 7) nb
      · skip
        rw [b01_t hra]
        refine y_if_ne (tgt := 40) hx hb d_P_judgeSpends_34 (by decide) ⟨by omega, by omega⟩ (fun hc3 => ?_) (fun hc3 => absurd hc3 (by decide))
        refine lv_aload_n hx hb d_P_judgeSpends_40 rfl (lv_at hl 0 rfl) ?_
        refine lv_aload_n hx hb d_P_judgeSpends_41 rfl (lv_at hl 2 rfl) ?_
        refine y_getr hx hb hA in_P hown hK.1 hW 0 (by omega) lay_0 rfl 0 (by decide) (hA _ k_fl_P_10) rfl d_P_judgeSpends_42 ?_
        refine y_ci (y_runV (As := [.ref (z + 1)]) (rest := []) ⟨hx, hb, hml, hown, hts⟩ (c_Spend_isProven l G z σ hBs j (by omega) (spl j) d1 (sa j) (sa j) d2 d3 d4 d5 d6 d7 d9 d8 d10) 1 k_co_Spend_isProven k_ml_P_206 k_im_Spend_isProven k_se_Spend_isProven k_in_Spend rfl rfl (by decide +kernel) ⟨Nat.le_of_ble_eq_true rfl, Nat.le_of_ble_eq_true rfl⟩ (yPv (yK_bl G) (yK_mv G) hK hK.1 hW (by omega) (lay_Spend (n := j) (by omega)) rfl (by omega) (by omega)) rfl hl.1 rfl (Nat.le_of_ble_eq_true rfl) d_P_judgeSpends_45 ⟨Nat.zero_le _, Nat.zero_le _⟩) hS hW (fun H locs hW hS => ?_)
        by_cases hpr : pth (spl j) (σ (46 + 2 * j + 1)) (cOf (sa j) (σ (46 + 2 * j) 3) (σ (46 + 2 * j) 4)) 4 = σ (46 + 2 * j) 7 ∧ σ (46 + 2 * j) 8 = nOf (sa j) (spl j : Int)
        · skip
          rw [show (if pth (spl j) (σ (46 + 2 * j + 1)) (cOf (sa j) (σ (46 + 2 * j) 3) (σ (46 + 2 * j) 4)) 4 = σ (46 + 2 * j) 7 ∧ σ (46 + 2 * j) 8 = nOf (sa j) (spl j : Int) then (1 : Int) else 0) = 1 from if_pos hpr]
          refine y_if_ne (tgt := 54) hx hb d_P_judgeSpends_48 (by decide) ⟨by omega, by omega⟩ (fun hc4 => ?_) (fun hc4 => absurd hc4 (by decide))
          refine lv_aload_n hx hb d_P_judgeSpends_54 rfl (lv_at hl 2 rfl) ?_
          refine y_getr hx hb hA in_P hown hK.1 hW 0 (by omega) lay_0 rfl 2 (by decide) (hA _ k_fl_P_34) rfl d_P_judgeSpends_55 ?_
          refine lv_aload_n hx hb d_P_judgeSpends_58 rfl (lv_at hl 0 rfl) ?_
          refine y_geti hx hb hA in_Spend hown hK.1 hW (46 + 2 * j) (by omega) (lay_Spend (n := j) (by omega)) rfl 8 (by decide) (hA _ k_fl_P_210) rfl d_P_judgeSpends_59 ?_
          refine y_ci (y_runV (As := [.int (J (σ (46 + 2 * j) 8))]) (rest := []) ⟨hx, hb, hml, hown, hts⟩ (c_Chain_reveals l G z σ nb hnbr hnb sc hsc (σ (46 + 2 * j) 8) d10 hnr) 1 k_co_Chain_reveals k_ml_P_166 k_im_Chain_reveals k_se_Chain_reveals k_in_Chain rfl rfl (by decide +kernel) ⟨Nat.le_of_ble_eq_true rfl, Nat.le_of_ble_eq_true rfl⟩ (yPv (yK_bl G) (yK_mv G) hK hK.1 hW (by omega) lay_17 rfl (by omega) (by omega)) rfl hl.1 rfl (Nat.le_of_ble_eq_true rfl) d_P_judgeSpends_62 ⟨Nat.zero_le _, Nat.zero_le _⟩) hS hW (fun H locs hW hS => ?_)
          by_cases hrv : revB σ sc (σ (46 + 2 * j) 8) nb
          · skip
            rw [b01_t hrv]
            refine y_if_ne (tgt := 79) hx hb d_P_judgeSpends_65 (by decide) ⟨by omega, by omega⟩ (fun hc5 => ?_) (fun hc5 => absurd hc5 (by decide))
            refine lv_bipush (v := J (-5)) hx hb d_P_judgeSpends_79 (by decide) ?_
            exact y_reti hx hb hr hlocks hS (hV.trans ((cif_f (fun h => h hra)).trans ((cif_f (fun h => h hpr)).trans (cif_t (by first | exact Or.inl hrv | exact Or.inr hrn))))).symm d_P_judgeSpends_81
          · skip
            rw [b01_f hrv]
            refine y_if_ne (tgt := 79) hx hb d_P_judgeSpends_65 (by decide) ⟨by omega, by omega⟩ (fun hc6 => absurd hc6 (by decide)) (fun hc6 => ?_)
            refine lv_aload_n hx hb d_P_judgeSpends_68 rfl (lv_at hl 2 rfl) ?_
            refine y_getr hx hb hA in_P hown hK.1 hW 0 (by omega) lay_0 rfl 3 (by decide) (hA _ k_fl_P_41) rfl d_P_judgeSpends_69 ?_
            refine lv_iload_n hx hb d_P_judgeSpends_72 rfl (lv_at hl 1 rfl) ?_
            refine y_ci (y_runV (As := [.int (J (((j : Nat) : Int)))]) (rest := []) ⟨hx, hb, hml, hown, hts⟩ (c_Draft_repeatsNullifier l G z σ j (by omega) hn2) 1 k_co_Draft_repeatsNullifier k_ml_P_213 k_im_Draft_repeatsNullifier k_se_Draft_repeatsNullifier k_in_Draft rfl rfl (by decide +kernel) ⟨Nat.le_of_ble_eq_true rfl, Nat.le_of_ble_eq_true rfl⟩ (yPv (yK_bl G) (yK_mv G) hK hK.1 hW (by omega) lay_43 rfl (by omega) (by omega)) rfl hl.1 rfl (Nat.le_of_ble_eq_true rfl) d_P_judgeSpends_73 ⟨Nat.zero_le _, Nat.zero_le _⟩) hS hW (fun H locs hW hS => ?_)
            by_cases hrn : ∃ t, t < j ∧ σ (46 + 2 * t) 8 = σ (46 + 2 * j) 8
            · skip
              rw [show (if ∃ t, t < j ∧ σ (46 + 2 * t) 8 = σ (46 + 2 * j) 8 then (1 : Int) else 0) = 1 from if_pos hrn]
              refine y_if_eq (tgt := 82) hx hb d_P_judgeSpends_76 (by decide) ⟨by omega, by omega⟩ (fun hc7 => absurd hc7 (by decide)) (fun hc7 => ?_)
              refine lv_bipush (v := J (-5)) hx hb d_P_judgeSpends_79 (by decide) ?_
              exact y_reti hx hb hr hlocks hS (hV.trans ((cif_f (fun h => h hra)).trans ((cif_f (fun h => h hpr)).trans (cif_t (by first | exact Or.inl hrv | exact Or.inr hrn))))).symm d_P_judgeSpends_81
            · skip
              rw [show (if ∃ t, t < j ∧ σ (46 + 2 * t) 8 = σ (46 + 2 * j) 8 then (1 : Int) else 0) = 0 from if_neg hrn]
              refine y_if_eq (tgt := 82) hx hb d_P_judgeSpends_76 (by decide) ⟨by omega, by omega⟩ (fun hc8 => ?_) (fun hc8 => absurd hc8 (by decide))
              refine lv_iinc (k := 1) (v := J (((j + 1 : Nat) : Int))) (lv' := [(1, .int (J (((j + 1 : Nat) : Int)))), (2, .ref (z + (46 + 2 * j))), (0, .ref (z + 0))]) hx hb d_P_judgeSpends_82 hl rfl (by rw [Int.natCast_add j 1]; exact J_add _ _) (by decide) rfl (fun ls hl => ?_)
              refine lv_goto (tgt := 2) hx hb d_P_judgeSpends_85 (by decide) ?_
              refine ih (j + 1) (by omega) (hV.trans ((cif_f (fun h => h hra)).trans ((cif_f (fun h => h hpr)).trans (cif_f (fun h => h.elim hrv hrn))))) ls H locs hW hS ?_
              exact lv_sub hl [0, 2] rfl
        · skip
          rw [show (if pth (spl j) (σ (46 + 2 * j + 1)) (cOf (sa j) (σ (46 + 2 * j) 3) (σ (46 + 2 * j) 4)) 4 = σ (46 + 2 * j) 7 ∧ σ (46 + 2 * j) 8 = nOf (sa j) (spl j : Int) then (1 : Int) else 0) = 0 from if_neg hpr]
          refine y_if_ne (tgt := 54) hx hb d_P_judgeSpends_48 (by decide) ⟨by omega, by omega⟩ (fun hc9 => absurd hc9 (by decide)) (fun hc9 => ?_)
          refine lv_bipush (v := J (-4)) hx hb d_P_judgeSpends_51 (by decide) ?_
          exact y_reti hx hb hr hlocks hS (hV.trans ((cif_f (fun h => h hra)).trans (cif_t hpr))).symm d_P_judgeSpends_53
      · skip
        rw [b01_f hra]
        refine y_if_ne (tgt := 40) hx hb d_P_judgeSpends_34 (by decide) ⟨by omega, by omega⟩ (fun hc10 => absurd hc10 (by decide)) (fun hc10 => ?_)
        refine lv_bipush (v := J (-3)) hx hb d_P_judgeSpends_37 (by decide) ?_
        exact y_reti hx hb hr hlocks hS (hV.trans (cif_t hra)).symm d_P_judgeSpends_39
  exact loop2 ns 0 (by omega) rfl ls _ _ hW hS hl

set_option maxHeartbeats 4000000 in
set_option maxRecDepth 100000 in
theorem c_P_disconnect (l : Launch) (G : yG) (z : Nat) (σ : yM) (hBs : yBs σ) (nb : Nat) (hnbr : nb ≤ 12) (hnb : σ 17 2 = (nb : Int)) (fl : Nat) (hflr : fl ≤ 16) (hfl : σ 12 5 = (fl : Int)) (lf : Nat → Int) (hlf : ∀ i, 0 ≤ lf i ∧ lf i < 10009) (hT : yTr σ (lz lf fl)) (oc : Nat → Nat) (hoc : ∀ b, b < nb → σ (19 + 2 * b) 2 = (oc b : Int) ∧ oc b ≤ fl) : Met l y_P_disconnect (Cond.code y_P_disconnect b_P_disconnect 3 (some .int) :: yT) ({ frames := 6, cells := 0, slots := 0, locals := 148 } : Room) (yP ycl G yLP 0 73 z σ (yK G) [.ref (z + 0)]) (yQg ycl G yLP 0 73 z (fun v τ => (nb = 0 → v = -1 ∧ τ = σ) ∧ ∀ m, nb = m + 1 → v = (m : Int) ∧ (∀ d, d ≠ 12 → d ≠ 13 → d ≠ 17 → τ d = σ d) ∧ τ 12 5 = ((fl - oc m : Nat) : Int) ∧ yTr τ (lz lf (fl - oc m)) ∧ τ 17 1 = σ 17 1 ∧ τ 17 2 = (m : Int) ∧ τ 17 3 = σ 17 3 + σ (19 + 2 * m) 3)) 0 0 (yA z 0 73) := by
  refine y_met (by decide +kernel) (Nat.le_of_ble_eq_true rfl) ?_
  intro p e s m below meth c ls hx hb hr hml hlocks hown hname hts hv hl
  have hA : ∀ w ∈ yT, w.before _ s = true := fun w h => hts w (List.mem_cons_of_mem _ h)
  have hl : lv_has ls 3 [(0, .ref (z + 0))] := hl
  obtain ⟨hW, hK⟩ := hv
  have hS : va_S (yA z 0 73) s.heap s.heap [] := va_S.rf
  have hAr : ∀ d, 0 ≤ d ∧ d < 0 + 73 → yA z 0 73 (z + d) := yA_all
  refine lv_aload_n hx hb d_P_disconnect_0 rfl (lv_at hl 0 rfl) ?_
  refine y_getr hx hb hA in_P hown hK.1 hW 0 (by omega) lay_0 rfl 2 (by decide) (hA _ k_fl_P_34) rfl d_P_disconnect_1 ?_
  refine y_geti hx hb hA in_Chain hown hK.1 hW 17 (by omega) lay_17 rfl 2 (by decide) (hA _ k_fl_P_147) rfl d_P_disconnect_4 ?_
  rw [hnb]
  refine y_if_ne (tgt := 12) hx hb d_P_disconnect_7 (by decide) ⟨by omega, by omega⟩ (fun hc1 => ?_) (fun hc1 => ?_)
  · skip
    obtain ⟨m9, e_m9⟩ : ∃ q : Nat, nb = q + 1 := ⟨nb - 1, by omega⟩
    obtain ⟨ho1, ho2⟩ := hoc m9 (by omega)
    refine lv_aload_n hx hb d_P_disconnect_12 rfl (lv_at hl 0 rfl) ?_
    refine y_getr hx hb hA in_P hown hK.1 hW 0 (by omega) lay_0 rfl 2 (by decide) (hA _ k_fl_P_34) rfl d_P_disconnect_13 ?_
    refine y_cg (y_runV (As := []) (rest := []) ⟨hx, hb, hml, hown, hts⟩ (c_Chain_removeLatest l G z σ m9 (by omega) (by rw [hnb, e_m9]; omega)) 0 k_co_Chain_removeLatest k_ml_P_150 k_im_Chain_removeLatest k_se_Chain_removeLatest k_in_Chain rfl rfl (by decide +kernel) ⟨Nat.le_of_ble_eq_true rfl, Nat.le_of_ble_eq_true rfl⟩ (yPv (yK_bl G) (yK_mv G) hK hK.1 hW (by omega) lay_17 rfl (by omega) (by omega)) rfl hl.1 rfl (Nat.le_of_ble_eq_true rfl) d_P_disconnect_16 ⟨Nat.zero_le _, Nat.zero_le _⟩) hS hAr (fun v16 τ16 H locs hp16 hk16 hW hS => ?_)
    rw [hp16.1, ho1]
    refine lv_istore_n (lv' := [(1, .int (J ((oc m9 : Int)))), (0, .ref (z + 0))]) hx hb d_P_disconnect_19 rfl hl (by decide) rfl (fun ls hl => ?_)
    refine lv_iconst (v := J (0)) hx hb d_P_disconnect_20 rfl ?_
    refine lv_istore_n (lv' := [(2, .int (J (0))), (1, .int (J ((oc m9 : Int)))), (0, .ref (z + 0))]) hx hb d_P_disconnect_21 rfl hl (by decide) rfl (fun ls hl => ?_)
    have loop22 : ∀ (q9 j : Nat), j + q9 = oc m9 → ∀ (τ : yM), (∀ d, d ≠ 12 → d ≠ 13 → τ d = τ16 d) → τ 12 5 = ((fl - j : Nat) : Int) → yTr τ (lz lf (fl - j)) → ∀ (ls : Array Slot) (H : Heap) (locs : List Loc), yW ycl G yLP 0 73 z τ H → va_S (yA z 0 73) s.heap H locs → lv_has ls 3 [(2, .int (J (((j : Nat) : Int)))), (1, .int (J ((oc m9 : Int)))), (0, .ref (z + 0))] → W p l e ({ frames := 6, cells := 0, slots := 0, locals := 148 } : Room) s m ([.ref (z + 0)] : List Value).toArray below meth c H locs 0 0 (MQ below (yQg ycl G yLP 0 73 z (fun v τ => (nb = 0 → v = -1 ∧ τ = σ) ∧ ∀ m, nb = m + 1 → v = (m : Int) ∧ (∀ d, d ≠ 12 → d ≠ 13 → d ≠ 17 → τ d = σ d) ∧ τ 12 5 = ((fl - oc m : Nat) : Int) ∧ yTr τ (lz lf (fl - oc m)) ∧ τ 17 1 = σ 17 1 ∧ τ 17 2 = (m : Int) ∧ τ 17 3 = σ 17 3 + σ (19 + 2 * m) 3)) ([.ref (z + 0)] : List Value).toArray s 0 0 (yA z 0 73)) (F0 m 22 ls []) := by
      intro q9
      induction q9 with
      | zero =>
        intro j hjk τ hF hfj hTj ls H locs hW hS hl
        have hjN : j = oc m9 := by omega
        subst hjN
        refine lv_iload_n hx hb d_P_disconnect_22 rfl (lv_at hl 0 rfl) ?_
        refine lv_iload_n hx hb d_P_disconnect_23 rfl (lv_at hl 1 rfl) ?_
        refine y_icmp_ge (tgt := 40) hx hb d_P_disconnect_24 (by decide) ⟨by omega, by omega⟩ ⟨by omega, by omega⟩ (fun hc2 => ?_) (fun hc2 => absurd hc2 (by omega))
        refine lv_aload_n hx hb d_P_disconnect_40 rfl (lv_at hl 2 rfl) ?_
        refine y_getr hx hb hA in_P hown hK.1 hW 0 (by omega) lay_0 rfl 2 (by decide) (hA _ k_fl_P_34) rfl d_P_disconnect_41 ?_
        refine y_geti hx hb hA in_Chain hown hK.1 hW 17 (by omega) lay_17 rfl 2 (by decide) (hA _ k_fl_P_147) rfl d_P_disconnect_44 ?_
        rw [hF 17 (by omega) (by omega)]
        rw [hp16.2.2.2.1]
        exact y_retg hx hb hr hlocks hS hW ⟨fun h => absurd h (by omega), fun m h => by obtain rfl : m = m9 := (by omega); exact ⟨rfl, fun d h1 h2 h3 => (hF d h1 h2).trans (hp16.2.1 d h3), hfj, hTj, by rw [hF 17 (by decide) (by decide)]; exact hp16.2.2.1, by rw [hF 17 (by decide) (by decide)]; exact hp16.2.2.2.1, by rw [hF 17 (by decide) (by decide)]; exact hp16.2.2.2.2⟩⟩ d_P_disconnect_47
      | succ q9 ih =>
        intro j hjk τ hF hfj hTj ls H locs hW hS hl
        have gf : τ 12 5 = ((fl - (j + 1) : Nat) : Int) + 1 := by rw [hfj]; omega
        refine lv_iload_n hx hb d_P_disconnect_22 rfl (lv_at hl 0 rfl) ?_
        refine lv_iload_n hx hb d_P_disconnect_23 rfl (lv_at hl 1 rfl) ?_
        refine y_icmp_ge (tgt := 40) hx hb d_P_disconnect_24 (by decide) ⟨by omega, by omega⟩ ⟨by omega, by omega⟩ (fun hc3 => absurd hc3 (by omega)) (fun hc3 => ?_)
        refine lv_aload_n hx hb d_P_disconnect_27 rfl (lv_at hl 2 rfl) ?_
        refine y_getr hx hb hA in_P hown hK.1 hW 0 (by omega) lay_0 rfl 1 (by decide) (hA _ k_fl_P_21) rfl d_P_disconnect_28 ?_
        refine y_ch (y_runV (As := []) (rest := []) ⟨hx, hb, hml, hown, hts⟩ (c_Tree_removeLatest l G z τ (yBs_to (yBs_to hBs (hp16.2.1 3 (by omega)) (hp16.2.1 5 (by omega)) (hp16.2.1 7 (by omega)) (hp16.2.1 9 (by omega)) (hp16.2.1 11 (by omega))) (hF 3 (by omega) (by omega)) (hF 5 (by omega) (by omega)) (hF 7 (by omega) (by omega)) (hF 9 (by omega) (by omega)) (hF 11 (by omega) (by omega))) (lz lf (fl - j)) hTj (lz_rng hlf _) (fl - (j + 1)) (by omega) gf) 0 k_co_Tree_removeLatest k_ml_P_153 k_im_Tree_removeLatest k_se_Tree_removeLatest k_in_Tree rfl rfl (by decide +kernel) ⟨Nat.le_of_ble_eq_true rfl, Nat.le_of_ble_eq_true rfl⟩ (yPv (yK_bl G) (yK_mv G) hK hK.1 hW (by omega) lay_12 rfl (by omega) (by omega)) rfl hl.1 rfl (Nat.le_of_ble_eq_true rfl) d_P_disconnect_31 ⟨Nat.zero_le _, Nat.zero_le _⟩) hS hAr (fun τ31 H locs hp31 hk31 hW hS => ?_)
        refine lv_iinc (k := 0) (v := J (((j + 1 : Nat) : Int))) (lv' := [(2, .int (J (((j + 1 : Nat) : Int)))), (1, .int (J ((oc m9 : Int)))), (0, .ref (z + 0))]) hx hb d_P_disconnect_34 hl rfl (by rw [Int.natCast_add j 1]; exact J_add _ _) (by decide) rfl (fun ls hl => ?_)
        refine lv_goto (tgt := 22) hx hb d_P_disconnect_37 (by decide) ?_
        refine ih (j + 1) (by omega) _ (fun d h1 h2 => (hp31.1 d h1 h2).trans (hF d h1 h2)) hp31.2.1 ?_ ls H locs hW hS hl
        have hh := hp31.2.2
        rw [show fl - j = fl - (j + 1) + 1 by omega, lz_u] at hh
        exact hh
    exact loop22 (oc m9) 0 (by omega) _ (fun _ _ _ => rfl) (by rw [hp16.2.1 12 (by omega), hfl]; rfl) (fun L k h1 h2 => by rw [hp16.2.1 13 (by omega)]; exact hT L k h1 h2) ls _ _ hW hS hl
  · skip
    refine lv_iconst (v := J (-1)) hx hb d_P_disconnect_10 rfl ?_
    exact y_retg hx hb hr hlocks hS hW ⟨fun _ => ⟨rfl, rfl⟩, fun m h => absurd h (by omega)⟩ d_P_disconnect_11
