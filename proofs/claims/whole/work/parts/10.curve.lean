theorem j_tmod_sgn {a d : Int} (hd : 0 < d) : (0 ≤ a → 0 ≤ a.tmod d) ∧ (a < 0 → a.tmod d ≤ 0) := by
  refine ⟨fun h => Int.tmod_nonneg d h, fun h => ?_⟩
  have e : a = -(-a) := by omega
  rw [e, Int.neg_tmod]
  have := Int.tmod_nonneg (a := -a) d (by omega)
  omega
theorem y_metF {l : Launch} {y : MethodName} {cc : ByteArray} {maxL : Nat} {ret : Option FieldType} {rm : Room} {av : List Value} {B : State → Prop} {Qc : Array Value → State → Outcome → State → Prop} {mc ms : Nat} {free : Addr → Prop} (hy : plainFor y = true) (hlen : (lg_sl av).length ≤ maxL)
    (body : ∀ (p : Program) (e : Env) (s : State) (m : MethodId) (below : List Frame) (meth : Method) (c : Code) (ls : Array Slot), p.tables.exec = Jvm.exec → c.code = cc → meth.sig.returnType = ret → c.maxLocals = maxL → meth.locks = false → s.vm.findClass y.cls = some m.cls → meth.name = y.name → (∀ w ∈ (Cond.code y cc maxL ret :: yT), w.before av.toArray s = true) → B s → lv_has ls maxL (lv_args 0 av) →
      W p l e rm s m av.toArray below meth c s.heap [] 0 0 (MQ below Qc av.toArray s mc ms free) (F0 m 0 ls [])) : Met l y (Cond.code y cc maxL ret :: yT) rm (va_Pc av B) Qc mc ms free := by
  refine va_MetF (cc := cc) (maxL := maxL) (ret := ret) hy rfl ?_
  intro p e s m args below meth c s₁ X hml hv
  obtain ⟨rfl, hv⟩ := hv
  have hl := lv_entry av (n := maxL) hlen
  rw [lg_entry_eq]
  generalize (lg_sl av ++ List.replicate (maxL - (lg_sl av).length) Slot.unset).toArray = ls at hl ⊢
  exact body p e s m below meth c ls X.exec X.bytes X.returns hml X.notSynchronized (findClass_of_methodNamed X.named) (name_of_methodNamed X.named X.method).1 (atoms_spec X.pre) hv hl
theorem j_mb {x y : Int} (hx : 0 ≤ x ∧ x < 10009) (hy : 0 ≤ y ∧ y < 10009) : 0 ≤ x * y ∧ x * y ≤ 100160064 := by
  refine ⟨Int.mul_nonneg hx.1 hy.1, ?_⟩
  have := Int.mul_le_mul (a := x) (b := y) (c := 10008) (d := 10008) (by omega) (by omega) hy.1 (by omega)
  omega

theorem d_Math_floorMod_0 : decode b_Math_floorMod 0 = .ok (.iload_n 0, 1) := by decide +kernel
theorem d_Math_floorMod_1 : decode b_Math_floorMod 1 = .ok (.iload_n 1, 1) := by decide +kernel
theorem d_Math_floorMod_2 : decode b_Math_floorMod 2 = .ok (.irem, 1) := by decide +kernel
theorem d_Math_floorMod_3 : decode b_Math_floorMod 3 = .ok (.istore_n 2, 1) := by decide +kernel
theorem d_Math_floorMod_4 : decode b_Math_floorMod 4 = .ok (.iload_n 0, 1) := by decide +kernel
theorem d_Math_floorMod_5 : decode b_Math_floorMod 5 = .ok (.iload_n 1, 1) := by decide +kernel
theorem d_Math_floorMod_6 : decode b_Math_floorMod 6 = .ok (.ixor, 1) := by decide +kernel
theorem d_Math_floorMod_7 : decode b_Math_floorMod 7 = .ok (.ifCond .ge 11, 3) := by decide +kernel
theorem d_Math_floorMod_10 : decode b_Math_floorMod 10 = .ok (.iload_n 2, 1) := by decide +kernel
theorem d_Math_floorMod_11 : decode b_Math_floorMod 11 = .ok (.ifCond .eq 7, 3) := by decide +kernel
theorem d_Math_floorMod_14 : decode b_Math_floorMod 14 = .ok (.iload_n 2, 1) := by decide +kernel
theorem d_Math_floorMod_15 : decode b_Math_floorMod 15 = .ok (.iload_n 1, 1) := by decide +kernel
theorem d_Math_floorMod_16 : decode b_Math_floorMod 16 = .ok (.iadd, 1) := by decide +kernel
theorem d_Math_floorMod_17 : decode b_Math_floorMod 17 = .ok (.ireturn, 1) := by decide +kernel
theorem d_Math_floorMod_18 : decode b_Math_floorMod 18 = .ok (.iload_n 2, 1) := by decide +kernel
theorem d_Math_floorMod_19 : decode b_Math_floorMod 19 = .ok (.ireturn, 1) := by decide +kernel
theorem d_Curve_point_0 : decode b_Curve_point 0 = .ok (.iload_n 0, 1) := by decide +kernel
theorem d_Curve_point_1 : decode b_Curve_point 1 = .ok (.sipush 10009, 3) := by decide +kernel
theorem d_Curve_point_4 : decode b_Curve_point 4 = .ok (.imul, 1) := by decide +kernel
theorem d_Curve_point_5 : decode b_Curve_point 5 = .ok (.iload_n 1, 1) := by decide +kernel
theorem d_Curve_point_6 : decode b_Curve_point 6 = .ok (.iadd, 1) := by decide +kernel
theorem d_Curve_point_7 : decode b_Curve_point 7 = .ok (.ireturn, 1) := by decide +kernel
theorem d_Curve_coordinate_0 : decode b_Curve_coordinate 0 = .ok (.iload_n 1, 1) := by decide +kernel
theorem d_Curve_coordinate_1 : decode b_Curve_coordinate 1 = .ok (.ifCond .ne 11, 3) := by decide +kernel
theorem d_Curve_coordinate_4 : decode b_Curve_coordinate 4 = .ok (.iload_n 0, 1) := by decide +kernel
theorem d_Curve_coordinate_5 : decode b_Curve_coordinate 5 = .ok (.sipush 10009, 3) := by decide +kernel
theorem d_Curve_coordinate_8 : decode b_Curve_coordinate 8 = .ok (.idiv, 1) := by decide +kernel
theorem d_Curve_coordinate_9 : decode b_Curve_coordinate 9 = .ok (.goto 8, 3) := by decide +kernel
theorem d_Curve_coordinate_12 : decode b_Curve_coordinate 12 = .ok (.iload_n 0, 1) := by decide +kernel
theorem d_Curve_coordinate_13 : decode b_Curve_coordinate 13 = .ok (.sipush 10009, 3) := by decide +kernel
theorem d_Curve_coordinate_16 : decode b_Curve_coordinate 16 = .ok (.irem, 1) := by decide +kernel
theorem d_Curve_coordinate_17 : decode b_Curve_coordinate 17 = .ok (.ireturn, 1) := by decide +kernel
theorem d_Curve_negative_0 : decode b_Curve_negative 0 = .ok (.sipush 10009, 3) := by decide +kernel
theorem d_Curve_negative_3 : decode b_Curve_negative 3 = .ok (.iload_n 0, 1) := by decide +kernel
theorem d_Curve_negative_4 : decode b_Curve_negative 4 = .ok (.sipush 10009, 3) := by decide +kernel
theorem d_Curve_negative_7 : decode b_Curve_negative 7 = .ok (.idiv, 1) := by decide +kernel
theorem d_Curve_negative_8 : decode b_Curve_negative 8 = .ok (.isub, 1) := by decide +kernel
theorem d_Curve_negative_9 : decode b_Curve_negative 9 = .ok (.sipush 10009, 3) := by decide +kernel
theorem d_Curve_negative_12 : decode b_Curve_negative 12 = .ok (.irem, 1) := by decide +kernel
theorem d_Curve_negative_13 : decode b_Curve_negative 13 = .ok (.iload_n 0, 1) := by decide +kernel
theorem d_Curve_negative_14 : decode b_Curve_negative 14 = .ok (.sipush 10009, 3) := by decide +kernel
theorem d_Curve_negative_17 : decode b_Curve_negative 17 = .ok (.irem, 1) := by decide +kernel
theorem d_Curve_negative_18 : decode b_Curve_negative 18 = .ok (.invokestatic 9, 3) := by decide +kernel
theorem d_Curve_negative_21 : decode b_Curve_negative 21 = .ok (.ireturn, 1) := by decide +kernel
theorem d_Curve_inverse_0 : decode b_Curve_inverse 0 = .ok (.iconst 1, 1) := by decide +kernel
theorem d_Curve_inverse_1 : decode b_Curve_inverse 1 = .ok (.istore_n 1, 1) := by decide +kernel
theorem d_Curve_inverse_2 : decode b_Curve_inverse 2 = .ok (.iload_n 0, 1) := by decide +kernel
theorem d_Curve_inverse_3 : decode b_Curve_inverse 3 = .ok (.istore_n 2, 1) := by decide +kernel
theorem d_Curve_inverse_4 : decode b_Curve_inverse 4 = .ok (.iconst 0, 1) := by decide +kernel
theorem d_Curve_inverse_5 : decode b_Curve_inverse 5 = .ok (.istore_n 3, 1) := by decide +kernel
theorem d_Curve_inverse_6 : decode b_Curve_inverse 6 = .ok (.iload_n 3, 1) := by decide +kernel
theorem d_Curve_inverse_7 : decode b_Curve_inverse 7 = .ok (.bipush 14, 2) := by decide +kernel
theorem d_Curve_inverse_9 : decode b_Curve_inverse 9 = .ok (.if_icmp .ge 36, 3) := by decide +kernel
theorem d_Curve_inverse_12 : decode b_Curve_inverse 12 = .ok (.sipush 10007, 3) := by decide +kernel
theorem d_Curve_inverse_15 : decode b_Curve_inverse 15 = .ok (.iload_n 3, 1) := by decide +kernel
theorem d_Curve_inverse_16 : decode b_Curve_inverse 16 = .ok (.ishr, 1) := by decide +kernel
theorem d_Curve_inverse_17 : decode b_Curve_inverse 17 = .ok (.iconst 1, 1) := by decide +kernel
theorem d_Curve_inverse_18 : decode b_Curve_inverse 18 = .ok (.iand, 1) := by decide +kernel
theorem d_Curve_inverse_19 : decode b_Curve_inverse 19 = .ok (.iconst 1, 1) := by decide +kernel
theorem d_Curve_inverse_20 : decode b_Curve_inverse 20 = .ok (.if_icmp .ne 11, 3) := by decide +kernel
theorem d_Curve_inverse_23 : decode b_Curve_inverse 23 = .ok (.iload_n 1, 1) := by decide +kernel
theorem d_Curve_inverse_24 : decode b_Curve_inverse 24 = .ok (.iload_n 2, 1) := by decide +kernel
theorem d_Curve_inverse_25 : decode b_Curve_inverse 25 = .ok (.imul, 1) := by decide +kernel
theorem d_Curve_inverse_26 : decode b_Curve_inverse 26 = .ok (.sipush 10009, 3) := by decide +kernel
theorem d_Curve_inverse_29 : decode b_Curve_inverse 29 = .ok (.irem, 1) := by decide +kernel
theorem d_Curve_inverse_30 : decode b_Curve_inverse 30 = .ok (.istore_n 1, 1) := by decide +kernel
theorem d_Curve_inverse_31 : decode b_Curve_inverse 31 = .ok (.iload_n 2, 1) := by decide +kernel
theorem d_Curve_inverse_32 : decode b_Curve_inverse 32 = .ok (.iload_n 2, 1) := by decide +kernel
theorem d_Curve_inverse_33 : decode b_Curve_inverse 33 = .ok (.imul, 1) := by decide +kernel
theorem d_Curve_inverse_34 : decode b_Curve_inverse 34 = .ok (.sipush 10009, 3) := by decide +kernel
theorem d_Curve_inverse_37 : decode b_Curve_inverse 37 = .ok (.irem, 1) := by decide +kernel
theorem d_Curve_inverse_38 : decode b_Curve_inverse 38 = .ok (.istore_n 2, 1) := by decide +kernel
theorem d_Curve_inverse_39 : decode b_Curve_inverse 39 = .ok (.iinc 3 1, 3) := by decide +kernel
theorem d_Curve_inverse_42 : decode b_Curve_inverse 42 = .ok (.goto (-36), 3) := by decide +kernel
theorem d_Curve_inverse_45 : decode b_Curve_inverse 45 = .ok (.iload_n 1, 1) := by decide +kernel
theorem d_Curve_inverse_46 : decode b_Curve_inverse 46 = .ok (.ireturn, 1) := by decide +kernel
theorem d_Curve_sum_0 : decode b_Curve_sum 0 = .ok (.iload_n 0, 1) := by decide +kernel
theorem d_Curve_sum_1 : decode b_Curve_sum 1 = .ok (.sipush 10009, 3) := by decide +kernel
theorem d_Curve_sum_4 : decode b_Curve_sum 4 = .ok (.idiv, 1) := by decide +kernel
theorem d_Curve_sum_5 : decode b_Curve_sum 5 = .ok (.istore_n 2, 1) := by decide +kernel
theorem d_Curve_sum_6 : decode b_Curve_sum 6 = .ok (.iload_n 0, 1) := by decide +kernel
theorem d_Curve_sum_7 : decode b_Curve_sum 7 = .ok (.sipush 10009, 3) := by decide +kernel
theorem d_Curve_sum_10 : decode b_Curve_sum 10 = .ok (.irem, 1) := by decide +kernel
theorem d_Curve_sum_11 : decode b_Curve_sum 11 = .ok (.istore_n 3, 1) := by decide +kernel
theorem d_Curve_sum_12 : decode b_Curve_sum 12 = .ok (.iload_n 1, 1) := by decide +kernel
theorem d_Curve_sum_13 : decode b_Curve_sum 13 = .ok (.sipush 10009, 3) := by decide +kernel
theorem d_Curve_sum_16 : decode b_Curve_sum 16 = .ok (.idiv, 1) := by decide +kernel
theorem d_Curve_sum_17 : decode b_Curve_sum 17 = .ok (.istore 4, 2) := by decide +kernel
theorem d_Curve_sum_19 : decode b_Curve_sum 19 = .ok (.iload_n 1, 1) := by decide +kernel
theorem d_Curve_sum_20 : decode b_Curve_sum 20 = .ok (.sipush 10009, 3) := by decide +kernel
theorem d_Curve_sum_23 : decode b_Curve_sum 23 = .ok (.irem, 1) := by decide +kernel
theorem d_Curve_sum_24 : decode b_Curve_sum 24 = .ok (.istore 5, 2) := by decide +kernel
theorem d_Curve_sum_26 : decode b_Curve_sum 26 = .ok (.bipush 56, 2) := by decide +kernel
theorem d_Curve_sum_28 : decode b_Curve_sum 28 = .ok (.iload_n 2, 1) := by decide +kernel
theorem d_Curve_sum_29 : decode b_Curve_sum 29 = .ok (.iload 4, 2) := by decide +kernel
theorem d_Curve_sum_31 : decode b_Curve_sum 31 = .ok (.imul, 1) := by decide +kernel
theorem d_Curve_sum_32 : decode b_Curve_sum 32 = .ok (.sipush 10009, 3) := by decide +kernel
theorem d_Curve_sum_35 : decode b_Curve_sum 35 = .ok (.irem, 1) := by decide +kernel
theorem d_Curve_sum_36 : decode b_Curve_sum 36 = .ok (.imul, 1) := by decide +kernel
theorem d_Curve_sum_37 : decode b_Curve_sum 37 = .ok (.sipush 10009, 3) := by decide +kernel
theorem d_Curve_sum_40 : decode b_Curve_sum 40 = .ok (.irem, 1) := by decide +kernel
theorem d_Curve_sum_41 : decode b_Curve_sum 41 = .ok (.iload_n 3, 1) := by decide +kernel
theorem d_Curve_sum_42 : decode b_Curve_sum 42 = .ok (.iload 5, 2) := by decide +kernel
theorem d_Curve_sum_44 : decode b_Curve_sum 44 = .ok (.imul, 1) := by decide +kernel
theorem d_Curve_sum_45 : decode b_Curve_sum 45 = .ok (.sipush 10009, 3) := by decide +kernel
theorem d_Curve_sum_48 : decode b_Curve_sum 48 = .ok (.irem, 1) := by decide +kernel
theorem d_Curve_sum_49 : decode b_Curve_sum 49 = .ok (.imul, 1) := by decide +kernel
theorem d_Curve_sum_50 : decode b_Curve_sum 50 = .ok (.sipush 10009, 3) := by decide +kernel
theorem d_Curve_sum_53 : decode b_Curve_sum 53 = .ok (.irem, 1) := by decide +kernel
theorem d_Curve_sum_54 : decode b_Curve_sum 54 = .ok (.istore 6, 2) := by decide +kernel
theorem d_Curve_sum_56 : decode b_Curve_sum 56 = .ok (.iconst 1, 1) := by decide +kernel
theorem d_Curve_sum_57 : decode b_Curve_sum 57 = .ok (.iload 6, 2) := by decide +kernel
theorem d_Curve_sum_59 : decode b_Curve_sum 59 = .ok (.iadd, 1) := by decide +kernel
theorem d_Curve_sum_60 : decode b_Curve_sum 60 = .ok (.sipush 10009, 3) := by decide +kernel
theorem d_Curve_sum_63 : decode b_Curve_sum 63 = .ok (.irem, 1) := by decide +kernel
theorem d_Curve_sum_64 : decode b_Curve_sum 64 = .ok (.istore 7, 2) := by decide +kernel
theorem d_Curve_sum_66 : decode b_Curve_sum 66 = .ok (.sipush 10010, 3) := by decide +kernel
theorem d_Curve_sum_69 : decode b_Curve_sum 69 = .ok (.iload 6, 2) := by decide +kernel
theorem d_Curve_sum_71 : decode b_Curve_sum 71 = .ok (.isub, 1) := by decide +kernel
theorem d_Curve_sum_72 : decode b_Curve_sum 72 = .ok (.sipush 10009, 3) := by decide +kernel
theorem d_Curve_sum_75 : decode b_Curve_sum 75 = .ok (.irem, 1) := by decide +kernel
theorem d_Curve_sum_76 : decode b_Curve_sum 76 = .ok (.istore 8, 2) := by decide +kernel
theorem d_Curve_sum_78 : decode b_Curve_sum 78 = .ok (.iload 7, 2) := by decide +kernel
theorem d_Curve_sum_80 : decode b_Curve_sum 80 = .ok (.iload 8, 2) := by decide +kernel
theorem d_Curve_sum_82 : decode b_Curve_sum 82 = .ok (.imul, 1) := by decide +kernel
theorem d_Curve_sum_83 : decode b_Curve_sum 83 = .ok (.sipush 10009, 3) := by decide +kernel
theorem d_Curve_sum_86 : decode b_Curve_sum 86 = .ok (.irem, 1) := by decide +kernel
theorem d_Curve_sum_87 : decode b_Curve_sum 87 = .ok (.invokestatic 15, 3) := by decide +kernel
theorem d_Curve_sum_90 : decode b_Curve_sum 90 = .ok (.istore 9, 2) := by decide +kernel
theorem d_Curve_sum_92 : decode b_Curve_sum 92 = .ok (.iload_n 2, 1) := by decide +kernel
theorem d_Curve_sum_93 : decode b_Curve_sum 93 = .ok (.iload 5, 2) := by decide +kernel
theorem d_Curve_sum_95 : decode b_Curve_sum 95 = .ok (.imul, 1) := by decide +kernel
theorem d_Curve_sum_96 : decode b_Curve_sum 96 = .ok (.iload_n 3, 1) := by decide +kernel
theorem d_Curve_sum_97 : decode b_Curve_sum 97 = .ok (.iload 4, 2) := by decide +kernel
theorem d_Curve_sum_99 : decode b_Curve_sum 99 = .ok (.imul, 1) := by decide +kernel
theorem d_Curve_sum_100 : decode b_Curve_sum 100 = .ok (.iadd, 1) := by decide +kernel
theorem d_Curve_sum_101 : decode b_Curve_sum 101 = .ok (.sipush 10009, 3) := by decide +kernel
theorem d_Curve_sum_104 : decode b_Curve_sum 104 = .ok (.irem, 1) := by decide +kernel
theorem d_Curve_sum_105 : decode b_Curve_sum 105 = .ok (.iload 9, 2) := by decide +kernel
theorem d_Curve_sum_107 : decode b_Curve_sum 107 = .ok (.iload 8, 2) := by decide +kernel
theorem d_Curve_sum_109 : decode b_Curve_sum 109 = .ok (.imul, 1) := by decide +kernel
theorem d_Curve_sum_110 : decode b_Curve_sum 110 = .ok (.sipush 10009, 3) := by decide +kernel
theorem d_Curve_sum_113 : decode b_Curve_sum 113 = .ok (.irem, 1) := by decide +kernel
theorem d_Curve_sum_114 : decode b_Curve_sum 114 = .ok (.imul, 1) := by decide +kernel
theorem d_Curve_sum_115 : decode b_Curve_sum 115 = .ok (.sipush 10009, 3) := by decide +kernel
theorem d_Curve_sum_118 : decode b_Curve_sum 118 = .ok (.irem, 1) := by decide +kernel
theorem d_Curve_sum_119 : decode b_Curve_sum 119 = .ok (.istore 10, 2) := by decide +kernel
theorem d_Curve_sum_121 : decode b_Curve_sum 121 = .ok (.iload_n 3, 1) := by decide +kernel
theorem d_Curve_sum_122 : decode b_Curve_sum 122 = .ok (.iload 5, 2) := by decide +kernel
theorem d_Curve_sum_124 : decode b_Curve_sum 124 = .ok (.imul, 1) := by decide +kernel
theorem d_Curve_sum_125 : decode b_Curve_sum 125 = .ok (.iload_n 2, 1) := by decide +kernel
theorem d_Curve_sum_126 : decode b_Curve_sum 126 = .ok (.iload 4, 2) := by decide +kernel
theorem d_Curve_sum_128 : decode b_Curve_sum 128 = .ok (.imul, 1) := by decide +kernel
theorem d_Curve_sum_129 : decode b_Curve_sum 129 = .ok (.iadd, 1) := by decide +kernel
theorem d_Curve_sum_130 : decode b_Curve_sum 130 = .ok (.sipush 10009, 3) := by decide +kernel
theorem d_Curve_sum_133 : decode b_Curve_sum 133 = .ok (.irem, 1) := by decide +kernel
theorem d_Curve_sum_134 : decode b_Curve_sum 134 = .ok (.iload 9, 2) := by decide +kernel
theorem d_Curve_sum_136 : decode b_Curve_sum 136 = .ok (.iload 7, 2) := by decide +kernel
theorem d_Curve_sum_138 : decode b_Curve_sum 138 = .ok (.imul, 1) := by decide +kernel
theorem d_Curve_sum_139 : decode b_Curve_sum 139 = .ok (.sipush 10009, 3) := by decide +kernel
theorem d_Curve_sum_142 : decode b_Curve_sum 142 = .ok (.irem, 1) := by decide +kernel
theorem d_Curve_sum_143 : decode b_Curve_sum 143 = .ok (.imul, 1) := by decide +kernel
theorem d_Curve_sum_144 : decode b_Curve_sum 144 = .ok (.sipush 10009, 3) := by decide +kernel
theorem d_Curve_sum_147 : decode b_Curve_sum 147 = .ok (.irem, 1) := by decide +kernel
theorem d_Curve_sum_148 : decode b_Curve_sum 148 = .ok (.istore 11, 2) := by decide +kernel
theorem d_Curve_sum_150 : decode b_Curve_sum 150 = .ok (.iload 10, 2) := by decide +kernel
theorem d_Curve_sum_152 : decode b_Curve_sum 152 = .ok (.iload 11, 2) := by decide +kernel
theorem d_Curve_sum_154 : decode b_Curve_sum 154 = .ok (.invokestatic 9, 3) := by decide +kernel
theorem d_Curve_sum_157 : decode b_Curve_sum 157 = .ok (.ireturn, 1) := by decide +kernel
theorem d_Curve_multiple_0 : decode b_Curve_multiple 0 = .ok (.iconst 1, 1) := by decide +kernel
theorem d_Curve_multiple_1 : decode b_Curve_multiple 1 = .ok (.istore_n 2, 1) := by decide +kernel
theorem d_Curve_multiple_2 : decode b_Curve_multiple 2 = .ok (.iload_n 1, 1) := by decide +kernel
theorem d_Curve_multiple_3 : decode b_Curve_multiple 3 = .ok (.istore_n 3, 1) := by decide +kernel
theorem d_Curve_multiple_4 : decode b_Curve_multiple 4 = .ok (.iconst 0, 1) := by decide +kernel
theorem d_Curve_multiple_5 : decode b_Curve_multiple 5 = .ok (.istore 4, 2) := by decide +kernel
theorem d_Curve_multiple_7 : decode b_Curve_multiple 7 = .ok (.iload 4, 2) := by decide +kernel
theorem d_Curve_multiple_9 : decode b_Curve_multiple 9 = .ok (.bipush 12, 2) := by decide +kernel
theorem d_Curve_multiple_11 : decode b_Curve_multiple 11 = .ok (.if_icmp .ge 31, 3) := by decide +kernel
theorem d_Curve_multiple_14 : decode b_Curve_multiple 14 = .ok (.iload_n 0, 1) := by decide +kernel
theorem d_Curve_multiple_15 : decode b_Curve_multiple 15 = .ok (.iload 4, 2) := by decide +kernel
theorem d_Curve_multiple_17 : decode b_Curve_multiple 17 = .ok (.ishr, 1) := by decide +kernel
theorem d_Curve_multiple_18 : decode b_Curve_multiple 18 = .ok (.iconst 1, 1) := by decide +kernel
theorem d_Curve_multiple_19 : decode b_Curve_multiple 19 = .ok (.iand, 1) := by decide +kernel
theorem d_Curve_multiple_20 : decode b_Curve_multiple 20 = .ok (.iconst 1, 1) := by decide +kernel
theorem d_Curve_multiple_21 : decode b_Curve_multiple 21 = .ok (.if_icmp .ne 9, 3) := by decide +kernel
theorem d_Curve_multiple_24 : decode b_Curve_multiple 24 = .ok (.iload_n 2, 1) := by decide +kernel
theorem d_Curve_multiple_25 : decode b_Curve_multiple 25 = .ok (.iload_n 3, 1) := by decide +kernel
theorem d_Curve_multiple_26 : decode b_Curve_multiple 26 = .ok (.invokestatic 19, 3) := by decide +kernel
theorem d_Curve_multiple_29 : decode b_Curve_multiple 29 = .ok (.istore_n 2, 1) := by decide +kernel
theorem d_Curve_multiple_30 : decode b_Curve_multiple 30 = .ok (.iload_n 3, 1) := by decide +kernel
theorem d_Curve_multiple_31 : decode b_Curve_multiple 31 = .ok (.iload_n 3, 1) := by decide +kernel
theorem d_Curve_multiple_32 : decode b_Curve_multiple 32 = .ok (.invokestatic 19, 3) := by decide +kernel
theorem d_Curve_multiple_35 : decode b_Curve_multiple 35 = .ok (.istore_n 3, 1) := by decide +kernel
theorem d_Curve_multiple_36 : decode b_Curve_multiple 36 = .ok (.iinc 4 1, 3) := by decide +kernel
theorem d_Curve_multiple_39 : decode b_Curve_multiple 39 = .ok (.goto (-32), 3) := by decide +kernel
theorem d_Curve_multiple_42 : decode b_Curve_multiple 42 = .ok (.iload_n 2, 1) := by decide +kernel
theorem d_Curve_multiple_43 : decode b_Curve_multiple 43 = .ok (.ireturn, 1) := by decide +kernel

set_option maxHeartbeats 4000000 in
set_option maxRecDepth 100000 in
theorem c_floorMod (l : Launch) (G : yG) (a d : Int) (ha : jr a) (hd : 0 < d ∧ d < 1000000000) : Met l y_Math_floorMod (Cond.code y_Math_floorMod b_Math_floorMod 3 (some .int) :: yT) ({ frames := 0, cells := 0, slots := 0, locals := 0 } : Room) (yP0 (yK G) [.int (J (a)), .int (J (d))]) (yQi (a % d)) 0 0 yN := by
  refine y_metF (by decide +kernel) (Nat.le_of_ble_eq_true rfl) ?_
  intro p e s m below meth c ls hx hb hr hml hlocks hown hname hts hv hl
  have hA : ∀ w ∈ yT, w.before _ s = true := fun w h => hts w (List.mem_cons_of_mem _ h)
  have hl : lv_has ls 3 [(0, .int (J (a))), (1, .int (J (d)))] := hl
  have hK : yK G s := hv
  have hS : va_S yN s.heap s.heap [] := va_S.rf
  refine lv_iload_n hx hb d_Math_floorMod_0 rfl (lv_at hl 0 rfl) ?_
  refine lv_iload_n hx hb d_Math_floorMod_1 rfl (lv_at hl 1 rfl) ?_
  refine y_iremT hx hb d_Math_floorMod_2 ha ⟨by omega, by omega⟩ ?_
  obtain ⟨r, e_r⟩ : ∃ q : Int, q = a.tmod d := ⟨_, rfl⟩
  rw [← e_r]
  have h_r := j_tmod_rng (a := a) hd.1
  rw [← e_r] at h_r
  have h_m := j_rest (a := a) hd.1
  rw [← e_r] at h_m
  refine lv_istore_n (lv' := [(2, .int (J (r))), (0, .int (J (a))), (1, .int (J (d)))]) hx hb d_Math_floorMod_3 rfl hl (by decide) rfl (fun ls hl => ?_)
  refine lv_iload_n hx hb d_Math_floorMod_4 rfl (lv_at hl 1 rfl) ?_
  refine lv_iload_n hx hb d_Math_floorMod_5 rfl (lv_at hl 2 rfl) ?_
  refine y_ixor' hx hb d_Math_floorMod_6 (fun q hq e_q => ?_)
  have h_q := J_xor_neg ha ⟨by omega, by omega⟩ hq e_q
  have h_s := j_tmod_sgn (a := a) hd.1
  rw [← e_r] at h_s
  refine y_if_ge (tgt := 18) hx hb d_Math_floorMod_7 (by decide) hq (fun hc1 => ?_) (fun hc1 => ?_)
  · skip
    refine lv_iload_n hx hb d_Math_floorMod_18 rfl (lv_at hl 0 rfl) ?_
    exact y_reti hx hb hr hlocks hS (by first | (rw [← h_m, Int.add_emod_right]; exact (Int.emod_eq_of_lt (by omega) (by omega)).symm) | (rw [← h_m]; exact (Int.emod_eq_of_lt (by omega) (by omega)).symm)) d_Math_floorMod_19
  · skip
    refine lv_iload_n hx hb d_Math_floorMod_10 rfl (lv_at hl 0 rfl) ?_
    refine y_if_eq (tgt := 18) hx hb d_Math_floorMod_11 (by decide) ⟨by omega, by omega⟩ (fun hc2 => ?_) (fun hc2 => ?_)
    · skip
      refine lv_iload_n hx hb d_Math_floorMod_18 rfl (lv_at hl 0 rfl) ?_
      exact y_reti hx hb hr hlocks hS (by first | (rw [← h_m, Int.add_emod_right]; exact (Int.emod_eq_of_lt (by omega) (by omega)).symm) | (rw [← h_m]; exact (Int.emod_eq_of_lt (by omega) (by omega)).symm)) d_Math_floorMod_19
    · skip
      refine lv_iload_n hx hb d_Math_floorMod_14 rfl (lv_at hl 0 rfl) ?_
      refine lv_iload_n hx hb d_Math_floorMod_15 rfl (lv_at hl 2 rfl) ?_
      refine y_iadd hx hb d_Math_floorMod_16 ?_
      exact y_reti hx hb hr hlocks hS (by first | (rw [← h_m, Int.add_emod_right]; exact (Int.emod_eq_of_lt (by omega) (by omega)).symm) | (rw [← h_m]; exact (Int.emod_eq_of_lt (by omega) (by omega)).symm)) d_Math_floorMod_17

set_option maxHeartbeats 4000000 in
set_option maxRecDepth 100000 in
theorem c_Curve_point (l : Launch) (G : yG) (x y : Int) : Met l y_Curve_point (Cond.code y_Curve_point b_Curve_point 2 (some .int) :: yT) ({ frames := 0, cells := 0, slots := 0, locals := 0 } : Room) (yP0 (yK G) [.int (J (x)), .int (J (y))]) (yQi (x * 10009 + y)) 0 0 yN := by
  refine y_met (by decide +kernel) (Nat.le_of_ble_eq_true rfl) ?_
  intro p e s m below meth c ls hx hb hr hml hlocks hown hname hts hv hl
  have hA : ∀ w ∈ yT, w.before _ s = true := fun w h => hts w (List.mem_cons_of_mem _ h)
  have hl : lv_has ls 2 [(0, .int (J (x))), (1, .int (J (y)))] := hl
  have hK : yK G s := hv
  have hS : va_S yN s.heap s.heap [] := va_S.rf
  refine lv_iload_n hx hb d_Curve_point_0 rfl (lv_at hl 0 rfl) ?_
  refine lv_sipush (v := J (10009)) hx hb d_Curve_point_1 (by decide) ?_
  refine y_imul hx hb d_Curve_point_4 ?_
  refine lv_iload_n hx hb d_Curve_point_5 rfl (lv_at hl 1 rfl) ?_
  refine y_iadd hx hb d_Curve_point_6 ?_
  exact y_reti hx hb hr hlocks hS rfl d_Curve_point_7

set_option maxHeartbeats 4000000 in
set_option maxRecDepth 100000 in
theorem c_Curve_coordinate (l : Launch) (G : yG) (a k : Int) (hk : jr k) : Met l y_Curve_coordinate (Cond.code y_Curve_coordinate b_Curve_coordinate 2 (some .int) :: yT) ({ frames := 0, cells := 0, slots := 0, locals := 0 } : Room) (yP0 (yK G) [.int (J (eE a)), .int (J (k))]) (yQi (if k = 0 then eX a else eY a)) 0 0 yN := by
  refine y_met (by decide +kernel) (Nat.le_of_ble_eq_true rfl) ?_
  intro p e s m below meth c ls hx hb hr hml hlocks hown hname hts hv hl
  have hA : ∀ w ∈ yT, w.before _ s = true := fun w h => hts w (List.mem_cons_of_mem _ h)
  have hl : lv_has ls 2 [(0, .int (J (eE a))), (1, .int (J (k)))] := hl
  have hK : yK G s := hv
  have hS : va_S yN s.heap s.heap [] := va_S.rf
  have hE := eE_rng a
  refine lv_iload_n hx hb d_Curve_coordinate_0 rfl (lv_at hl 1 rfl) ?_
  refine y_if_ne (tgt := 12) hx hb d_Curve_coordinate_1 (by decide) hk (fun hc1 => ?_) (fun hc1 => ?_)
  · skip
    refine lv_iload_n hx hb d_Curve_coordinate_12 rfl (lv_at hl 0 rfl) ?_
    refine lv_sipush (v := J (10009)) hx hb d_Curve_coordinate_13 (by decide) ?_
    refine y_irem hx hb d_Curve_coordinate_16 (by omega) (by omega) (by decide) ?_
    exact y_reti hx hb hr hlocks hS (by first | (rw [if_pos (by omega)]; exact eE_div a) | (rw [if_neg (by omega)]; exact eE_mod a)) d_Curve_coordinate_17
  · skip
    refine lv_iload_n hx hb d_Curve_coordinate_4 rfl (lv_at hl 0 rfl) ?_
    refine lv_sipush (v := J (10009)) hx hb d_Curve_coordinate_5 (by decide) ?_
    refine y_idiv hx hb d_Curve_coordinate_8 (by omega) (by omega) (by decide) ?_
    refine lv_goto (tgt := 17) hx hb d_Curve_coordinate_9 (by decide) ?_
    exact y_reti hx hb hr hlocks hS (by first | (rw [if_pos (by omega)]; exact eE_div a) | (rw [if_neg (by omega)]; exact eE_mod a)) d_Curve_coordinate_17

set_option maxHeartbeats 4000000 in
set_option maxRecDepth 100000 in
theorem c_Curve_negative (l : Launch) (G : yG) (a : Int) : Met l y_Curve_negative (Cond.code y_Curve_negative b_Curve_negative 1 (some .int) :: yT) ({ frames := 1, cells := 0, slots := 0, locals := 21 } : Room) (yP0 (yK G) [.int (J (eE a))]) (yQi (eE (-a))) 0 0 yN := by
  refine y_met (by decide +kernel) (Nat.le_of_ble_eq_true rfl) ?_
  intro p e s m below meth c ls hx hb hr hml hlocks hown hname hts hv hl
  have hA : ∀ w ∈ yT, w.before _ s = true := fun w h => hts w (List.mem_cons_of_mem _ h)
  have hl : lv_has ls 1 [(0, .int (J (eE a)))] := hl
  have hK : yK G s := hv
  have hS : va_S yN s.heap s.heap [] := va_S.rf
  have hE := eE_rng a
  have hX := eX_rng a
  have hD := eE_div a
  refine lv_sipush (v := J (10009)) hx hb d_Curve_negative_0 (by decide) ?_
  refine lv_iload_n hx hb d_Curve_negative_3 rfl (lv_at hl 0 rfl) ?_
  refine lv_sipush (v := J (10009)) hx hb d_Curve_negative_4 (by decide) ?_
  refine y_idiv hx hb d_Curve_negative_7 (by omega) (by omega) (by decide) ?_
  refine y_isub hx hb d_Curve_negative_8 ?_
  refine lv_sipush (v := J (10009)) hx hb d_Curve_negative_9 (by decide) ?_
  refine y_irem hx hb d_Curve_negative_12 (by omega) (by omega) (by decide) ?_
  refine lv_iload_n hx hb d_Curve_negative_13 rfl (lv_at hl 0 rfl) ?_
  refine lv_sipush (v := J (10009)) hx hb d_Curve_negative_14 (by decide) ?_
  refine y_irem hx hb d_Curve_negative_17 (by omega) (by omega) (by decide) ?_
  refine y_c0 (y_runS (As := [.int (J ((10009 - ((eE a) / 10009)) % 10009)), .int (J ((eE a) % 10009))]) (rest := []) ⟨hx, hb, hml, hown, hts⟩ (c_Curve_point l G ((10009 - ((eE a) / 10009)) % 10009) ((eE a) % 10009)) 2 k_co_Curve_point k_ml_Curve_9 k_st_Curve_point k_in_Curve rfl rfl (by decide +kernel) ⟨Nat.le_of_ble_eq_true rfl, Nat.le_of_ble_eq_true rfl⟩ (yPs0 (yK_bl G) (yK_mv G) hK) rfl hl.1 rfl (Nat.le_of_ble_eq_true rfl) d_Curve_negative_18 ⟨Nat.zero_le _, Nat.zero_le _⟩) hS (fun H locs _ _ hS => ?_)
  exact y_reti hx hb hr hlocks hS (by rw [eE_div, eE_mod, eX_neg, eY_neg, ← eE_eq]) d_Curve_negative_21

set_option maxHeartbeats 4000000 in
set_option maxRecDepth 100000 in
theorem c_Curve_inverse (l : Launch) (G : yG) (n : Nat) (hn : n < 10009) : Met l y_Curve_inverse (Cond.code y_Curve_inverse b_Curve_inverse 4 (some .int) :: yT) ({ frames := 0, cells := 0, slots := 0, locals := 0 } : Room) (yP0 (yK G) [.int (J ((n : Int)))]) (yQi ((cv_miv n : Int))) 0 0 yN := by
  refine y_met (by decide +kernel) (Nat.le_of_ble_eq_true rfl) ?_
  intro p e s m below meth c ls hx hb hr hml hlocks hown hname hts hv hl
  have hA : ∀ w ∈ yT, w.before _ s = true := fun w h => hts w (List.mem_cons_of_mem _ h)
  have hl : lv_has ls 4 [(0, .int (J ((n : Int))))] := hl
  have hK : yK G s := hv
  have hS : va_S yN s.heap s.heap [] := va_S.rf
  refine lv_iconst (v := J (1)) hx hb d_Curve_inverse_0 rfl ?_
  refine lv_istore_n (lv' := [(1, .int (J (1))), (0, .int (J ((n : Int))))]) hx hb d_Curve_inverse_1 rfl hl (by decide) rfl (fun ls hl => ?_)
  refine lv_iload_n hx hb d_Curve_inverse_2 rfl (lv_at hl 1 rfl) ?_
  refine lv_istore_n (lv' := [(2, .int (J ((n : Int)))), (1, .int (J (1))), (0, .int (J ((n : Int))))]) hx hb d_Curve_inverse_3 rfl hl (by decide) rfl (fun ls hl => ?_)
  refine lv_iconst (v := J (0)) hx hb d_Curve_inverse_4 rfl ?_
  refine lv_istore_n (lv' := [(3, .int (J (0))), (2, .int (J ((n : Int)))), (1, .int (J (1))), (0, .int (J ((n : Int))))]) hx hb d_Curve_inverse_5 rfl hl (by decide) rfl (fun ls hl => ?_)
  have loop : ∀ (k b : Nat), b + k = 14 → ∀ (ls : Array Slot), lv_has ls 4 [(3, .int (J (((b : Nat) : Int)))), (2, .int (J (((cv_mlp n b).2 : Int)))), (1, .int (J (((cv_mlp n b).1 : Int)))), (0, .int (J ((n : Int))))] → W p l e ({ frames := 0, cells := 0, slots := 0, locals := 0 } : Room) s m ([.int (J ((n : Int)))] : List Value).toArray below meth c s.heap [] 0 0 (MQ below (yQi ((cv_miv n : Int))) ([.int (J ((n : Int)))] : List Value).toArray s 0 0 yN) (F0 m 6 ls []) := by
    intro k
    induction k with
    | zero =>
      intro b hbk ls hl
      have hb14 : b = 14 := by omega
      refine lv_iload_n hx hb d_Curve_inverse_6 rfl (lv_at hl 0 rfl) ?_
      refine lv_bipush (v := J (14)) hx hb d_Curve_inverse_7 (by decide) ?_
      refine y_icmp_ge (tgt := 45) hx hb d_Curve_inverse_9 (by decide) ⟨by omega, by omega⟩ ⟨by omega, by omega⟩ (fun hc1 => ?_) (fun hc1 => absurd hc1 (by omega))
      refine lv_iload_n hx hb d_Curve_inverse_45 rfl (lv_at hl 2 rfl) ?_
      exact y_reti hx hb hr hlocks hS (by subst hb14; rfl) d_Curve_inverse_46
    | succ k ih =>
      intro b hbk ls hl
      have hlt := cv_mlp_lt hn b
      have hm1 := j_mb (x := ((cv_mlp n b).1 : Int)) (y := ((cv_mlp n b).2 : Int)) ⟨by omega, by omega⟩ ⟨by omega, by omega⟩
      have hm2 := j_mb (x := ((cv_mlp n b).2 : Int)) (y := ((cv_mlp n b).2 : Int)) ⟨by omega, by omega⟩ ⟨by omega, by omega⟩
      have hdiv : (10007 : Int) / 2 ^ b = ((10007 / 2 ^ b : Nat) : Int) := by rw [Int.natCast_ediv, Int.natCast_pow]; rfl
      have hdle : 10007 / 2 ^ b ≤ 10007 := Nat.div_le_self _ _
      refine lv_iload_n hx hb d_Curve_inverse_6 rfl (lv_at hl 0 rfl) ?_
      refine lv_bipush (v := J (14)) hx hb d_Curve_inverse_7 (by decide) ?_
      refine y_icmp_ge (tgt := 45) hx hb d_Curve_inverse_9 (by decide) ⟨by omega, by omega⟩ ⟨by omega, by omega⟩ (fun hc2 => absurd hc2 (by omega)) (fun hc2 => ?_)
      refine lv_sipush (v := J (10007)) hx hb d_Curve_inverse_12 (by decide) ?_
      refine lv_iload_n hx hb d_Curve_inverse_15 rfl (lv_at hl 0 rfl) ?_
      refine y_ishr hx hb d_Curve_inverse_16 b rfl (by omega) (by omega) (by omega) ?_
      refine lv_iconst (v := J (1)) hx hb d_Curve_inverse_17 rfl ?_
      refine y_iand1 hx hb d_Curve_inverse_18 (by rw [hdiv]; exact Int.natCast_nonneg _) (by rw [hdiv]; omega) ?_
      refine lv_iconst (v := J (1)) hx hb d_Curve_inverse_19 rfl ?_
      refine y_icmp_ne (tgt := 31) hx hb d_Curve_inverse_20 (by decide) ⟨by omega, by omega⟩ ⟨by omega, by omega⟩ (fun hc3 => ?_) (fun hc3 => ?_)
      · skip
        refine lv_iload_n hx hb d_Curve_inverse_31 rfl (lv_at hl 1 rfl) ?_
        refine lv_iload_n hx hb d_Curve_inverse_32 rfl (lv_at hl 1 rfl) ?_
        refine y_imul hx hb d_Curve_inverse_33 ?_
        refine lv_sipush (v := J (10009)) hx hb d_Curve_inverse_34 (by decide) ?_
        refine y_irem hx hb d_Curve_inverse_37 (by omega) (by omega) (by decide) ?_
        refine lv_istore_n (lv' := [(2, .int (J ((((cv_mlp n b).2 : Int) * ((cv_mlp n b).2 : Int)) % 10009))), (3, .int (J (((b : Nat) : Int)))), (1, .int (J (((cv_mlp n b).1 : Int)))), (0, .int (J ((n : Int))))]) hx hb d_Curve_inverse_38 rfl hl (by decide) rfl (fun ls hl => ?_)
        refine lv_iinc (k := 1) (v := J (((b : Nat) : Int) + 1)) (lv' := [(3, .int (J (((b : Nat) : Int) + 1))), (2, .int (J ((((cv_mlp n b).2 : Int) * ((cv_mlp n b).2 : Int)) % 10009))), (1, .int (J (((cv_mlp n b).1 : Int)))), (0, .int (J ((n : Int))))]) hx hb d_Curve_inverse_39 hl rfl (J_add _ _) (by decide) rfl (fun ls hl => ?_)
        refine lv_goto (tgt := 6) hx hb d_Curve_inverse_42 (by decide) ?_
        refine ih (b + 1) (by omega) ls ?_
        have e2 : ((cv_mlp n (b + 1)).2 : Int) = ((cv_mlp n b).2 : Int) * ((cv_mlp n b).2 : Int) % 10009 := by
          show ((((cv_mlp n b).2 * (cv_mlp n b).2 % 10009 : Nat)) : Int) = _
          rw [Int.natCast_emod, Int.natCast_mul]; rfl
        have e1 : ((cv_mlp n (b + 1)).1 : Int) = ((cv_mlp n b).1 : Int) := by
          show (((if 10007 / 2 ^ b % 2 = 1 then (cv_mlp n b).1 * (cv_mlp n b).2 % 10009 else (cv_mlp n b).1 : Nat)) : Int) = _
          rw [if_neg (by omega)]
        rw [e1, e2, Int.natCast_add]
        exact hl
      · skip
        refine lv_iload_n hx hb d_Curve_inverse_23 rfl (lv_at hl 2 rfl) ?_
        refine lv_iload_n hx hb d_Curve_inverse_24 rfl (lv_at hl 1 rfl) ?_
        refine y_imul hx hb d_Curve_inverse_25 ?_
        refine lv_sipush (v := J (10009)) hx hb d_Curve_inverse_26 (by decide) ?_
        refine y_irem hx hb d_Curve_inverse_29 (by omega) (by omega) (by decide) ?_
        refine lv_istore_n (lv' := [(1, .int (J ((((cv_mlp n b).1 : Int) * ((cv_mlp n b).2 : Int)) % 10009))), (3, .int (J (((b : Nat) : Int)))), (2, .int (J (((cv_mlp n b).2 : Int)))), (0, .int (J ((n : Int))))]) hx hb d_Curve_inverse_30 rfl hl (by decide) rfl (fun ls hl => ?_)
        refine lv_iload_n hx hb d_Curve_inverse_31 rfl (lv_at hl 2 rfl) ?_
        refine lv_iload_n hx hb d_Curve_inverse_32 rfl (lv_at hl 2 rfl) ?_
        refine y_imul hx hb d_Curve_inverse_33 ?_
        refine lv_sipush (v := J (10009)) hx hb d_Curve_inverse_34 (by decide) ?_
        refine y_irem hx hb d_Curve_inverse_37 (by omega) (by omega) (by decide) ?_
        refine lv_istore_n (lv' := [(2, .int (J ((((cv_mlp n b).2 : Int) * ((cv_mlp n b).2 : Int)) % 10009))), (1, .int (J ((((cv_mlp n b).1 : Int) * ((cv_mlp n b).2 : Int)) % 10009))), (3, .int (J (((b : Nat) : Int)))), (0, .int (J ((n : Int))))]) hx hb d_Curve_inverse_38 rfl hl (by decide) rfl (fun ls hl => ?_)
        refine lv_iinc (k := 2) (v := J (((b : Nat) : Int) + 1)) (lv' := [(3, .int (J (((b : Nat) : Int) + 1))), (2, .int (J ((((cv_mlp n b).2 : Int) * ((cv_mlp n b).2 : Int)) % 10009))), (1, .int (J ((((cv_mlp n b).1 : Int) * ((cv_mlp n b).2 : Int)) % 10009))), (0, .int (J ((n : Int))))]) hx hb d_Curve_inverse_39 hl rfl (J_add _ _) (by decide) rfl (fun ls hl => ?_)
        refine lv_goto (tgt := 6) hx hb d_Curve_inverse_42 (by decide) ?_
        refine ih (b + 1) (by omega) ls ?_
        have e2 : ((cv_mlp n (b + 1)).2 : Int) = ((cv_mlp n b).2 : Int) * ((cv_mlp n b).2 : Int) % 10009 := by
          show ((((cv_mlp n b).2 * (cv_mlp n b).2 % 10009 : Nat)) : Int) = _
          rw [Int.natCast_emod, Int.natCast_mul]; rfl
        have e1 : ((cv_mlp n (b + 1)).1 : Int) = ((cv_mlp n b).1 : Int) * ((cv_mlp n b).2 : Int) % 10009 := by
          show (((if 10007 / 2 ^ b % 2 = 1 then (cv_mlp n b).1 * (cv_mlp n b).2 % 10009 else (cv_mlp n b).1 : Nat)) : Int) = _
          rw [if_pos (by omega), Int.natCast_emod, Int.natCast_mul]; rfl
        rw [e1, e2, Int.natCast_add]
        exact hl
  exact loop 14 0 rfl ls hl

set_option maxHeartbeats 4000000 in
set_option maxRecDepth 100000 in
theorem c_Curve_sum (l : Launch) (G : yG) (a b : Int) : Met l y_Curve_sum (Cond.code y_Curve_sum b_Curve_sum 12 (some .int) :: yT) ({ frames := 1, cells := 0, slots := 0, locals := 23 } : Room) (yP0 (yK G) [.int (J (eE a)), .int (J (eE b))]) (yQi (eE (a + b))) 0 0 yN := by
  refine y_met (by decide +kernel) (Nat.le_of_ble_eq_true rfl) ?_
  intro p e s m below meth c ls hx hb hr hml hlocks hown hname hts hv hl
  have hA : ∀ w ∈ yT, w.before _ s = true := fun w h => hts w (List.mem_cons_of_mem _ h)
  have hl : lv_has ls 12 [(0, .int (J (eE a))), (1, .int (J (eE b)))] := hl
  have hK : yK G s := hv
  have hS : va_S yN s.heap s.heap [] := va_S.rf
  have hEa := eE_rng a
  have hEb := eE_rng b
  refine lv_iload_n hx hb d_Curve_sum_0 rfl (lv_at hl 0 rfl) ?_
  refine lv_sipush (v := J (10009)) hx hb d_Curve_sum_1 (by decide) ?_
  refine y_idiv hx hb d_Curve_sum_4 (by omega) (by omega) (by decide) ?_
  obtain ⟨x, e_x⟩ : ∃ q : Int, q = (eE a) / 10009 := ⟨_, rfl⟩
  rw [← e_x]
  rw [eE_div] at e_x
  have hbx := eX_rng a
  rw [← e_x] at hbx
  refine lv_istore_n (lv' := [(2, .int (J (x))), (0, .int (J (eE a))), (1, .int (J (eE b)))]) hx hb d_Curve_sum_5 rfl hl (by decide) rfl (fun ls hl => ?_)
  refine lv_iload_n hx hb d_Curve_sum_6 rfl (lv_at hl 1 rfl) ?_
  refine lv_sipush (v := J (10009)) hx hb d_Curve_sum_7 (by decide) ?_
  refine y_irem hx hb d_Curve_sum_10 (by omega) (by omega) (by decide) ?_
  obtain ⟨y, e_y⟩ : ∃ q : Int, q = (eE a) % 10009 := ⟨_, rfl⟩
  rw [← e_y]
  rw [eE_mod] at e_y
  have hby := eY_rng a
  rw [← e_y] at hby
  refine lv_istore_n (lv' := [(3, .int (J (y))), (2, .int (J (x))), (0, .int (J (eE a))), (1, .int (J (eE b)))]) hx hb d_Curve_sum_11 rfl hl (by decide) rfl (fun ls hl => ?_)
  refine lv_iload_n hx hb d_Curve_sum_12 rfl (lv_at hl 3 rfl) ?_
  refine lv_sipush (v := J (10009)) hx hb d_Curve_sum_13 (by decide) ?_
  refine y_idiv hx hb d_Curve_sum_16 (by omega) (by omega) (by decide) ?_
  obtain ⟨u, e_u⟩ : ∃ q : Int, q = (eE b) / 10009 := ⟨_, rfl⟩
  rw [← e_u]
  rw [eE_div] at e_u
  have hbu := eX_rng b
  rw [← e_u] at hbu
  have hm1 := j_mb hbx hbu
  refine lv_istore (lv' := [(4, .int (J (u))), (3, .int (J (y))), (2, .int (J (x))), (0, .int (J (eE a))), (1, .int (J (eE b)))]) hx hb d_Curve_sum_17 hl (by decide) rfl (fun ls hl => ?_)
  refine lv_iload_n hx hb d_Curve_sum_19 rfl (lv_at hl 4 rfl) ?_
  refine lv_sipush (v := J (10009)) hx hb d_Curve_sum_20 (by decide) ?_
  refine y_irem hx hb d_Curve_sum_23 (by omega) (by omega) (by decide) ?_
  obtain ⟨w, e_w⟩ : ∃ q : Int, q = (eE b) % 10009 := ⟨_, rfl⟩
  rw [← e_w]
  rw [eE_mod] at e_w
  have hbw := eY_rng b
  rw [← e_w] at hbw
  have hm2 := j_mb hby hbw
  have hm3 := j_mb hbx hbw
  have hm4 := j_mb hby hbu
  have hm5 := j_mb (x := 56 * (x * u % 10009) % 10009) (y := y * w % 10009) ⟨by omega, by omega⟩ ⟨by omega, by omega⟩
  refine lv_istore (lv' := [(5, .int (J (w))), (4, .int (J (u))), (3, .int (J (y))), (2, .int (J (x))), (0, .int (J (eE a))), (1, .int (J (eE b)))]) hx hb d_Curve_sum_24 hl (by decide) rfl (fun ls hl => ?_)
  refine lv_bipush (v := J (56)) hx hb d_Curve_sum_26 (by decide) ?_
  refine lv_iload_n hx hb d_Curve_sum_28 rfl (lv_at hl 3 rfl) ?_
  refine lv_iload hx hb d_Curve_sum_29 (lv_at hl 1 rfl) ?_
  refine y_imul hx hb d_Curve_sum_31 ?_
  refine lv_sipush (v := J (10009)) hx hb d_Curve_sum_32 (by decide) ?_
  refine y_irem hx hb d_Curve_sum_35 (by omega) (by omega) (by decide) ?_
  refine y_imul hx hb d_Curve_sum_36 ?_
  refine lv_sipush (v := J (10009)) hx hb d_Curve_sum_37 (by decide) ?_
  refine y_irem hx hb d_Curve_sum_40 (by omega) (by omega) (by decide) ?_
  refine lv_iload_n hx hb d_Curve_sum_41 rfl (lv_at hl 2 rfl) ?_
  refine lv_iload hx hb d_Curve_sum_42 (lv_at hl 0 rfl) ?_
  refine y_imul hx hb d_Curve_sum_44 ?_
  refine lv_sipush (v := J (10009)) hx hb d_Curve_sum_45 (by decide) ?_
  refine y_irem hx hb d_Curve_sum_48 (by omega) (by omega) (by decide) ?_
  refine y_imul hx hb d_Curve_sum_49 ?_
  refine lv_sipush (v := J (10009)) hx hb d_Curve_sum_50 (by decide) ?_
  refine y_irem hx hb d_Curve_sum_53 (by omega) (by omega) (by decide) ?_
  obtain ⟨k, e_k⟩ : ∃ q : Int, q = (((56 * ((x * u) % 10009)) % 10009) * ((y * w) % 10009)) % 10009 := ⟨_, rfl⟩
  rw [← e_k]
  have hbk : 0 ≤ k ∧ k < 10009 := by omega
  have e_k2 : k = ejk x y u w := e_k
  clear e_k
  refine lv_istore (lv' := [(6, .int (J (k))), (5, .int (J (w))), (4, .int (J (u))), (3, .int (J (y))), (2, .int (J (x))), (0, .int (J (eE a))), (1, .int (J (eE b)))]) hx hb d_Curve_sum_54 hl (by decide) rfl (fun ls hl => ?_)
  refine lv_iconst (v := J (1)) hx hb d_Curve_sum_56 rfl ?_
  refine lv_iload hx hb d_Curve_sum_57 (lv_at hl 0 rfl) ?_
  refine y_iadd hx hb d_Curve_sum_59 ?_
  refine lv_sipush (v := J (10009)) hx hb d_Curve_sum_60 (by decide) ?_
  refine y_irem hx hb d_Curve_sum_63 (by omega) (by omega) (by decide) ?_
  obtain ⟨bx, e_bx⟩ : ∃ q : Int, q = (1 + k) % 10009 := ⟨_, rfl⟩
  rw [← e_bx]
  have hbbx : 0 ≤ bx ∧ bx < 10009 := by omega
  refine lv_istore (lv' := [(7, .int (J (bx))), (6, .int (J (k))), (5, .int (J (w))), (4, .int (J (u))), (3, .int (J (y))), (2, .int (J (x))), (0, .int (J (eE a))), (1, .int (J (eE b)))]) hx hb d_Curve_sum_64 hl (by decide) rfl (fun ls hl => ?_)
  refine lv_sipush (v := J (10010)) hx hb d_Curve_sum_66 (by decide) ?_
  refine lv_iload hx hb d_Curve_sum_69 (lv_at hl 1 rfl) ?_
  refine y_isub hx hb d_Curve_sum_71 ?_
  refine lv_sipush (v := J (10009)) hx hb d_Curve_sum_72 (by decide) ?_
  refine y_irem hx hb d_Curve_sum_75 (by omega) (by omega) (by decide) ?_
  obtain ⟨bz, e_bz⟩ : ∃ q : Int, q = (10010 - k) % 10009 := ⟨_, rfl⟩
  rw [← e_bz]
  have hbbz : 0 ≤ bz ∧ bz < 10009 := by omega
  have e_bz2 : bz = (1 + 10009 - k) % 10009 := by omega
  have hm6 := j_mb hbbx hbbz
  refine lv_istore (lv' := [(8, .int (J (bz))), (7, .int (J (bx))), (6, .int (J (k))), (5, .int (J (w))), (4, .int (J (u))), (3, .int (J (y))), (2, .int (J (x))), (0, .int (J (eE a))), (1, .int (J (eE b)))]) hx hb d_Curve_sum_76 hl (by decide) rfl (fun ls hl => ?_)
  refine lv_iload hx hb d_Curve_sum_78 (lv_at hl 1 rfl) ?_
  refine lv_iload hx hb d_Curve_sum_80 (lv_at hl 0 rfl) ?_
  refine y_imul hx hb d_Curve_sum_82 ?_
  refine lv_sipush (v := J (10009)) hx hb d_Curve_sum_83 (by decide) ?_
  refine y_irem hx hb d_Curve_sum_86 (by omega) (by omega) (by decide) ?_
  obtain ⟨nn, e_nn⟩ : ∃ q : Nat, (q : Int) = bx * bz % 10009 := ⟨(bx * bz % 10009).toNat, by omega⟩
  rw [← e_nn]
  refine y_c0 (y_runS (As := [.int (J ((nn : Int)))]) (rest := []) ⟨hx, hb, hml, hown, hts⟩ (c_Curve_inverse l G nn (by omega)) 1 k_co_Curve_inverse k_ml_Curve_15 k_st_Curve_inverse k_in_Curve rfl rfl (by decide +kernel) ⟨Nat.le_of_ble_eq_true rfl, Nat.le_of_ble_eq_true rfl⟩ (yPs0 (yK_bl G) (yK_mv G) hK) rfl hl.1 rfl (Nat.le_of_ble_eq_true rfl) d_Curve_sum_87 ⟨Nat.zero_le _, Nat.zero_le _⟩) hS (fun H locs _ _ hS => ?_)
  obtain ⟨iv, e_iv⟩ : ∃ q : Int, q = (cv_miv nn : Int) := ⟨_, rfl⟩
  rw [← e_iv]
  have e_iv2 : iv = eiv (bx * bz % 10009) := by rw [e_iv, ← e_nn]; rfl
  have hbiv := eiv_rng (n := bx * bz % 10009) (by omega) (by omega)
  rw [← e_iv2] at hbiv
  have hm7 := j_mb hbiv hbbz
  have hm8 := j_mb hbiv hbbx
  have hm9 := j_mb (x := (x * w + y * u) % 10009) (y := iv * bz % 10009) ⟨by omega, by omega⟩ ⟨by omega, by omega⟩
  have hm10 := j_mb (x := (y * w + x * u) % 10009) (y := iv * bx % 10009) ⟨by omega, by omega⟩ ⟨by omega, by omega⟩
  refine lv_istore (lv' := [(9, .int (J (iv))), (8, .int (J (bz))), (7, .int (J (bx))), (6, .int (J (k))), (5, .int (J (w))), (4, .int (J (u))), (3, .int (J (y))), (2, .int (J (x))), (0, .int (J (eE a))), (1, .int (J (eE b)))]) hx hb d_Curve_sum_90 hl (by decide) rfl (fun ls hl => ?_)
  refine lv_iload_n hx hb d_Curve_sum_92 rfl (lv_at hl 7 rfl) ?_
  refine lv_iload hx hb d_Curve_sum_93 (lv_at hl 4 rfl) ?_
  refine y_imul hx hb d_Curve_sum_95 ?_
  refine lv_iload_n hx hb d_Curve_sum_96 rfl (lv_at hl 6 rfl) ?_
  refine lv_iload hx hb d_Curve_sum_97 (lv_at hl 5 rfl) ?_
  refine y_imul hx hb d_Curve_sum_99 ?_
  refine y_iadd hx hb d_Curve_sum_100 ?_
  refine lv_sipush (v := J (10009)) hx hb d_Curve_sum_101 (by decide) ?_
  refine y_irem hx hb d_Curve_sum_104 (by omega) (by omega) (by decide) ?_
  refine lv_iload hx hb d_Curve_sum_105 (lv_at hl 0 rfl) ?_
  refine lv_iload hx hb d_Curve_sum_107 (lv_at hl 1 rfl) ?_
  refine y_imul hx hb d_Curve_sum_109 ?_
  refine lv_sipush (v := J (10009)) hx hb d_Curve_sum_110 (by decide) ?_
  refine y_irem hx hb d_Curve_sum_113 (by omega) (by omega) (by decide) ?_
  refine y_imul hx hb d_Curve_sum_114 ?_
  refine lv_sipush (v := J (10009)) hx hb d_Curve_sum_115 (by decide) ?_
  refine y_irem hx hb d_Curve_sum_118 (by omega) (by omega) (by decide) ?_
  obtain ⟨sx, e_sx⟩ : ∃ q : Int, q = ((((x * w) + (y * u)) % 10009) * ((iv * bz) % 10009)) % 10009 := ⟨_, rfl⟩
  rw [← e_sx]
  have e_sx2 : sx = eX (a + b) := by rw [e_sx, ← eX_sum a b, ← e_x, ← e_y, ← e_u, ← e_w, ← e_k2, ← e_bx, ← e_bz2, ← e_iv2]
  refine lv_istore (lv' := [(10, .int (J (sx))), (9, .int (J (iv))), (8, .int (J (bz))), (7, .int (J (bx))), (6, .int (J (k))), (5, .int (J (w))), (4, .int (J (u))), (3, .int (J (y))), (2, .int (J (x))), (0, .int (J (eE a))), (1, .int (J (eE b)))]) hx hb d_Curve_sum_119 hl (by decide) rfl (fun ls hl => ?_)
  refine lv_iload_n hx hb d_Curve_sum_121 rfl (lv_at hl 7 rfl) ?_
  refine lv_iload hx hb d_Curve_sum_122 (lv_at hl 5 rfl) ?_
  refine y_imul hx hb d_Curve_sum_124 ?_
  refine lv_iload_n hx hb d_Curve_sum_125 rfl (lv_at hl 8 rfl) ?_
  refine lv_iload hx hb d_Curve_sum_126 (lv_at hl 6 rfl) ?_
  refine y_imul hx hb d_Curve_sum_128 ?_
  refine y_iadd hx hb d_Curve_sum_129 ?_
  refine lv_sipush (v := J (10009)) hx hb d_Curve_sum_130 (by decide) ?_
  refine y_irem hx hb d_Curve_sum_133 (by omega) (by omega) (by decide) ?_
  refine lv_iload hx hb d_Curve_sum_134 (lv_at hl 1 rfl) ?_
  refine lv_iload hx hb d_Curve_sum_136 (lv_at hl 3 rfl) ?_
  refine y_imul hx hb d_Curve_sum_138 ?_
  refine lv_sipush (v := J (10009)) hx hb d_Curve_sum_139 (by decide) ?_
  refine y_irem hx hb d_Curve_sum_142 (by omega) (by omega) (by decide) ?_
  refine y_imul hx hb d_Curve_sum_143 ?_
  refine lv_sipush (v := J (10009)) hx hb d_Curve_sum_144 (by decide) ?_
  refine y_irem hx hb d_Curve_sum_147 (by omega) (by omega) (by decide) ?_
  obtain ⟨sy, e_sy⟩ : ∃ q : Int, q = ((((y * w) + (x * u)) % 10009) * ((iv * bx) % 10009)) % 10009 := ⟨_, rfl⟩
  rw [← e_sy]
  have e_sy2 : sy = eY (a + b) := by rw [e_sy, ← eY_sum a b, ← e_x, ← e_y, ← e_u, ← e_w, ← e_k2, ← e_bx, ← e_bz2, ← e_iv2]
  refine lv_istore (lv' := [(11, .int (J (sy))), (10, .int (J (sx))), (9, .int (J (iv))), (8, .int (J (bz))), (7, .int (J (bx))), (6, .int (J (k))), (5, .int (J (w))), (4, .int (J (u))), (3, .int (J (y))), (2, .int (J (x))), (0, .int (J (eE a))), (1, .int (J (eE b)))]) hx hb d_Curve_sum_148 hl (by decide) rfl (fun ls hl => ?_)
  refine lv_iload hx hb d_Curve_sum_150 (lv_at hl 1 rfl) ?_
  refine lv_iload hx hb d_Curve_sum_152 (lv_at hl 0 rfl) ?_
  refine y_c0 (y_runS (As := [.int (J (sx)), .int (J (sy))]) (rest := []) ⟨hx, hb, hml, hown, hts⟩ (c_Curve_point l G (sx) (sy)) 2 k_co_Curve_point k_ml_Curve_9 k_st_Curve_point k_in_Curve rfl rfl (by decide +kernel) ⟨Nat.le_of_ble_eq_true rfl, Nat.le_of_ble_eq_true rfl⟩ (yPs0 (yK_bl G) (yK_mv G) hK) rfl hl.1 rfl (Nat.le_of_ble_eq_true rfl) d_Curve_sum_154 ⟨Nat.zero_le _, Nat.zero_le _⟩) hS (fun H locs _ _ hS => ?_)
  exact y_reti hx hb hr hlocks hS (by rw [e_sx2, e_sy2, ← eE_eq]) d_Curve_sum_157

set_option maxHeartbeats 4000000 in
set_option maxRecDepth 100000 in
theorem c_Curve_multiple (l : Launch) (G : yG) (n : Nat) (hn : n < 4096) (a : Int) : Met l y_Curve_multiple (Cond.code y_Curve_multiple b_Curve_multiple 5 (some .int) :: yT) ({ frames := 2, cells := 0, slots := 0, locals := 54 } : Room) (yP0 (yK G) [.int (J ((n : Int))), .int (J (eE a))]) (yQi (eE ((n : Int) * a))) 0 0 yN := by
  refine y_met (by decide +kernel) (Nat.le_of_ble_eq_true rfl) ?_
  intro p e s m below meth c ls hx hb hr hml hlocks hown hname hts hv hl
  have hA : ∀ w ∈ yT, w.before _ s = true := fun w h => hts w (List.mem_cons_of_mem _ h)
  have hl : lv_has ls 5 [(0, .int (J ((n : Int)))), (1, .int (J (eE a)))] := hl
  have hK : yK G s := hv
  have hS : va_S yN s.heap s.heap [] := va_S.rf
  refine lv_iconst (v := J (1)) hx hb d_Curve_multiple_0 rfl ?_
  refine lv_istore_n (lv' := [(2, .int (J (1))), (0, .int (J ((n : Int)))), (1, .int (J (eE a)))]) hx hb d_Curve_multiple_1 rfl hl (by decide) rfl (fun ls hl => ?_)
  refine lv_iload_n hx hb d_Curve_multiple_2 rfl (lv_at hl 2 rfl) ?_
  refine lv_istore_n (lv' := [(3, .int (J (eE a))), (2, .int (J (1))), (0, .int (J ((n : Int)))), (1, .int (J (eE a)))]) hx hb d_Curve_multiple_3 rfl hl (by decide) rfl (fun ls hl => ?_)
  refine lv_iconst (v := J (0)) hx hb d_Curve_multiple_4 rfl ?_
  refine lv_istore (lv' := [(4, .int (J (0))), (3, .int (J (eE a))), (2, .int (J (1))), (0, .int (J ((n : Int)))), (1, .int (J (eE a)))]) hx hb d_Curve_multiple_5 hl (by decide) rfl (fun ls hl => ?_)
  have loop : ∀ (k b : Nat), b + k = 12 → ∀ (ls : Array Slot) (H : Heap) (locs : List Loc), va_S yN s.heap H locs → lv_has ls 5 [(4, .int (J (((b : Nat) : Int)))), (3, .int (J (eE ((2 : Int) ^ b * a)))), (2, .int (J (eE (((n % 2 ^ b : Nat) : Int) * a)))), (0, .int (J ((n : Int)))), (1, .int (J (eE a)))] → W p l e ({ frames := 2, cells := 0, slots := 0, locals := 54 } : Room) s m ([.int (J ((n : Int))), .int (J (eE a))] : List Value).toArray below meth c H locs 0 0 (MQ below (yQi (eE ((n : Int) * a))) ([.int (J ((n : Int))), .int (J (eE a))] : List Value).toArray s 0 0 yN) (F0 m 7 ls []) := by
    intro k
    induction k with
    | zero =>
      intro b hbk ls H locs hS hl
      have hb12 : b = 12 := by omega
      refine lv_iload hx hb d_Curve_multiple_7 (lv_at hl 0 rfl) ?_
      refine lv_bipush (v := J (12)) hx hb d_Curve_multiple_9 (by decide) ?_
      refine y_icmp_ge (tgt := 42) hx hb d_Curve_multiple_11 (by decide) ⟨by omega, by omega⟩ ⟨by omega, by omega⟩ (fun hc1 => ?_) (fun hc1 => absurd hc1 (by omega))
      refine lv_iload_n hx hb d_Curve_multiple_42 rfl (lv_at hl 2 rfl) ?_
      exact y_reti hx hb hr hlocks hS (by subst hb12; rw [Nat.mod_eq_of_lt hn]) d_Curve_multiple_43
    | succ k ih =>
      intro b hbk ls H locs hS hl
      have hdiv : (n : Int) / 2 ^ b = ((n / 2 ^ b : Nat) : Int) := by rw [Int.natCast_ediv, Int.natCast_pow]; rfl
      have hdle : n / 2 ^ b ≤ n := Nat.div_le_self _ _
      have e3 : (2 : Int) ^ (b + 1) * a = 2 ^ b * a + 2 ^ b * a := by rw [Int.pow_succ, Int.mul_comm (2 ^ b) 2, Int.mul_assoc]; omega
      refine lv_iload hx hb d_Curve_multiple_7 (lv_at hl 0 rfl) ?_
      refine lv_bipush (v := J (12)) hx hb d_Curve_multiple_9 (by decide) ?_
      refine y_icmp_ge (tgt := 42) hx hb d_Curve_multiple_11 (by decide) ⟨by omega, by omega⟩ ⟨by omega, by omega⟩ (fun hc2 => absurd hc2 (by omega)) (fun hc2 => ?_)
      refine lv_iload_n hx hb d_Curve_multiple_14 rfl (lv_at hl 3 rfl) ?_
      refine lv_iload hx hb d_Curve_multiple_15 (lv_at hl 0 rfl) ?_
      refine y_ishr hx hb d_Curve_multiple_17 b rfl (by omega) (by omega) (by omega) ?_
      refine lv_iconst (v := J (1)) hx hb d_Curve_multiple_18 rfl ?_
      refine y_iand1 hx hb d_Curve_multiple_19 (by rw [hdiv]; exact Int.natCast_nonneg _) (by rw [hdiv]; omega) ?_
      refine lv_iconst (v := J (1)) hx hb d_Curve_multiple_20 rfl ?_
      refine y_icmp_ne (tgt := 30) hx hb d_Curve_multiple_21 (by decide) ⟨by omega, by omega⟩ ⟨by omega, by omega⟩ (fun hbit => ?_) (fun hbit => ?_)
      · skip
        refine lv_iload_n hx hb d_Curve_multiple_30 rfl (lv_at hl 1 rfl) ?_
        refine lv_iload_n hx hb d_Curve_multiple_31 rfl (lv_at hl 1 rfl) ?_
        refine y_c0 (y_runS (As := [.int (J (eE ((2 : Int) ^ b * a))), .int (J (eE ((2 : Int) ^ b * a)))]) (rest := []) ⟨hx, hb, hml, hown, hts⟩ (c_Curve_sum l G ((2 : Int) ^ b * a) ((2 : Int) ^ b * a)) 2 k_co_Curve_sum k_ml_Curve_19 k_st_Curve_sum k_in_Curve rfl rfl (by decide +kernel) ⟨Nat.le_of_ble_eq_true rfl, Nat.le_of_ble_eq_true rfl⟩ (yPs0 (yK_bl G) (yK_mv G) hK) rfl hl.1 rfl (Nat.le_of_ble_eq_true rfl) d_Curve_multiple_32 ⟨Nat.zero_le _, Nat.zero_le _⟩) hS (fun H locs _ _ hS => ?_)
        refine lv_istore_n (lv' := [(3, .int (J (eE (((2 : Int) ^ b * a) + ((2 : Int) ^ b * a))))), (4, .int (J (((b : Nat) : Int)))), (2, .int (J (eE (((n % 2 ^ b : Nat) : Int) * a)))), (0, .int (J ((n : Int)))), (1, .int (J (eE a)))]) hx hb d_Curve_multiple_35 rfl hl (by decide) rfl (fun ls hl => ?_)
        refine lv_iinc (k := 1) (v := J (((b : Nat) : Int) + 1)) (lv' := [(4, .int (J (((b : Nat) : Int) + 1))), (3, .int (J (eE (((2 : Int) ^ b * a) + ((2 : Int) ^ b * a))))), (2, .int (J (eE (((n % 2 ^ b : Nat) : Int) * a)))), (0, .int (J ((n : Int)))), (1, .int (J (eE a)))]) hx hb d_Curve_multiple_36 hl rfl (J_add _ _) (by decide) rfl (fun ls hl => ?_)
        refine lv_goto (tgt := 7) hx hb d_Curve_multiple_39 (by decide) ?_
        refine ih (b + 1) (by omega) ls H locs hS ?_
        have e2 : ((n % 2 ^ (b + 1) : Nat) : Int) * a = ((n % 2 ^ b : Nat) : Int) * a := by
          rw [j_bit, show n / 2 ^ b % 2 = 0 by rw [hdiv] at hbit; omega, Nat.mul_zero, Nat.add_zero]
        rw [e2, e3, Int.natCast_add]
        exact hl
      · skip
        refine lv_iload_n hx hb d_Curve_multiple_24 rfl (lv_at hl 2 rfl) ?_
        refine lv_iload_n hx hb d_Curve_multiple_25 rfl (lv_at hl 1 rfl) ?_
        refine y_c0 (y_runS (As := [.int (J (eE (((n % 2 ^ b : Nat) : Int) * a))), .int (J (eE ((2 : Int) ^ b * a)))]) (rest := []) ⟨hx, hb, hml, hown, hts⟩ (c_Curve_sum l G (((n % 2 ^ b : Nat) : Int) * a) ((2 : Int) ^ b * a)) 2 k_co_Curve_sum k_ml_Curve_19 k_st_Curve_sum k_in_Curve rfl rfl (by decide +kernel) ⟨Nat.le_of_ble_eq_true rfl, Nat.le_of_ble_eq_true rfl⟩ (yPs0 (yK_bl G) (yK_mv G) hK) rfl hl.1 rfl (Nat.le_of_ble_eq_true rfl) d_Curve_multiple_26 ⟨Nat.zero_le _, Nat.zero_le _⟩) hS (fun H locs _ _ hS => ?_)
        refine lv_istore_n (lv' := [(2, .int (J (eE ((((n % 2 ^ b : Nat) : Int) * a) + ((2 : Int) ^ b * a))))), (4, .int (J (((b : Nat) : Int)))), (3, .int (J (eE ((2 : Int) ^ b * a)))), (0, .int (J ((n : Int)))), (1, .int (J (eE a)))]) hx hb d_Curve_multiple_29 rfl hl (by decide) rfl (fun ls hl => ?_)
        refine lv_iload_n hx hb d_Curve_multiple_30 rfl (lv_at hl 2 rfl) ?_
        refine lv_iload_n hx hb d_Curve_multiple_31 rfl (lv_at hl 2 rfl) ?_
        refine y_c0 (y_runS (As := [.int (J (eE ((2 : Int) ^ b * a))), .int (J (eE ((2 : Int) ^ b * a)))]) (rest := []) ⟨hx, hb, hml, hown, hts⟩ (c_Curve_sum l G ((2 : Int) ^ b * a) ((2 : Int) ^ b * a)) 2 k_co_Curve_sum k_ml_Curve_19 k_st_Curve_sum k_in_Curve rfl rfl (by decide +kernel) ⟨Nat.le_of_ble_eq_true rfl, Nat.le_of_ble_eq_true rfl⟩ (yPs0 (yK_bl G) (yK_mv G) hK) rfl hl.1 rfl (Nat.le_of_ble_eq_true rfl) d_Curve_multiple_32 ⟨Nat.zero_le _, Nat.zero_le _⟩) hS (fun H locs _ _ hS => ?_)
        refine lv_istore_n (lv' := [(3, .int (J (eE (((2 : Int) ^ b * a) + ((2 : Int) ^ b * a))))), (2, .int (J (eE ((((n % 2 ^ b : Nat) : Int) * a) + ((2 : Int) ^ b * a))))), (4, .int (J (((b : Nat) : Int)))), (0, .int (J ((n : Int)))), (1, .int (J (eE a)))]) hx hb d_Curve_multiple_35 rfl hl (by decide) rfl (fun ls hl => ?_)
        refine lv_iinc (k := 2) (v := J (((b : Nat) : Int) + 1)) (lv' := [(4, .int (J (((b : Nat) : Int) + 1))), (3, .int (J (eE (((2 : Int) ^ b * a) + ((2 : Int) ^ b * a))))), (2, .int (J (eE ((((n % 2 ^ b : Nat) : Int) * a) + ((2 : Int) ^ b * a))))), (0, .int (J ((n : Int)))), (1, .int (J (eE a)))]) hx hb d_Curve_multiple_36 hl rfl (J_add _ _) (by decide) rfl (fun ls hl => ?_)
        refine lv_goto (tgt := 7) hx hb d_Curve_multiple_39 (by decide) ?_
        refine ih (b + 1) (by omega) ls H locs hS ?_
        have e2 : ((n % 2 ^ (b + 1) : Nat) : Int) * a = ((n % 2 ^ b : Nat) : Int) * a + 2 ^ b * a := by
          rw [j_bit, show n / 2 ^ b % 2 = 1 by rw [hdiv] at hbit; omega, Nat.mul_one, Int.natCast_add, Int.natCast_pow, Int.add_mul]; rfl
        rw [e2, e3, Int.natCast_add]
        exact hl
  refine loop 12 0 rfl ls s.heap [] hS ?_
  have z1 : (2 : Int) ^ 0 * a = a := by rw [Int.pow_zero, Int.one_mul]
  have z2 : ((n % 2 ^ 0 : Nat) : Int) * a = 0 := by rw [Nat.pow_zero, Nat.mod_one]; exact Int.zero_mul a
  rw [z1, z2, eE_0]
  exact hl
