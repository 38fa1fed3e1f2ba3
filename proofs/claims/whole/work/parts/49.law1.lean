/-! The law: its rows, its start. -/
theorem jr_x (x : Int32) : jr x.toInt := by
  obtain ⟨q, h1, h2⟩ := J_ex x
  rw [h2, J_toInt h1]
  exact h1
theorem J_nat {L : Nat} (h : L < 2147483648) : Int32.ofNat L = J (L : Int) := by
  exact (J_of (Int32.ofNat L)).symm.trans (by rw [Int32.toInt_ofNat_of_lt (by omega)])
theorem y_ac {A : Array Value} {s : State} {ty : FieldType} (h : (Cond.arrayClass ty).before A s = true) : ∃ cA, ArrOfT s cA ty ∧ s.vm.findClass ("[" ++ ty.toString) = some cA := by
  obtain ⟨cA, kA, comp, hf, hk, hkind⟩ := Cond.arrayClass_spec h
  exact ⟨cA, fun n z => ⟨fun k h => (by cases h), kA, hk, comp, hkind⟩, hf⟩
theorem y_ao {A : Array Value} {s : State} {C : String} (h : (Cond.arrayOver (.object C)).before A s = true) : ∃ cA, ArrOfT s cA (.object C) ∧ va_RA s cA (.object C) := by
  obtain ⟨comp, c, k, h1, h2, h3, h4, h5⟩ := Cond.arrayOver_spec h
  exact ⟨c, fun n z => ⟨fun k h => (by cases h), k, h3, comp, h4⟩, k, comp, h3, h4, h1, h5⟩
theorem y_G {A : Array Value} {s : State} (hts : ∀ w ∈ lw_tbl, w.before A s = true) : ∃ G : yG, yK2 G s := by
  have hA : ∀ w ∈ yT, w.before A s = true := fun w h => hts w (List.mem_filter.mp h).1
  obtain ⟨c0, i0, k0⟩ := u_known (T := F_P) (N := 6) hA in_P (hA _ k_it_P)
  obtain ⟨c1, i1, k1⟩ := u_known (T := F_Base) (N := 1) hA in_Base (hA _ k_it_Base)
  obtain ⟨c2, i2, k2⟩ := u_known (T := F_Bases) (N := 5) hA in_Bases (hA _ k_it_Bases)
  obtain ⟨c3, i3, k3⟩ := u_known (T := F_Block) (N := 5) hA in_Block (hA _ k_it_Block)
  obtain ⟨c4, i4, k4⟩ := u_known (T := F_Chain) (N := 4) hA in_Chain (hA _ k_it_Chain)
  obtain ⟨c5, i5, k5⟩ := u_known (T := F_Draft) (N := 6) hA in_Draft (hA _ k_it_Draft)
  obtain ⟨c6, i6, k6⟩ := u_known (T := F_Key) (N := 6) hA in_Key (hA _ k_it_Key)
  obtain ⟨c7, i7, k7⟩ := u_known (T := F_Output) (N := 9) hA in_Output (hA _ k_it_Output)
  obtain ⟨c8, i8, k8⟩ := u_known (T := F_Spend) (N := 10) hA in_Spend (hA _ k_it_Spend)
  obtain ⟨c9, i9, k9⟩ := u_known (T := F_Tree) (N := 6) hA in_Tree (hA _ k_it_Tree)
  obtain ⟨c10, i10, k10⟩ := u_known (T := F_M) (N := 33) hA in_M (hA _ k_it_M)
  obtain ⟨a0, r0, s0⟩ := y_ac (hA _ k_ac_int)
  obtain ⟨a1, r1, s1⟩ := y_ac (hA _ k_ac_boolean)
  have o2 : (Cond.arrayOver (.object R_Key)).before A s = true := hts _ (List.mem_append_right _ (List.mem_append_right _ (List.mem_append_left _ (List.mem_of_getElem? (i := 49) (by decide +kernel)))))
  obtain ⟨a2, r2, s2⟩ := y_ao o2
  have o3 : (Cond.arrayOver (.object R_Spend)).before A s = true := hts _ (List.mem_append_right _ (List.mem_append_left _ (List.mem_of_getElem? (i := 174) (by decide +kernel))))
  obtain ⟨a3, r3, s3⟩ := y_ao o3
  have o4 : (Cond.arrayOver (.object R_Output)).before A s = true := hts _ (List.mem_append_right _ (List.mem_append_left _ (List.mem_of_getElem? (i := 176) (by decide +kernel))))
  obtain ⟨a4, r4, s4⟩ := y_ao o4
  have o5 : (Cond.arrayOver (.object R_Block)).before A s = true := hts _ (List.mem_append_right _ (List.mem_append_left _ (List.mem_of_getElem? (i := 129) (by decide +kernel))))
  obtain ⟨a5, r5, s5⟩ := y_ao o5
  refine ⟨(((fun i => match i with | 0 => c0 | 1 => c1 | 2 => c2 | 3 => c3 | 4 => c4 | 5 => c5 | 6 => c6 | 7 => c7 | 8 => c8 | 9 => c9 | _ => c10), (fun i => match i with | 0 => i0 | 1 => i1 | 2 => i2 | 3 => i3 | 4 => i4 | 5 => i5 | 6 => i6 | 7 => i7 | 8 => i8 | 9 => i9 | _ => i10)), (fun i => match i with | 0 => a0 | 1 => a1 | 2 => a2 | 3 => a3 | 4 => a4 | _ => a5)), ⟨⟨fun c q hq => ?_, fun t q hq => ?_⟩, yNest_of hts⟩, va_AO.of o5, va_AO.of o3, va_AO.of o4, va_AO.of o2⟩
  · match c, hq with
    | 0, hq => cases hq; exact k0
    | 1, hq => cases hq; exact k1
    | 2, hq => cases hq; exact k2
    | 3, hq => cases hq; exact k3
    | 4, hq => cases hq; exact k4
    | 5, hq => cases hq; exact k5
    | 6, hq => cases hq; exact k6
    | 7, hq => cases hq; exact k7
    | 8, hq => cases hq; exact k8
    | 9, hq => cases hq; exact k9
    | 10, hq => cases hq; exact k10
    | _ + 11, hq => cases hq
  · match t, hq with
    | 0, hq => cases hq; exact ⟨r0, s0⟩
    | 1, hq => cases hq; exact ⟨r1, s1⟩
    | 2, hq => cases hq; exact ⟨r2, s2⟩
    | 3, hq => cases hq; exact ⟨r3, s3⟩
    | 4, hq => cases hq; exact ⟨r4, s4⟩
    | 5, hq => cases hq; exact ⟨r5, s5⟩
    | _ + 6, hq => cases hq
theorem d_law_0 : decode code 0 = .ok (.new 7, 3) := by decide +kernel
theorem d_law_3 : decode code 3 = .ok (.dup, 1) := by decide +kernel
theorem d_law_4 : decode code 4 = .ok (.invokespecial 9, 3) := by decide +kernel
theorem d_law_7 : decode code 7 = .ok (.astore_n 1, 1) := by decide +kernel
theorem d_law_8 : decode code 8 = .ok (.new 10, 3) := by decide +kernel
theorem d_law_11 : decode code 11 = .ok (.dup, 1) := by decide +kernel
theorem d_law_12 : decode code 12 = .ok (.invokespecial 12, 3) := by decide +kernel
theorem d_law_15 : decode code 15 = .ok (.astore_n 2, 1) := by decide +kernel
theorem d_law_16 : decode code 16 = .ok (.iconst 0, 1) := by decide +kernel
theorem d_law_17 : decode code 17 = .ok (.istore_n 3, 1) := by decide +kernel
theorem d_law_18 : decode code 18 = .ok (.iload_n 3, 1) := by decide +kernel
theorem d_law_19 : decode code 19 = .ok (.aload_n 0, 1) := by decide +kernel
theorem d_law_20 : decode code 20 = .ok (.arraylength, 1) := by decide +kernel
theorem d_law_21 : decode code 21 = .ok (.bipush 6, 2) := by decide +kernel
theorem d_law_23 : decode code 23 = .ok (.isub, 1) := by decide +kernel
theorem d_law_24 : decode code 24 = .ok (.if_icmp .gt 537, 3) := by decide +kernel
theorem d_law_27 : decode code 27 = .ok (.aload_n 0, 1) := by decide +kernel
theorem d_law_28 : decode code 28 = .ok (.iload_n 3, 1) := by decide +kernel
theorem d_law_29 : decode code 29 = .ok (.iaload, 1) := by decide +kernel
theorem d_law_30 : decode code 30 = .ok (.bipush 31, 2) := by decide +kernel
theorem d_law_32 : decode code 32 = .ok (.iand, 1) := by decide +kernel
theorem d_law_33 : decode code 33 = .ok (.tableswitch 522 0 16 #[83, 106, 117, 160, 223, 246, 279, 292, 305, 318, 331, 364, 377, 400, 443, 466, 499], 83) := by decide +kernel
theorem d_law_116 : decode code 116 = .ok (.aload_n 1, 1) := by decide +kernel
theorem d_law_117 : decode code 117 = .ok (.aload_n 0, 1) := by decide +kernel
theorem d_law_118 : decode code 118 = .ok (.iload_n 3, 1) := by decide +kernel
theorem d_law_119 : decode code 119 = .ok (.iconst 1, 1) := by decide +kernel
theorem d_law_120 : decode code 120 = .ok (.iadd, 1) := by decide +kernel
theorem d_law_121 : decode code 121 = .ok (.iaload, 1) := by decide +kernel
theorem d_law_122 : decode code 122 = .ok (.invokevirtual 13, 3) := by decide +kernel
theorem d_law_125 : decode code 125 = .ok (.aload_n 2, 1) := by decide +kernel
theorem d_law_126 : decode code 126 = .ok (.aload_n 0, 1) := by decide +kernel
theorem d_law_127 : decode code 127 = .ok (.iload_n 3, 1) := by decide +kernel
theorem d_law_128 : decode code 128 = .ok (.iconst 1, 1) := by decide +kernel
theorem d_law_129 : decode code 129 = .ok (.iadd, 1) := by decide +kernel
theorem d_law_130 : decode code 130 = .ok (.iaload, 1) := by decide +kernel
theorem d_law_131 : decode code 131 = .ok (.invokevirtual 17, 3) := by decide +kernel
theorem d_law_134 : decode code 134 = .ok (.if_icmp .eq 421, 3) := by decide +kernel
theorem d_law_137 : decode code 137 = .ok (.iconst 0, 1) := by decide +kernel
theorem d_law_138 : decode code 138 = .ok (.ireturn, 1) := by decide +kernel
theorem d_law_139 : decode code 139 = .ok (.aload_n 1, 1) := by decide +kernel
theorem d_law_140 : decode code 140 = .ok (.invokevirtual 18, 3) := by decide +kernel
theorem d_law_143 : decode code 143 = .ok (.aload_n 2, 1) := by decide +kernel
theorem d_law_144 : decode code 144 = .ok (.invokevirtual 21, 3) := by decide +kernel
theorem d_law_147 : decode code 147 = .ok (.goto 408, 3) := by decide +kernel
theorem d_law_150 : decode code 150 = .ok (.aload_n 1, 1) := by decide +kernel
theorem d_law_151 : decode code 151 = .ok (.aload_n 0, 1) := by decide +kernel
theorem d_law_152 : decode code 152 = .ok (.iload_n 3, 1) := by decide +kernel
theorem d_law_153 : decode code 153 = .ok (.iconst 1, 1) := by decide +kernel
theorem d_law_154 : decode code 154 = .ok (.iadd, 1) := by decide +kernel
theorem d_law_155 : decode code 155 = .ok (.iaload, 1) := by decide +kernel
theorem d_law_156 : decode code 156 = .ok (.aload_n 0, 1) := by decide +kernel
theorem d_law_157 : decode code 157 = .ok (.iload_n 3, 1) := by decide +kernel
theorem d_law_158 : decode code 158 = .ok (.iconst 2, 1) := by decide +kernel
theorem d_law_159 : decode code 159 = .ok (.iadd, 1) := by decide +kernel
theorem d_law_160 : decode code 160 = .ok (.iaload, 1) := by decide +kernel
theorem d_law_161 : decode code 161 = .ok (.aload_n 0, 1) := by decide +kernel
theorem d_law_162 : decode code 162 = .ok (.iload_n 3, 1) := by decide +kernel
theorem d_law_163 : decode code 163 = .ok (.iconst 3, 1) := by decide +kernel
theorem d_law_164 : decode code 164 = .ok (.iadd, 1) := by decide +kernel
theorem d_law_165 : decode code 165 = .ok (.iaload, 1) := by decide +kernel
theorem d_law_166 : decode code 166 = .ok (.invokevirtual 22, 3) := by decide +kernel
theorem d_law_169 : decode code 169 = .ok (.aload_n 2, 1) := by decide +kernel
theorem d_law_170 : decode code 170 = .ok (.aload_n 0, 1) := by decide +kernel
theorem d_law_171 : decode code 171 = .ok (.iload_n 3, 1) := by decide +kernel
theorem d_law_172 : decode code 172 = .ok (.iconst 1, 1) := by decide +kernel
theorem d_law_173 : decode code 173 = .ok (.iadd, 1) := by decide +kernel
theorem d_law_174 : decode code 174 = .ok (.iaload, 1) := by decide +kernel
theorem d_law_175 : decode code 175 = .ok (.aload_n 0, 1) := by decide +kernel
theorem d_law_176 : decode code 176 = .ok (.iload_n 3, 1) := by decide +kernel
theorem d_law_177 : decode code 177 = .ok (.iconst 2, 1) := by decide +kernel
theorem d_law_178 : decode code 178 = .ok (.iadd, 1) := by decide +kernel
theorem d_law_179 : decode code 179 = .ok (.iaload, 1) := by decide +kernel
theorem d_law_180 : decode code 180 = .ok (.aload_n 0, 1) := by decide +kernel
theorem d_law_181 : decode code 181 = .ok (.iload_n 3, 1) := by decide +kernel
theorem d_law_182 : decode code 182 = .ok (.iconst 3, 1) := by decide +kernel
theorem d_law_183 : decode code 183 = .ok (.iadd, 1) := by decide +kernel
theorem d_law_184 : decode code 184 = .ok (.iaload, 1) := by decide +kernel
theorem d_law_185 : decode code 185 = .ok (.invokevirtual 26, 3) := by decide +kernel
theorem d_law_188 : decode code 188 = .ok (.if_icmp .eq 367, 3) := by decide +kernel
theorem d_law_191 : decode code 191 = .ok (.iconst 0, 1) := by decide +kernel
theorem d_law_192 : decode code 192 = .ok (.ireturn, 1) := by decide +kernel
theorem d_law_193 : decode code 193 = .ok (.aload_n 1, 1) := by decide +kernel
theorem d_law_194 : decode code 194 = .ok (.aload_n 0, 1) := by decide +kernel
theorem d_law_195 : decode code 195 = .ok (.iload_n 3, 1) := by decide +kernel
theorem d_law_196 : decode code 196 = .ok (.iconst 1, 1) := by decide +kernel
theorem d_law_197 : decode code 197 = .ok (.iadd, 1) := by decide +kernel
theorem d_law_198 : decode code 198 = .ok (.iaload, 1) := by decide +kernel
theorem d_law_199 : decode code 199 = .ok (.aload_n 0, 1) := by decide +kernel
theorem d_law_200 : decode code 200 = .ok (.iload_n 3, 1) := by decide +kernel
theorem d_law_201 : decode code 201 = .ok (.iconst 2, 1) := by decide +kernel
theorem d_law_202 : decode code 202 = .ok (.iadd, 1) := by decide +kernel
theorem d_law_203 : decode code 203 = .ok (.iaload, 1) := by decide +kernel
theorem d_law_204 : decode code 204 = .ok (.aload_n 0, 1) := by decide +kernel
theorem d_law_205 : decode code 205 = .ok (.iload_n 3, 1) := by decide +kernel
theorem d_law_206 : decode code 206 = .ok (.iconst 3, 1) := by decide +kernel
theorem d_law_207 : decode code 207 = .ok (.iadd, 1) := by decide +kernel
theorem d_law_208 : decode code 208 = .ok (.iaload, 1) := by decide +kernel
theorem d_law_209 : decode code 209 = .ok (.aload_n 0, 1) := by decide +kernel
theorem d_law_210 : decode code 210 = .ok (.iload_n 3, 1) := by decide +kernel
theorem d_law_211 : decode code 211 = .ok (.iconst 4, 1) := by decide +kernel
theorem d_law_212 : decode code 212 = .ok (.iadd, 1) := by decide +kernel
theorem d_law_213 : decode code 213 = .ok (.iaload, 1) := by decide +kernel
theorem d_law_214 : decode code 214 = .ok (.aload_n 0, 1) := by decide +kernel
theorem d_law_215 : decode code 215 = .ok (.iload_n 3, 1) := by decide +kernel
theorem d_law_216 : decode code 216 = .ok (.iconst 5, 1) := by decide +kernel
theorem d_law_217 : decode code 217 = .ok (.iadd, 1) := by decide +kernel
theorem d_law_218 : decode code 218 = .ok (.iaload, 1) := by decide +kernel
theorem d_law_219 : decode code 219 = .ok (.invokevirtual 27, 3) := by decide +kernel
theorem d_law_222 : decode code 222 = .ok (.aload_n 2, 1) := by decide +kernel
theorem d_law_223 : decode code 223 = .ok (.aload_n 0, 1) := by decide +kernel
theorem d_law_224 : decode code 224 = .ok (.iload_n 3, 1) := by decide +kernel
theorem d_law_225 : decode code 225 = .ok (.iconst 1, 1) := by decide +kernel
theorem d_law_226 : decode code 226 = .ok (.iadd, 1) := by decide +kernel
theorem d_law_227 : decode code 227 = .ok (.iaload, 1) := by decide +kernel
theorem d_law_228 : decode code 228 = .ok (.aload_n 0, 1) := by decide +kernel
theorem d_law_229 : decode code 229 = .ok (.iload_n 3, 1) := by decide +kernel
theorem d_law_230 : decode code 230 = .ok (.iconst 2, 1) := by decide +kernel
theorem d_law_231 : decode code 231 = .ok (.iadd, 1) := by decide +kernel
theorem d_law_232 : decode code 232 = .ok (.iaload, 1) := by decide +kernel
theorem d_law_233 : decode code 233 = .ok (.aload_n 0, 1) := by decide +kernel
theorem d_law_234 : decode code 234 = .ok (.iload_n 3, 1) := by decide +kernel
theorem d_law_235 : decode code 235 = .ok (.iconst 3, 1) := by decide +kernel
theorem d_law_236 : decode code 236 = .ok (.iadd, 1) := by decide +kernel
theorem d_law_237 : decode code 237 = .ok (.iaload, 1) := by decide +kernel
theorem d_law_238 : decode code 238 = .ok (.aload_n 0, 1) := by decide +kernel
theorem d_law_239 : decode code 239 = .ok (.iload_n 3, 1) := by decide +kernel
theorem d_law_240 : decode code 240 = .ok (.iconst 4, 1) := by decide +kernel
theorem d_law_241 : decode code 241 = .ok (.iadd, 1) := by decide +kernel
theorem d_law_242 : decode code 242 = .ok (.iaload, 1) := by decide +kernel
theorem d_law_243 : decode code 243 = .ok (.aload_n 0, 1) := by decide +kernel
theorem d_law_244 : decode code 244 = .ok (.iload_n 3, 1) := by decide +kernel
theorem d_law_245 : decode code 245 = .ok (.iconst 5, 1) := by decide +kernel
theorem d_law_246 : decode code 246 = .ok (.iadd, 1) := by decide +kernel
theorem d_law_247 : decode code 247 = .ok (.iaload, 1) := by decide +kernel
theorem d_law_248 : decode code 248 = .ok (.invokevirtual 31, 3) := by decide +kernel
theorem d_law_251 : decode code 251 = .ok (.if_icmp .eq 304, 3) := by decide +kernel
theorem d_law_254 : decode code 254 = .ok (.iconst 0, 1) := by decide +kernel
theorem d_law_255 : decode code 255 = .ok (.ireturn, 1) := by decide +kernel
theorem d_law_256 : decode code 256 = .ok (.aload_n 1, 1) := by decide +kernel
theorem d_law_257 : decode code 257 = .ok (.aload_n 0, 1) := by decide +kernel
theorem d_law_258 : decode code 258 = .ok (.iload_n 3, 1) := by decide +kernel
theorem d_law_259 : decode code 259 = .ok (.iconst 1, 1) := by decide +kernel
theorem d_law_260 : decode code 260 = .ok (.iadd, 1) := by decide +kernel
theorem d_law_261 : decode code 261 = .ok (.iaload, 1) := by decide +kernel
theorem d_law_262 : decode code 262 = .ok (.invokevirtual 32, 3) := by decide +kernel
theorem d_law_265 : decode code 265 = .ok (.aload_n 2, 1) := by decide +kernel
theorem d_law_266 : decode code 266 = .ok (.aload_n 0, 1) := by decide +kernel
theorem d_law_267 : decode code 267 = .ok (.iload_n 3, 1) := by decide +kernel
theorem d_law_268 : decode code 268 = .ok (.iconst 1, 1) := by decide +kernel
theorem d_law_269 : decode code 269 = .ok (.iadd, 1) := by decide +kernel
theorem d_law_270 : decode code 270 = .ok (.iaload, 1) := by decide +kernel
theorem d_law_271 : decode code 271 = .ok (.invokevirtual 36, 3) := by decide +kernel
theorem d_law_274 : decode code 274 = .ok (.if_icmp .eq 281, 3) := by decide +kernel
theorem d_law_277 : decode code 277 = .ok (.iconst 0, 1) := by decide +kernel
theorem d_law_278 : decode code 278 = .ok (.ireturn, 1) := by decide +kernel
theorem d_law_279 : decode code 279 = .ok (.aload_n 1, 1) := by decide +kernel
theorem d_law_280 : decode code 280 = .ok (.aload_n 0, 1) := by decide +kernel
theorem d_law_281 : decode code 281 = .ok (.iload_n 3, 1) := by decide +kernel
theorem d_law_282 : decode code 282 = .ok (.iconst 1, 1) := by decide +kernel
theorem d_law_283 : decode code 283 = .ok (.iadd, 1) := by decide +kernel
theorem d_law_284 : decode code 284 = .ok (.iaload, 1) := by decide +kernel
theorem d_law_285 : decode code 285 = .ok (.aload_n 0, 1) := by decide +kernel
theorem d_law_286 : decode code 286 = .ok (.iload_n 3, 1) := by decide +kernel
theorem d_law_287 : decode code 287 = .ok (.iconst 2, 1) := by decide +kernel
theorem d_law_288 : decode code 288 = .ok (.iadd, 1) := by decide +kernel
theorem d_law_289 : decode code 289 = .ok (.iaload, 1) := by decide +kernel
theorem d_law_290 : decode code 290 = .ok (.invokevirtual 37, 3) := by decide +kernel
theorem d_law_293 : decode code 293 = .ok (.aload_n 2, 1) := by decide +kernel
theorem d_law_294 : decode code 294 = .ok (.aload_n 0, 1) := by decide +kernel
theorem d_law_295 : decode code 295 = .ok (.iload_n 3, 1) := by decide +kernel
theorem d_law_296 : decode code 296 = .ok (.iconst 1, 1) := by decide +kernel
theorem d_law_297 : decode code 297 = .ok (.iadd, 1) := by decide +kernel
theorem d_law_298 : decode code 298 = .ok (.iaload, 1) := by decide +kernel
theorem d_law_299 : decode code 299 = .ok (.aload_n 0, 1) := by decide +kernel
theorem d_law_300 : decode code 300 = .ok (.iload_n 3, 1) := by decide +kernel
theorem d_law_301 : decode code 301 = .ok (.iconst 2, 1) := by decide +kernel
theorem d_law_302 : decode code 302 = .ok (.iadd, 1) := by decide +kernel
theorem d_law_303 : decode code 303 = .ok (.iaload, 1) := by decide +kernel
theorem d_law_304 : decode code 304 = .ok (.invokevirtual 41, 3) := by decide +kernel
theorem d_law_307 : decode code 307 = .ok (.if_icmp .eq 248, 3) := by decide +kernel
theorem d_law_310 : decode code 310 = .ok (.iconst 0, 1) := by decide +kernel
theorem d_law_311 : decode code 311 = .ok (.ireturn, 1) := by decide +kernel
theorem d_law_312 : decode code 312 = .ok (.aload_n 1, 1) := by decide +kernel
theorem d_law_313 : decode code 313 = .ok (.invokevirtual 42, 3) := by decide +kernel
theorem d_law_316 : decode code 316 = .ok (.aload_n 2, 1) := by decide +kernel
theorem d_law_317 : decode code 317 = .ok (.invokevirtual 46, 3) := by decide +kernel
theorem d_law_320 : decode code 320 = .ok (.if_icmp .eq 235, 3) := by decide +kernel
theorem d_law_323 : decode code 323 = .ok (.iconst 0, 1) := by decide +kernel
theorem d_law_324 : decode code 324 = .ok (.ireturn, 1) := by decide +kernel
theorem d_law_325 : decode code 325 = .ok (.aload_n 1, 1) := by decide +kernel
theorem d_law_326 : decode code 326 = .ok (.invokevirtual 47, 3) := by decide +kernel
theorem d_law_329 : decode code 329 = .ok (.aload_n 2, 1) := by decide +kernel
theorem d_law_330 : decode code 330 = .ok (.invokevirtual 50, 3) := by decide +kernel
theorem d_law_333 : decode code 333 = .ok (.if_icmp .eq 222, 3) := by decide +kernel
theorem d_law_336 : decode code 336 = .ok (.iconst 0, 1) := by decide +kernel
theorem d_law_337 : decode code 337 = .ok (.ireturn, 1) := by decide +kernel
theorem d_law_338 : decode code 338 = .ok (.aload_n 1, 1) := by decide +kernel
theorem d_law_339 : decode code 339 = .ok (.invokevirtual 51, 3) := by decide +kernel
theorem d_law_342 : decode code 342 = .ok (.aload_n 2, 1) := by decide +kernel
theorem d_law_343 : decode code 343 = .ok (.invokevirtual 54, 3) := by decide +kernel
theorem d_law_346 : decode code 346 = .ok (.if_icmp .eq 209, 3) := by decide +kernel
theorem d_law_349 : decode code 349 = .ok (.iconst 0, 1) := by decide +kernel
theorem d_law_350 : decode code 350 = .ok (.ireturn, 1) := by decide +kernel
theorem d_law_351 : decode code 351 = .ok (.aload_n 1, 1) := by decide +kernel
theorem d_law_352 : decode code 352 = .ok (.invokevirtual 55, 3) := by decide +kernel
theorem d_law_355 : decode code 355 = .ok (.aload_n 2, 1) := by decide +kernel
theorem d_law_356 : decode code 356 = .ok (.invokevirtual 58, 3) := by decide +kernel
theorem d_law_359 : decode code 359 = .ok (.if_icmp .eq 196, 3) := by decide +kernel
theorem d_law_362 : decode code 362 = .ok (.iconst 0, 1) := by decide +kernel
theorem d_law_363 : decode code 363 = .ok (.ireturn, 1) := by decide +kernel
theorem d_law_364 : decode code 364 = .ok (.aload_n 1, 1) := by decide +kernel
theorem d_law_365 : decode code 365 = .ok (.aload_n 0, 1) := by decide +kernel
theorem d_law_366 : decode code 366 = .ok (.iload_n 3, 1) := by decide +kernel
theorem d_law_367 : decode code 367 = .ok (.iconst 1, 1) := by decide +kernel
theorem d_law_368 : decode code 368 = .ok (.iadd, 1) := by decide +kernel
theorem d_law_369 : decode code 369 = .ok (.iaload, 1) := by decide +kernel
theorem d_law_370 : decode code 370 = .ok (.aload_n 0, 1) := by decide +kernel
theorem d_law_371 : decode code 371 = .ok (.iload_n 3, 1) := by decide +kernel
theorem d_law_372 : decode code 372 = .ok (.iconst 2, 1) := by decide +kernel
theorem d_law_373 : decode code 373 = .ok (.iadd, 1) := by decide +kernel
theorem d_law_374 : decode code 374 = .ok (.iaload, 1) := by decide +kernel
theorem d_law_375 : decode code 375 = .ok (.invokevirtual 59, 3) := by decide +kernel
theorem d_law_378 : decode code 378 = .ok (.aload_n 2, 1) := by decide +kernel
theorem d_law_379 : decode code 379 = .ok (.aload_n 0, 1) := by decide +kernel
theorem d_law_380 : decode code 380 = .ok (.iload_n 3, 1) := by decide +kernel
theorem d_law_381 : decode code 381 = .ok (.iconst 1, 1) := by decide +kernel
theorem d_law_382 : decode code 382 = .ok (.iadd, 1) := by decide +kernel
theorem d_law_383 : decode code 383 = .ok (.iaload, 1) := by decide +kernel
theorem d_law_384 : decode code 384 = .ok (.aload_n 0, 1) := by decide +kernel
theorem d_law_385 : decode code 385 = .ok (.iload_n 3, 1) := by decide +kernel
theorem d_law_386 : decode code 386 = .ok (.iconst 2, 1) := by decide +kernel
theorem d_law_387 : decode code 387 = .ok (.iadd, 1) := by decide +kernel
theorem d_law_388 : decode code 388 = .ok (.iaload, 1) := by decide +kernel
theorem d_law_389 : decode code 389 = .ok (.invokevirtual 63, 3) := by decide +kernel
theorem d_law_392 : decode code 392 = .ok (.if_icmp .eq 163, 3) := by decide +kernel
theorem d_law_395 : decode code 395 = .ok (.iconst 0, 1) := by decide +kernel
theorem d_law_396 : decode code 396 = .ok (.ireturn, 1) := by decide +kernel
theorem d_law_397 : decode code 397 = .ok (.aload_n 1, 1) := by decide +kernel
theorem d_law_398 : decode code 398 = .ok (.invokevirtual 64, 3) := by decide +kernel
theorem d_law_401 : decode code 401 = .ok (.aload_n 2, 1) := by decide +kernel
theorem d_law_402 : decode code 402 = .ok (.invokevirtual 67, 3) := by decide +kernel
theorem d_law_405 : decode code 405 = .ok (.if_icmp .eq 150, 3) := by decide +kernel
theorem d_law_408 : decode code 408 = .ok (.iconst 0, 1) := by decide +kernel
theorem d_law_409 : decode code 409 = .ok (.ireturn, 1) := by decide +kernel
theorem d_law_410 : decode code 410 = .ok (.aload_n 1, 1) := by decide +kernel
theorem d_law_411 : decode code 411 = .ok (.aload_n 0, 1) := by decide +kernel
theorem d_law_412 : decode code 412 = .ok (.iload_n 3, 1) := by decide +kernel
theorem d_law_413 : decode code 413 = .ok (.iconst 1, 1) := by decide +kernel
theorem d_law_414 : decode code 414 = .ok (.iadd, 1) := by decide +kernel
theorem d_law_415 : decode code 415 = .ok (.iaload, 1) := by decide +kernel
theorem d_law_416 : decode code 416 = .ok (.invokevirtual 68, 3) := by decide +kernel
theorem d_law_419 : decode code 419 = .ok (.aload_n 2, 1) := by decide +kernel
theorem d_law_420 : decode code 420 = .ok (.aload_n 0, 1) := by decide +kernel
theorem d_law_421 : decode code 421 = .ok (.iload_n 3, 1) := by decide +kernel
theorem d_law_422 : decode code 422 = .ok (.iconst 1, 1) := by decide +kernel
theorem d_law_423 : decode code 423 = .ok (.iadd, 1) := by decide +kernel
theorem d_law_424 : decode code 424 = .ok (.iaload, 1) := by decide +kernel
theorem d_law_425 : decode code 425 = .ok (.invokevirtual 71, 3) := by decide +kernel
theorem d_law_428 : decode code 428 = .ok (.if_icmp .eq 127, 3) := by decide +kernel
theorem d_law_431 : decode code 431 = .ok (.iconst 0, 1) := by decide +kernel
theorem d_law_432 : decode code 432 = .ok (.ireturn, 1) := by decide +kernel
theorem d_law_433 : decode code 433 = .ok (.aload_n 1, 1) := by decide +kernel
theorem d_law_434 : decode code 434 = .ok (.aload_n 0, 1) := by decide +kernel
theorem d_law_435 : decode code 435 = .ok (.iload_n 3, 1) := by decide +kernel
theorem d_law_436 : decode code 436 = .ok (.iconst 1, 1) := by decide +kernel
theorem d_law_437 : decode code 437 = .ok (.iadd, 1) := by decide +kernel
theorem d_law_438 : decode code 438 = .ok (.iaload, 1) := by decide +kernel
theorem d_law_439 : decode code 439 = .ok (.aload_n 0, 1) := by decide +kernel
theorem d_law_440 : decode code 440 = .ok (.iload_n 3, 1) := by decide +kernel
theorem d_law_441 : decode code 441 = .ok (.iconst 2, 1) := by decide +kernel
theorem d_law_442 : decode code 442 = .ok (.iadd, 1) := by decide +kernel
theorem d_law_443 : decode code 443 = .ok (.iaload, 1) := by decide +kernel
theorem d_law_444 : decode code 444 = .ok (.aload_n 0, 1) := by decide +kernel
theorem d_law_445 : decode code 445 = .ok (.iload_n 3, 1) := by decide +kernel
theorem d_law_446 : decode code 446 = .ok (.iconst 3, 1) := by decide +kernel
theorem d_law_447 : decode code 447 = .ok (.iadd, 1) := by decide +kernel
theorem d_law_448 : decode code 448 = .ok (.iaload, 1) := by decide +kernel
theorem d_law_449 : decode code 449 = .ok (.invokevirtual 72, 3) := by decide +kernel
theorem d_law_452 : decode code 452 = .ok (.aload_n 2, 1) := by decide +kernel
theorem d_law_453 : decode code 453 = .ok (.aload_n 0, 1) := by decide +kernel
theorem d_law_454 : decode code 454 = .ok (.iload_n 3, 1) := by decide +kernel
theorem d_law_455 : decode code 455 = .ok (.iconst 1, 1) := by decide +kernel
theorem d_law_456 : decode code 456 = .ok (.iadd, 1) := by decide +kernel
theorem d_law_457 : decode code 457 = .ok (.iaload, 1) := by decide +kernel
theorem d_law_458 : decode code 458 = .ok (.aload_n 0, 1) := by decide +kernel
theorem d_law_459 : decode code 459 = .ok (.iload_n 3, 1) := by decide +kernel
theorem d_law_460 : decode code 460 = .ok (.iconst 2, 1) := by decide +kernel
theorem d_law_461 : decode code 461 = .ok (.iadd, 1) := by decide +kernel
theorem d_law_462 : decode code 462 = .ok (.iaload, 1) := by decide +kernel
theorem d_law_463 : decode code 463 = .ok (.aload_n 0, 1) := by decide +kernel
theorem d_law_464 : decode code 464 = .ok (.iload_n 3, 1) := by decide +kernel
theorem d_law_465 : decode code 465 = .ok (.iconst 3, 1) := by decide +kernel
theorem d_law_466 : decode code 466 = .ok (.iadd, 1) := by decide +kernel
theorem d_law_467 : decode code 467 = .ok (.iaload, 1) := by decide +kernel
theorem d_law_468 : decode code 468 = .ok (.invokevirtual 76, 3) := by decide +kernel
theorem d_law_471 : decode code 471 = .ok (.if_icmp .eq 84, 3) := by decide +kernel
theorem d_law_474 : decode code 474 = .ok (.iconst 0, 1) := by decide +kernel
theorem d_law_475 : decode code 475 = .ok (.ireturn, 1) := by decide +kernel
theorem d_law_476 : decode code 476 = .ok (.aload_n 1, 1) := by decide +kernel
theorem d_law_477 : decode code 477 = .ok (.aload_n 0, 1) := by decide +kernel
theorem d_law_478 : decode code 478 = .ok (.iload_n 3, 1) := by decide +kernel
theorem d_law_479 : decode code 479 = .ok (.iconst 1, 1) := by decide +kernel
theorem d_law_480 : decode code 480 = .ok (.iadd, 1) := by decide +kernel
theorem d_law_481 : decode code 481 = .ok (.iaload, 1) := by decide +kernel
theorem d_law_482 : decode code 482 = .ok (.invokevirtual 77, 3) := by decide +kernel
theorem d_law_485 : decode code 485 = .ok (.aload_n 2, 1) := by decide +kernel
theorem d_law_486 : decode code 486 = .ok (.aload_n 0, 1) := by decide +kernel
theorem d_law_487 : decode code 487 = .ok (.iload_n 3, 1) := by decide +kernel
theorem d_law_488 : decode code 488 = .ok (.iconst 1, 1) := by decide +kernel
theorem d_law_489 : decode code 489 = .ok (.iadd, 1) := by decide +kernel
theorem d_law_490 : decode code 490 = .ok (.iaload, 1) := by decide +kernel
theorem d_law_491 : decode code 491 = .ok (.invokevirtual 80, 3) := by decide +kernel
theorem d_law_494 : decode code 494 = .ok (.if_icmp .eq 61, 3) := by decide +kernel
theorem d_law_497 : decode code 497 = .ok (.iconst 0, 1) := by decide +kernel
theorem d_law_498 : decode code 498 = .ok (.ireturn, 1) := by decide +kernel
theorem d_law_499 : decode code 499 = .ok (.aload_n 1, 1) := by decide +kernel
theorem d_law_500 : decode code 500 = .ok (.aload_n 0, 1) := by decide +kernel
theorem d_law_501 : decode code 501 = .ok (.iload_n 3, 1) := by decide +kernel
theorem d_law_502 : decode code 502 = .ok (.iconst 1, 1) := by decide +kernel
theorem d_law_503 : decode code 503 = .ok (.iadd, 1) := by decide +kernel
theorem d_law_504 : decode code 504 = .ok (.iaload, 1) := by decide +kernel
theorem d_law_505 : decode code 505 = .ok (.aload_n 0, 1) := by decide +kernel
theorem d_law_506 : decode code 506 = .ok (.iload_n 3, 1) := by decide +kernel
theorem d_law_507 : decode code 507 = .ok (.iconst 2, 1) := by decide +kernel
theorem d_law_508 : decode code 508 = .ok (.iadd, 1) := by decide +kernel
theorem d_law_509 : decode code 509 = .ok (.iaload, 1) := by decide +kernel
theorem d_law_510 : decode code 510 = .ok (.invokevirtual 81, 3) := by decide +kernel
theorem d_law_513 : decode code 513 = .ok (.aload_n 2, 1) := by decide +kernel
theorem d_law_514 : decode code 514 = .ok (.aload_n 0, 1) := by decide +kernel
theorem d_law_515 : decode code 515 = .ok (.iload_n 3, 1) := by decide +kernel
theorem d_law_516 : decode code 516 = .ok (.iconst 1, 1) := by decide +kernel
theorem d_law_517 : decode code 517 = .ok (.iadd, 1) := by decide +kernel
theorem d_law_518 : decode code 518 = .ok (.iaload, 1) := by decide +kernel
theorem d_law_519 : decode code 519 = .ok (.aload_n 0, 1) := by decide +kernel
theorem d_law_520 : decode code 520 = .ok (.iload_n 3, 1) := by decide +kernel
theorem d_law_521 : decode code 521 = .ok (.iconst 2, 1) := by decide +kernel
theorem d_law_522 : decode code 522 = .ok (.iadd, 1) := by decide +kernel
theorem d_law_523 : decode code 523 = .ok (.iaload, 1) := by decide +kernel
theorem d_law_524 : decode code 524 = .ok (.invokevirtual 84, 3) := by decide +kernel
theorem d_law_527 : decode code 527 = .ok (.if_icmp .eq 28, 3) := by decide +kernel
theorem d_law_530 : decode code 530 = .ok (.iconst 0, 1) := by decide +kernel
theorem d_law_531 : decode code 531 = .ok (.ireturn, 1) := by decide +kernel
theorem d_law_532 : decode code 532 = .ok (.aload_n 1, 1) := by decide +kernel
theorem d_law_533 : decode code 533 = .ok (.aload_n 0, 1) := by decide +kernel
theorem d_law_534 : decode code 534 = .ok (.iload_n 3, 1) := by decide +kernel
theorem d_law_535 : decode code 535 = .ok (.iconst 1, 1) := by decide +kernel
theorem d_law_536 : decode code 536 = .ok (.iadd, 1) := by decide +kernel
theorem d_law_537 : decode code 537 = .ok (.iaload, 1) := by decide +kernel
theorem d_law_538 : decode code 538 = .ok (.invokevirtual 85, 3) := by decide +kernel
theorem d_law_541 : decode code 541 = .ok (.aload_n 2, 1) := by decide +kernel
theorem d_law_542 : decode code 542 = .ok (.aload_n 0, 1) := by decide +kernel
theorem d_law_543 : decode code 543 = .ok (.iload_n 3, 1) := by decide +kernel
theorem d_law_544 : decode code 544 = .ok (.iconst 1, 1) := by decide +kernel
theorem d_law_545 : decode code 545 = .ok (.iadd, 1) := by decide +kernel
theorem d_law_546 : decode code 546 = .ok (.iaload, 1) := by decide +kernel
theorem d_law_547 : decode code 547 = .ok (.invokevirtual 88, 3) := by decide +kernel
theorem d_law_550 : decode code 550 = .ok (.if_icmp .eq 5, 3) := by decide +kernel
theorem d_law_553 : decode code 553 = .ok (.iconst 0, 1) := by decide +kernel
theorem d_law_554 : decode code 554 = .ok (.ireturn, 1) := by decide +kernel
theorem d_law_555 : decode code 555 = .ok (.iinc 3 6, 3) := by decide +kernel
theorem d_law_558 : decode code 558 = .ok (.goto (-540), 3) := by decide +kernel
theorem d_law_561 : decode code 561 = .ok (.iconst 1, 1) := by decide +kernel
theorem d_law_562 : decode code 562 = .ok (.ireturn, 1) := by decide +kernel
section YLW
variable {p : Program} {l : Launch} {e : Env} {R : Room} {s : State} {m : MethodId} {args : Array Value} {below : List Frame} {meth : Method} {c : Code} {H : Heap} {locs : List Loc} {cells slots : Nat} {Q : State → Prop} {cc : ByteArray} {pc : Nat} {ls : Array Slot} {rest st0 : List Value}
variable {G : yG} {z : Nat} {σ τ : yM} {A : Nat → Prop} {H0 : Heap} {a : Array Value} {v : Int} {post : Int → yM → Prop} {postv : yM → Prop}
theorem y_sld (hx : p.tables.exec = Jvm.exec) (hb : c.code = cc) {b L : Nat} {xs : Nat → Int32} (hX : va_X b L xs s H0) (hbl : b < H0.size) (hbA : ¬ A b) (hS : va_S A H0 H locs) {i : Int} (k : Nat) (hk : i = (k : Int)) (hkL : k < L) (hL : L < 2147483648) (hdg : decode cc pc = .ok (.iaload, 1))
    (kk : W p l e R s m args below meth c H locs cells slots Q (F0 m (pc + 1) ls (.int (J (xs k).toInt) :: rest))) : W p l e R s m args below meth c H locs cells slots Q (F0 m pc ls (.int (J i) :: .ref b :: rest)) := by
  refine va_sld hx hb hX hbl hbA hS (J_in hk hkL hL) hdg ?_
  rw [J_ix hk hkL hL, ← J_of (xs k)]
  exact kk
theorem y_slen (hx : p.tables.exec = Jvm.exec) (hb : c.code = cc) {b L : Nat} {xs : Nat → Int32} (hX : va_X b L xs s H0) (hbl : b < H0.size) (hbA : ¬ A b) (hS : va_S A H0 H locs) (hL : L < 2147483648) (hdg : decode cc pc = .ok (.arraylength, 1))
    (kk : W p l e R s m args below meth c H locs cells slots Q (F0 m (pc + 1) ls (.int (J (L : Int)) :: rest))) : W p l e R s m args below meth c H locs cells slots Q (F0 m pc ls (.ref b :: rest)) := by
  refine va_slen hx hb hX hbl hbA hS hdg ?_
  rw [J_nat hL]
  exact kk
theorem y_iand' (hx : p.tables.exec = Jvm.exec) (hb : c.code = cc) {a b : Int} (hd : decode cc pc = .ok (.iand, 1)) (k : ∀ n : Int, jr n → W p l e R s m args below meth c H locs cells slots Q (F0 m (pc + 1) ls (.int (J n) :: rest))) : W p l e R s m args below meth c H locs cells slots Q (F0 m pc ls (.int (J b) :: .int (J a) :: rest)) := lv_iand hx hb hd (by
  obtain ⟨n, h1, h2⟩ := J_ex (J a &&& J b)
  rw [h2]
  exact k n h1)
theorem l_ci (hr : va_Run p l e R s m args below meth c H locs cells slots 0 0 (F0 m pc ls st0) rest (yQi v a) yN) (hS : va_S A H0 H locs) (hP : yW ycl G yLP 0 73 z σ H) (hM : yW ycl G yLM 0 28 (z + 73) τ H)
    (kk : ∀ (H1 : Heap) (locs1 : List Loc), yW ycl G yLP 0 73 z σ H1 → yW ycl G yLM 0 28 (z + 73) τ H1 → va_S A H0 H1 locs1 → W p l e R s m args below meth c H1 locs1 cells slots Q (F0 m (pc + 3) ls (.int (J v) :: rest))) : W p l e R s m args below meth c H locs cells slots Q (F0 m pc ls st0) :=
  y_c0 hr hS (fun H1 locs1 hk _ hS1 => kk H1 locs1 (yW_kept hP (fun c _ h => hk _ h)) (yW_kept hM (fun c _ h => hk _ h)) hS1)
theorem l_cgP (hr : va_Run p l e R s m args below meth c H locs cells slots 0 0 (F0 m pc ls st0) rest (yQg ycl G yLP 0 73 z post a) (yA z 0 73)) (hS : va_S A H0 H locs) (hA : ∀ q, z ≤ q → A q) (hM : yW ycl G yLM 0 28 (z + 73) τ H)
    (kk : ∀ (v : Int) (σ' : yM) (H1 : Heap) (locs1 : List Loc), post v σ' → yW ycl G yLP 0 73 z σ' H1 → yW ycl G yLM 0 28 (z + 73) τ H1 → va_S A H0 H1 locs1 → W p l e R s m args below meth c H1 locs1 cells slots Q (F0 m (pc + 3) ls (.int (J v) :: rest))) : W p l e R s m args below meth c H locs cells slots Q (F0 m pc ls st0) :=
  y_cg hr hS (fun d _ => hA _ (by omega)) (fun v σ' H1 locs1 hp hk hW hS1 => kk v σ' H1 locs1 hp hW (yW_kept hM (fun c hc h => hk _ h (by unfold yA; omega))) hS1)
theorem l_cgM (hr : va_Run p l e R s m args below meth c H locs cells slots 0 0 (F0 m pc ls st0) rest (yQg ycl G yLM 0 28 (z + 73) post a) (yA (z + 73) 0 28)) (hS : va_S A H0 H locs) (hA : ∀ q, z ≤ q → A q) (hP : yW ycl G yLP 0 73 z σ H)
    (kk : ∀ (v : Int) (τ' : yM) (H1 : Heap) (locs1 : List Loc), post v τ' → yW ycl G yLP 0 73 z σ H1 → yW ycl G yLM 0 28 (z + 73) τ' H1 → va_S A H0 H1 locs1 → W p l e R s m args below meth c H1 locs1 cells slots Q (F0 m (pc + 3) ls (.int (J v) :: rest))) : W p l e R s m args below meth c H locs cells slots Q (F0 m pc ls st0) :=
  y_cg hr hS (fun d _ => hA _ (by omega)) (fun v τ' H1 locs1 hp hk hW hS1 => kk v τ' H1 locs1 hp (yW_kept hP (fun c hc h => hk _ h (by unfold yA; omega))) hW hS1)
theorem l_chP (hr : va_Run p l e R s m args below meth c H locs cells slots 0 0 (F0 m pc ls st0) rest (yQh ycl G yLP 0 73 z postv a) (yA z 0 73)) (hS : va_S A H0 H locs) (hA : ∀ q, z ≤ q → A q) (hM : yW ycl G yLM 0 28 (z + 73) τ H)
    (kk : ∀ (σ' : yM) (H1 : Heap) (locs1 : List Loc), postv σ' → yW ycl G yLP 0 73 z σ' H1 → yW ycl G yLM 0 28 (z + 73) τ H1 → va_S A H0 H1 locs1 → W p l e R s m args below meth c H1 locs1 cells slots Q (F0 m (pc + 3) ls rest)) : W p l e R s m args below meth c H locs cells slots Q (F0 m pc ls st0) :=
  y_ch hr hS (fun d _ => hA _ (by omega)) (fun σ' H1 locs1 hp hk hW hS1 => kk σ' H1 locs1 hp hW (yW_kept hM (fun c hc h => hk _ h (by unfold yA; omega))) hS1)
theorem l_chM (hr : va_Run p l e R s m args below meth c H locs cells slots 0 0 (F0 m pc ls st0) rest (yQh ycl G yLM 0 28 (z + 73) postv a) (yA (z + 73) 0 28)) (hS : va_S A H0 H locs) (hA : ∀ q, z ≤ q → A q) (hP : yW ycl G yLP 0 73 z σ H)
    (kk : ∀ (τ' : yM) (H1 : Heap) (locs1 : List Loc), postv τ' → yW ycl G yLP 0 73 z σ H1 → yW ycl G yLM 0 28 (z + 73) τ' H1 → va_S A H0 H1 locs1 → W p l e R s m args below meth c H1 locs1 cells slots Q (F0 m (pc + 3) ls rest)) : W p l e R s m args below meth c H locs cells slots Q (F0 m pc ls st0) :=
  y_ch hr hS (fun d _ => hA _ (by omega)) (fun τ' H1 locs1 hp hk hW hS1 => kk τ' H1 locs1 hp (yW_kept hP (fun c hc h => hk _ h (by unfold yA; omega))) hW hS1)
end YLW
section RI
variable {σ τ : yM} {nk nb fl ns no : Nat} {up sc : Nat → Nat}
theorem RC.l13 (h : RC σ τ nk nb fl ns no up sc) : ∀ i, i < fl → 0 ≤ σ 13 i ∧ σ 13 i < 10009 := fun i hi => by
  have := h.B.fl16
  rw [tr_leaf h.T.t (by omega)]
  exact lfm_rng h.T.lr i
theorem RC.l14 (h : RC σ τ nk nb fl ns no up sc) : ∀ i, i < fl → 0 ≤ σ 14 i ∧ σ 14 i < 1000 := fun i hi => by rw [h.T.f i hi]; exact (h.T.ld i hi).2.1
theorem RC.l15 (h : RC σ τ nk nb fl ns no up sc) : ∀ i, i < fl → 0 ≤ σ 15 i ∧ σ 15 i < 2473 := fun i hi => by rw [h.T.g i hi]; exact (h.T.ld i hi).2.2
theorem RC.lzT (h : RC σ τ nk nb fl ns no up sc) : yTr σ (lz (lfm τ fl) fl) := by rw [lz_lfm (Nat.le_refl _)]; exact h.T.t
theorem RC.hoc (h : RC σ τ nk nb fl ns no up sc) : ∀ b, b < nb → σ (19 + 2 * b) 2 = (((fun m => up m - (if m = 0 then 0 else up (m - 1))) b : Nat) : Int) ∧ (fun m => up m - (if m = 0 then 0 else up (m - 1))) b ≤ fl := fun b hb => ⟨h.B.oc b hb, by have := h.B.ufl b hb; show up b - _ ≤ fl; omega⟩
theorem RC.c5 (h : RC σ τ nk nb fl ns no up sc) : jr (σ 46 5) := by have h5 : 0 ≤ σ 46 5 ∧ σ 46 5 ≤ 2472 := h.D.s5 0 (by decide); exact ⟨by omega, by omega⟩
theorem RC.dcs (h : RC σ τ nk nb fl ns no up sc) : ∀ j, j < ns → σ (46 + 2 * j) 9 = eE ((fun j => τ 6 j * 1281 + τ 8 j * 1369) j) := fun j hj => (h.D.sp j hj).cv.trans (congrArg eE (by show 1281 * τ 6 j + 1369 * τ 8 j = τ 6 j * 1281 + τ 8 j * 1369; omega))
theorem RC.dco (h : RC σ τ nk nb fl ns no up sc) : ∀ j, j < no → σ (50 + j) 8 = eE ((fun j => τ 13 j * 1281 + τ 15 j * 1369) j) := fun j hj => (h.D.ou j hj).cv.trans (congrArg eE (by show 1281 * τ 13 j + 1369 * τ 15 j = τ 13 j * 1281 + τ 15 j * 1369; omega))
theorem RX_0 (p : yBs σ ∧ yTr σ (fun _ => 0) ∧ σ 12 5 = 0 ∧ σ 17 1 = nd (fun _ => 0) 4 0 ∧ σ 17 2 = 0 ∧ σ 17 3 = 0 ∧ (∀ c, 43 ≤ c → σ c = fun _ => 0) ∧ σ 0 5 = 0) (q : mTb τ ∧ ∀ d, d ≠ 1 → d ≠ 2 → τ d = fun _ => 0) : RX σ τ := by
  obtain ⟨p1, p2, p3, p4, p5, p6, p7, p8⟩ := p
  obtain ⟨q1, q2⟩ := q
  have t0 := q2 0 (by decide) (by decide)
  have s43 := p7 43 (by decide)
  refine ⟨0, 0, 0, 0, 0, fun _ => 0, fun _ => 0, p1, q1, ⟨by decide, p8, by rw [t0]; rfl, fun k h => absurd h (Nat.not_lt_zero k), fun k h => absurd h (Nat.not_lt_zero k), fun k h => absurd h (Nat.not_lt_zero k)⟩, ⟨by decide, p5, by rw [t0]; rfl, by decide, p3, rfl, fun k h => absurd h (Nat.not_lt_zero k), fun k h => absurd h (Nat.not_lt_zero _), fun k h => absurd h (Nat.not_lt_zero k), fun k h => absurd h (Nat.not_lt_zero k), fun k h => absurd h (Nat.not_lt_zero k), fun k h => absurd h (Nat.not_lt_zero k), p6, fun k h => absurd h (Nat.not_lt_zero k), fun k h => absurd h (Nat.not_lt_zero k), fun k h => absurd h (Nat.not_lt_zero k), p4, fun k h => absurd h (Nat.not_lt_zero k)⟩, ⟨by rw [lfm_0]; exact p2, fun k h => absurd h (Nat.not_lt_zero k), fun k h => absurd h (Nat.not_lt_zero k), fun k h => absurd h (Nat.not_lt_zero k), fun k h => absurd h (Nat.not_lt_zero k), fun k h => absurd h (Nat.not_lt_zero k)⟩, fun k h => absurd h (Nat.not_lt_zero k), ⟨by decide, by decide, by rw [s43]; rfl, by rw [t0]; rfl, by rw [s43]; rfl, by rw [t0]; rfl, by rw [s43, t0], by rw [t0]; decide, by rw [s43, t0], by rw [t0]; decide, fun k h => absurd h (Nat.not_lt_zero k), fun k h => absurd h (Nat.not_lt_zero k), fun j _ => by rw [p7 _ (by omega)]; exact (show (0 : Int) ≤ 0 ∧ (0 : Int) < 10009 by decide), fun j _ => by rw [p7 _ (by omega)]; exact (show (0 : Int) ≤ 0 ∧ (0 : Int) ≤ 2472 by decide), fun j _ => by rw [q2 10 (by decide) (by decide)]; exact (show (0 : Int) ≤ 0 ∧ (0 : Int) < 10009 by decide)⟩⟩
end RI
