theorem lw_arI {args : Array Value} {s : State} (h : (Cond.arrayClass .int).before args s = true) : ∃ cA : ClassId, ArrOfT s cA .int ∧ va_RA s cA .int := by
  obtain ⟨cA, kA, comp, h1, h2, h3⟩ := Cond.arrayClass_spec h
  exact ⟨cA, fun n z => ⟨fun k h => (by cases h), kA, h2, comp, h3⟩, h1⟩
theorem lw_arJ {args : Array Value} {s : State} (h : (Cond.arrayClass .long).before args s = true) : ∃ cA : ClassId, ArrOfT s cA .long ∧ va_RA s cA .long := by
  obtain ⟨cA, kA, comp, h1, h2, h3⟩ := Cond.arrayClass_spec h
  exact ⟨cA, fun n z => ⟨fun k h => (by cases h), kA, h2, comp, h3⟩, h1⟩
theorem lw_arZ {args : Array Value} {s : State} (h : (Cond.arrayClass .boolean).before args s = true) : ∃ cA : ClassId, ArrOfT s cA .boolean ∧ va_RA s cA .boolean := by
  obtain ⟨cA, kA, comp, h1, h2, h3⟩ := Cond.arrayClass_spec h
  exact ⟨cA, fun n z => ⟨fun k h => (by cases h), kA, h2, comp, h3⟩, h1⟩
abbrev wsLw : List Cond := Cond.initialized RLw :: wsAll
theorem lw_hts {args : Array Value} {s : State} (hts : ∀ w ∈ lw_tbl, w.before args s = true) : ∀ w ∈ wsLw, w.before args s = true := by
  intro w hw
  rcases List.mem_cons.mp hw with h | h
  · rw [h]; exact hts _ (wsAll_in _ g57)
  · exact hts w (wsAll_in w h)
set_option maxHeartbeats 4000000 in
theorem lw_K {args : Array Value} {s : State} (hts : ∀ w ∈ lw_tbl, w.before args s = true) : ∃ (D : va_G) (cI cJ cZ : ClassId), cq_K D clAll [(cI, .int), (cJ, .long), (cZ, .boolean)] nwAll s := by
  obtain ⟨c0, i0, h0⟩ := u_known (C := RBg) (T := TBg) (N := 5) (n := 5) (lw_hts hts) layBg (lw_hts hts _ (hm g97))
  obtain ⟨c1, i1, h1⟩ := u_known (C := RCp) (T := TCp) (N := 5) (n := 5) (lw_hts hts) layCp (lw_hts hts _ (hm g190))
  obtain ⟨c2, i2, h2⟩ := u_known (C := RDr) (T := TDr) (N := 3) (n := 3) (lw_hts hts) layDr (lw_hts hts _ (hm g112))
  obtain ⟨c3, i3, h3⟩ := u_known (C := RFg) (T := TFg) (N := 7) (n := 7) (lw_hts hts) layFg (lw_hts hts _ (hm g136))
  obtain ⟨c4, i4, h4⟩ := u_known (C := RPl) (T := TPl) (N := 10) (n := 10) (lw_hts hts) layPl (lw_hts hts _ (hm g164))
  obtain ⟨c5, i5, h5⟩ := u_known (C := RRp) (T := TRp) (N := 4) (n := 4) (lw_hts hts) layRp (lw_hts hts _ (hm g123))
  obtain ⟨c6, i6, h6⟩ := u_known (C := RSt) (T := TSt) (N := 4) (n := 4) (lw_hts hts) laySt (lw_hts hts _ (hm g81))
  obtain ⟨c7, i7, h7⟩ := u_known (C := RTm) (T := TTm) (N := 2) (n := 2) (lw_hts hts) layTm (lw_hts hts _ (hm g141))
  obtain ⟨c8, i8, h8⟩ := u_known (C := RSc) (T := TSc) (N := 7) (n := 7) (lw_hts hts) laySc (lw_hts hts _ (hm g73))
  obtain ⟨c9, i9, h9⟩ := u_known (C := RMd) (T := TMd) (N := 21) (n := 21) (lw_hts hts) layMd (lw_hts hts _ (hm g429))
  obtain ⟨cI, aI1, aI2⟩ := lw_arI (lw_hts hts _ (hm g93))
  obtain ⟨cJ, aJ1, aJ2⟩ := lw_arJ (lw_hts hts _ (hm g94))
  obtain ⟨cZ, aZ1, aZ2⟩ := lw_arZ (lw_hts hts _ (hm g95))
  refine ⟨(fun k => if k = 0 then c0 else if k = 1 then c1 else if k = 2 then c2 else if k = 3 then c3 else if k = 4 then c4 else if k = 5 then c5 else if k = 6 then c6 else if k = 7 then c7 else if k = 8 then c8 else c9, fun k => if k = 0 then i0 else if k = 1 then i1 else if k = 2 then i2 else if k = 3 then i3 else if k = 4 then i4 else if k = 5 then i5 else if k = 6 then i6 else if k = 7 then i7 else if k = 8 then i8 else i9), cI, cJ, cZ, ⟨?_, ?_⟩, nwAll_ok, fun w hw => ?_⟩
  · intro k q hq
    match k, hq with
    | 0, hq => cases hq; exact h0
    | 1, hq => cases hq; exact h1
    | 2, hq => cases hq; exact h2
    | 3, hq => cases hq; exact h3
    | 4, hq => cases hq; exact h4
    | 5, hq => cases hq; exact h5
    | 6, hq => cases hq; exact h6
    | 7, hq => cases hq; exact h7
    | 8, hq => cases hq; exact h8
    | 9, hq => cases hq; exact h9
    | k + 10, hq => simp [clAll] at hq
  · intro k q hq
    match k, hq with
    | 0, hq => cases hq; exact ⟨aI1, aI2⟩
    | 1, hq => cases hq; exact ⟨aJ1, aJ2⟩
    | 2, hq => cases hq; exact ⟨aZ1, aZ2⟩
    | k + 3, hq => simp at hq
  · have h1 := hts w (nwAll_in w hw)
    have h2 := List.all_eq_true.mp nwAll_ok w hw
    cases w <;> first | exact va_Nw.of rfl h1 | (simp [cq_is] at h2)
theorem dLw_cell_0 : decode cLw_cell 0 = .ok (.iload_n 1, 1) := by decide +kernel
theorem dLw_cell_1 : decode cLw_cell 1 = .ok (.aload_n 0, 1) := by decide +kernel
theorem dLw_cell_2 : decode cLw_cell 2 = .ok (.arraylength, 1) := by decide +kernel
theorem dLw_cell_3 : decode cLw_cell 3 = .ok (.if_icmp .ge 9, 3) := by decide +kernel
theorem dLw_cell_6 : decode cLw_cell 6 = .ok (.aload_n 0, 1) := by decide +kernel
theorem dLw_cell_7 : decode cLw_cell 7 = .ok (.iload_n 1, 1) := by decide +kernel
theorem dLw_cell_8 : decode cLw_cell 8 = .ok (.iaload, 1) := by decide +kernel
theorem dLw_cell_9 : decode cLw_cell 9 = .ok (.goto 4, 3) := by decide +kernel
theorem dLw_cell_12 : decode cLw_cell 12 = .ok (.iconst 0, 1) := by decide +kernel
theorem dLw_cell_13 : decode cLw_cell 13 = .ok (.ireturn, 1) := by decide +kernel
theorem dLw_law_0 : decode code 0 = .ok (.new 7, 3) := by decide +kernel
theorem dLw_law_3 : decode code 3 = .ok (.dup, 1) := by decide +kernel
theorem dLw_law_4 : decode code 4 = .ok (.aload_n 0, 1) := by decide +kernel
theorem dLw_law_5 : decode code 5 = .ok (.iconst 0, 1) := by decide +kernel
theorem dLw_law_6 : decode code 6 = .ok (.invokestatic 9, 3) := by decide +kernel
theorem dLw_law_9 : decode code 9 = .ok (.i2l, 1) := by decide +kernel
theorem dLw_law_10 : decode code 10 = .ok (.invokespecial 15, 3) := by decide +kernel
theorem dLw_law_13 : decode code 13 = .ok (.astore_n 1, 1) := by decide +kernel
theorem dLw_law_14 : decode code 14 = .ok (.new 18, 3) := by decide +kernel
theorem dLw_law_17 : decode code 17 = .ok (.dup, 1) := by decide +kernel
theorem dLw_law_18 : decode code 18 = .ok (.aload_n 0, 1) := by decide +kernel
theorem dLw_law_19 : decode code 19 = .ok (.iconst 0, 1) := by decide +kernel
theorem dLw_law_20 : decode code 20 = .ok (.invokestatic 9, 3) := by decide +kernel
theorem dLw_law_23 : decode code 23 = .ok (.i2l, 1) := by decide +kernel
theorem dLw_law_24 : decode code 24 = .ok (.invokespecial 20, 3) := by decide +kernel
theorem dLw_law_27 : decode code 27 = .ok (.astore_n 2, 1) := by decide +kernel
theorem dLw_law_28 : decode code 28 = .ok (.iconst 1, 1) := by decide +kernel
theorem dLw_law_29 : decode code 29 = .ok (.istore_n 3, 1) := by decide +kernel
theorem dLw_law_30 : decode code 30 = .ok (.iload_n 3, 1) := by decide +kernel
theorem dLw_law_31 : decode code 31 = .ok (.aload_n 0, 1) := by decide +kernel
theorem dLw_law_32 : decode code 32 = .ok (.arraylength, 1) := by decide +kernel
theorem dLw_law_33 : decode code 33 = .ok (.bipush 6, 2) := by decide +kernel
theorem dLw_law_35 : decode code 35 = .ok (.isub, 1) := by decide +kernel
theorem dLw_law_36 : decode code 36 = .ok (.if_icmp .gt 784, 3) := by decide +kernel
theorem dLw_law_39 : decode code 39 = .ok (.aload_n 0, 1) := by decide +kernel
theorem dLw_law_40 : decode code 40 = .ok (.iload_n 3, 1) := by decide +kernel
theorem dLw_law_41 : decode code 41 = .ok (.iaload, 1) := by decide +kernel
theorem dLw_law_42 : decode code 42 = .ok (.bipush 31, 2) := by decide +kernel
theorem dLw_law_44 : decode code 44 = .ok (.iand, 1) := by decide +kernel
theorem dLw_law_45 : decode code 45 = .ok (.tableswitch 769 0 16 #[83, 106, 169, 192, 265, 298, 321, 354, 387, 421, 455, 559, 582, 616, 649, 722, 756], 83) := by decide +kernel
theorem dLw_law_128 : decode code 128 = .ok (.aload_n 1, 1) := by decide +kernel
theorem dLw_law_129 : decode code 129 = .ok (.aload_n 0, 1) := by decide +kernel
theorem dLw_law_130 : decode code 130 = .ok (.iload_n 3, 1) := by decide +kernel
theorem dLw_law_131 : decode code 131 = .ok (.iconst 1, 1) := by decide +kernel
theorem dLw_law_132 : decode code 132 = .ok (.iadd, 1) := by decide +kernel
theorem dLw_law_133 : decode code 133 = .ok (.iaload, 1) := by decide +kernel
theorem dLw_law_134 : decode code 134 = .ok (.invokevirtual 21, 3) := by decide +kernel
theorem dLw_law_137 : decode code 137 = .ok (.aload_n 2, 1) := by decide +kernel
theorem dLw_law_138 : decode code 138 = .ok (.aload_n 0, 1) := by decide +kernel
theorem dLw_law_139 : decode code 139 = .ok (.iload_n 3, 1) := by decide +kernel
theorem dLw_law_140 : decode code 140 = .ok (.iconst 1, 1) := by decide +kernel
theorem dLw_law_141 : decode code 141 = .ok (.iadd, 1) := by decide +kernel
theorem dLw_law_142 : decode code 142 = .ok (.iaload, 1) := by decide +kernel
theorem dLw_law_143 : decode code 143 = .ok (.invokevirtual 25, 3) := by decide +kernel
theorem dLw_law_146 : decode code 146 = .ok (.if_icmp .eq 668, 3) := by decide +kernel
theorem dLw_law_149 : decode code 149 = .ok (.iconst 0, 1) := by decide +kernel
theorem dLw_law_150 : decode code 150 = .ok (.ireturn, 1) := by decide +kernel
theorem dLw_law_151 : decode code 151 = .ok (.aload_n 1, 1) := by decide +kernel
theorem dLw_law_152 : decode code 152 = .ok (.aload_n 0, 1) := by decide +kernel
theorem dLw_law_153 : decode code 153 = .ok (.iload_n 3, 1) := by decide +kernel
theorem dLw_law_154 : decode code 154 = .ok (.iconst 1, 1) := by decide +kernel
theorem dLw_law_155 : decode code 155 = .ok (.iadd, 1) := by decide +kernel
theorem dLw_law_156 : decode code 156 = .ok (.iaload, 1) := by decide +kernel
theorem dLw_law_157 : decode code 157 = .ok (.aload_n 0, 1) := by decide +kernel
theorem dLw_law_158 : decode code 158 = .ok (.iload_n 3, 1) := by decide +kernel
theorem dLw_law_159 : decode code 159 = .ok (.iconst 2, 1) := by decide +kernel
theorem dLw_law_160 : decode code 160 = .ok (.iadd, 1) := by decide +kernel
theorem dLw_law_161 : decode code 161 = .ok (.iaload, 1) := by decide +kernel
theorem dLw_law_162 : decode code 162 = .ok (.i2l, 1) := by decide +kernel
theorem dLw_law_163 : decode code 163 = .ok (.bipush 32, 2) := by decide +kernel
theorem dLw_law_165 : decode code 165 = .ok (.lshl, 1) := by decide +kernel
theorem dLw_law_166 : decode code 166 = .ok (.aload_n 0, 1) := by decide +kernel
theorem dLw_law_167 : decode code 167 = .ok (.iload_n 3, 1) := by decide +kernel
theorem dLw_law_168 : decode code 168 = .ok (.iconst 3, 1) := by decide +kernel
theorem dLw_law_169 : decode code 169 = .ok (.iadd, 1) := by decide +kernel
theorem dLw_law_170 : decode code 170 = .ok (.iaload, 1) := by decide +kernel
theorem dLw_law_171 : decode code 171 = .ok (.i2l, 1) := by decide +kernel
theorem dLw_law_172 : decode code 172 = .ok (.ldc2_w 26, 3) := by decide +kernel
theorem dLw_law_175 : decode code 175 = .ok (.land, 1) := by decide +kernel
theorem dLw_law_176 : decode code 176 = .ok (.lor, 1) := by decide +kernel
theorem dLw_law_177 : decode code 177 = .ok (.invokevirtual 28, 3) := by decide +kernel
theorem dLw_law_180 : decode code 180 = .ok (.aload_n 2, 1) := by decide +kernel
theorem dLw_law_181 : decode code 181 = .ok (.aload_n 0, 1) := by decide +kernel
theorem dLw_law_182 : decode code 182 = .ok (.iload_n 3, 1) := by decide +kernel
theorem dLw_law_183 : decode code 183 = .ok (.iconst 1, 1) := by decide +kernel
theorem dLw_law_184 : decode code 184 = .ok (.iadd, 1) := by decide +kernel
theorem dLw_law_185 : decode code 185 = .ok (.iaload, 1) := by decide +kernel
theorem dLw_law_186 : decode code 186 = .ok (.aload_n 0, 1) := by decide +kernel
theorem dLw_law_187 : decode code 187 = .ok (.iload_n 3, 1) := by decide +kernel
theorem dLw_law_188 : decode code 188 = .ok (.iconst 2, 1) := by decide +kernel
theorem dLw_law_189 : decode code 189 = .ok (.iadd, 1) := by decide +kernel
theorem dLw_law_190 : decode code 190 = .ok (.iaload, 1) := by decide +kernel
theorem dLw_law_191 : decode code 191 = .ok (.i2l, 1) := by decide +kernel
theorem dLw_law_192 : decode code 192 = .ok (.bipush 32, 2) := by decide +kernel
theorem dLw_law_194 : decode code 194 = .ok (.lshl, 1) := by decide +kernel
theorem dLw_law_195 : decode code 195 = .ok (.aload_n 0, 1) := by decide +kernel
theorem dLw_law_196 : decode code 196 = .ok (.iload_n 3, 1) := by decide +kernel
theorem dLw_law_197 : decode code 197 = .ok (.iconst 3, 1) := by decide +kernel
theorem dLw_law_198 : decode code 198 = .ok (.iadd, 1) := by decide +kernel
theorem dLw_law_199 : decode code 199 = .ok (.iaload, 1) := by decide +kernel
theorem dLw_law_200 : decode code 200 = .ok (.i2l, 1) := by decide +kernel
theorem dLw_law_201 : decode code 201 = .ok (.ldc2_w 26, 3) := by decide +kernel
theorem dLw_law_204 : decode code 204 = .ok (.land, 1) := by decide +kernel
theorem dLw_law_205 : decode code 205 = .ok (.lor, 1) := by decide +kernel
theorem dLw_law_206 : decode code 206 = .ok (.invokevirtual 32, 3) := by decide +kernel
theorem dLw_law_209 : decode code 209 = .ok (.if_icmp .eq 605, 3) := by decide +kernel
theorem dLw_law_212 : decode code 212 = .ok (.iconst 0, 1) := by decide +kernel
theorem dLw_law_213 : decode code 213 = .ok (.ireturn, 1) := by decide +kernel
theorem dLw_law_214 : decode code 214 = .ok (.aload_n 1, 1) := by decide +kernel
theorem dLw_law_215 : decode code 215 = .ok (.aload_n 0, 1) := by decide +kernel
theorem dLw_law_216 : decode code 216 = .ok (.iload_n 3, 1) := by decide +kernel
theorem dLw_law_217 : decode code 217 = .ok (.iconst 1, 1) := by decide +kernel
theorem dLw_law_218 : decode code 218 = .ok (.iadd, 1) := by decide +kernel
theorem dLw_law_219 : decode code 219 = .ok (.iaload, 1) := by decide +kernel
theorem dLw_law_220 : decode code 220 = .ok (.invokevirtual 33, 3) := by decide +kernel
theorem dLw_law_223 : decode code 223 = .ok (.aload_n 2, 1) := by decide +kernel
theorem dLw_law_224 : decode code 224 = .ok (.aload_n 0, 1) := by decide +kernel
theorem dLw_law_225 : decode code 225 = .ok (.iload_n 3, 1) := by decide +kernel
theorem dLw_law_226 : decode code 226 = .ok (.iconst 1, 1) := by decide +kernel
theorem dLw_law_227 : decode code 227 = .ok (.iadd, 1) := by decide +kernel
theorem dLw_law_228 : decode code 228 = .ok (.iaload, 1) := by decide +kernel
theorem dLw_law_229 : decode code 229 = .ok (.invokevirtual 36, 3) := by decide +kernel
theorem dLw_law_232 : decode code 232 = .ok (.if_icmp .eq 582, 3) := by decide +kernel
theorem dLw_law_235 : decode code 235 = .ok (.iconst 0, 1) := by decide +kernel
theorem dLw_law_236 : decode code 236 = .ok (.ireturn, 1) := by decide +kernel
theorem dLw_law_237 : decode code 237 = .ok (.aload_n 1, 1) := by decide +kernel
theorem dLw_law_238 : decode code 238 = .ok (.aload_n 0, 1) := by decide +kernel
theorem dLw_law_239 : decode code 239 = .ok (.iload_n 3, 1) := by decide +kernel
theorem dLw_law_240 : decode code 240 = .ok (.iconst 1, 1) := by decide +kernel
theorem dLw_law_241 : decode code 241 = .ok (.iadd, 1) := by decide +kernel
theorem dLw_law_242 : decode code 242 = .ok (.iaload, 1) := by decide +kernel
theorem dLw_law_243 : decode code 243 = .ok (.aload_n 0, 1) := by decide +kernel
theorem dLw_law_244 : decode code 244 = .ok (.iload_n 3, 1) := by decide +kernel
theorem dLw_law_245 : decode code 245 = .ok (.iconst 2, 1) := by decide +kernel
theorem dLw_law_246 : decode code 246 = .ok (.iadd, 1) := by decide +kernel
theorem dLw_law_247 : decode code 247 = .ok (.iaload, 1) := by decide +kernel
theorem dLw_law_248 : decode code 248 = .ok (.aload_n 0, 1) := by decide +kernel
theorem dLw_law_249 : decode code 249 = .ok (.iload_n 3, 1) := by decide +kernel
theorem dLw_law_250 : decode code 250 = .ok (.iconst 3, 1) := by decide +kernel
theorem dLw_law_251 : decode code 251 = .ok (.iadd, 1) := by decide +kernel
theorem dLw_law_252 : decode code 252 = .ok (.iaload, 1) := by decide +kernel
theorem dLw_law_253 : decode code 253 = .ok (.i2l, 1) := by decide +kernel
theorem dLw_law_254 : decode code 254 = .ok (.bipush 32, 2) := by decide +kernel
theorem dLw_law_256 : decode code 256 = .ok (.lshl, 1) := by decide +kernel
theorem dLw_law_257 : decode code 257 = .ok (.aload_n 0, 1) := by decide +kernel
theorem dLw_law_258 : decode code 258 = .ok (.iload_n 3, 1) := by decide +kernel
theorem dLw_law_259 : decode code 259 = .ok (.iconst 4, 1) := by decide +kernel
theorem dLw_law_260 : decode code 260 = .ok (.iadd, 1) := by decide +kernel
theorem dLw_law_261 : decode code 261 = .ok (.iaload, 1) := by decide +kernel
theorem dLw_law_262 : decode code 262 = .ok (.i2l, 1) := by decide +kernel
theorem dLw_law_263 : decode code 263 = .ok (.ldc2_w 26, 3) := by decide +kernel
theorem dLw_law_266 : decode code 266 = .ok (.land, 1) := by decide +kernel
theorem dLw_law_267 : decode code 267 = .ok (.lor, 1) := by decide +kernel
theorem dLw_law_268 : decode code 268 = .ok (.invokevirtual 37, 3) := by decide +kernel
theorem dLw_law_271 : decode code 271 = .ok (.aload_n 2, 1) := by decide +kernel
theorem dLw_law_272 : decode code 272 = .ok (.aload_n 0, 1) := by decide +kernel
theorem dLw_law_273 : decode code 273 = .ok (.iload_n 3, 1) := by decide +kernel
theorem dLw_law_274 : decode code 274 = .ok (.iconst 1, 1) := by decide +kernel
theorem dLw_law_275 : decode code 275 = .ok (.iadd, 1) := by decide +kernel
theorem dLw_law_276 : decode code 276 = .ok (.iaload, 1) := by decide +kernel
theorem dLw_law_277 : decode code 277 = .ok (.aload_n 0, 1) := by decide +kernel
theorem dLw_law_278 : decode code 278 = .ok (.iload_n 3, 1) := by decide +kernel
theorem dLw_law_279 : decode code 279 = .ok (.iconst 2, 1) := by decide +kernel
theorem dLw_law_280 : decode code 280 = .ok (.iadd, 1) := by decide +kernel
theorem dLw_law_281 : decode code 281 = .ok (.iaload, 1) := by decide +kernel
theorem dLw_law_282 : decode code 282 = .ok (.aload_n 0, 1) := by decide +kernel
theorem dLw_law_283 : decode code 283 = .ok (.iload_n 3, 1) := by decide +kernel
theorem dLw_law_284 : decode code 284 = .ok (.iconst 3, 1) := by decide +kernel
theorem dLw_law_285 : decode code 285 = .ok (.iadd, 1) := by decide +kernel
theorem dLw_law_286 : decode code 286 = .ok (.iaload, 1) := by decide +kernel
theorem dLw_law_287 : decode code 287 = .ok (.i2l, 1) := by decide +kernel
theorem dLw_law_288 : decode code 288 = .ok (.bipush 32, 2) := by decide +kernel
theorem dLw_law_290 : decode code 290 = .ok (.lshl, 1) := by decide +kernel
theorem dLw_law_291 : decode code 291 = .ok (.aload_n 0, 1) := by decide +kernel
theorem dLw_law_292 : decode code 292 = .ok (.iload_n 3, 1) := by decide +kernel
theorem dLw_law_293 : decode code 293 = .ok (.iconst 4, 1) := by decide +kernel
theorem dLw_law_294 : decode code 294 = .ok (.iadd, 1) := by decide +kernel
theorem dLw_law_295 : decode code 295 = .ok (.iaload, 1) := by decide +kernel
theorem dLw_law_296 : decode code 296 = .ok (.i2l, 1) := by decide +kernel
theorem dLw_law_297 : decode code 297 = .ok (.ldc2_w 26, 3) := by decide +kernel
theorem dLw_law_300 : decode code 300 = .ok (.land, 1) := by decide +kernel
theorem dLw_law_301 : decode code 301 = .ok (.lor, 1) := by decide +kernel
theorem dLw_law_302 : decode code 302 = .ok (.invokevirtual 41, 3) := by decide +kernel
theorem dLw_law_305 : decode code 305 = .ok (.if_icmp .eq 509, 3) := by decide +kernel
theorem dLw_law_308 : decode code 308 = .ok (.iconst 0, 1) := by decide +kernel
theorem dLw_law_309 : decode code 309 = .ok (.ireturn, 1) := by decide +kernel
theorem dLw_law_310 : decode code 310 = .ok (.aload_n 1, 1) := by decide +kernel
theorem dLw_law_311 : decode code 311 = .ok (.aload_n 0, 1) := by decide +kernel
theorem dLw_law_312 : decode code 312 = .ok (.iload_n 3, 1) := by decide +kernel
theorem dLw_law_313 : decode code 313 = .ok (.iconst 1, 1) := by decide +kernel
theorem dLw_law_314 : decode code 314 = .ok (.iadd, 1) := by decide +kernel
theorem dLw_law_315 : decode code 315 = .ok (.iaload, 1) := by decide +kernel
theorem dLw_law_316 : decode code 316 = .ok (.aload_n 0, 1) := by decide +kernel
theorem dLw_law_317 : decode code 317 = .ok (.iload_n 3, 1) := by decide +kernel
theorem dLw_law_318 : decode code 318 = .ok (.iconst 2, 1) := by decide +kernel
theorem dLw_law_319 : decode code 319 = .ok (.iadd, 1) := by decide +kernel
theorem dLw_law_320 : decode code 320 = .ok (.iaload, 1) := by decide +kernel
theorem dLw_law_321 : decode code 321 = .ok (.invokevirtual 42, 3) := by decide +kernel
theorem dLw_law_324 : decode code 324 = .ok (.aload_n 2, 1) := by decide +kernel
theorem dLw_law_325 : decode code 325 = .ok (.aload_n 0, 1) := by decide +kernel
theorem dLw_law_326 : decode code 326 = .ok (.iload_n 3, 1) := by decide +kernel
theorem dLw_law_327 : decode code 327 = .ok (.iconst 1, 1) := by decide +kernel
theorem dLw_law_328 : decode code 328 = .ok (.iadd, 1) := by decide +kernel
theorem dLw_law_329 : decode code 329 = .ok (.iaload, 1) := by decide +kernel
theorem dLw_law_330 : decode code 330 = .ok (.aload_n 0, 1) := by decide +kernel
theorem dLw_law_331 : decode code 331 = .ok (.iload_n 3, 1) := by decide +kernel
theorem dLw_law_332 : decode code 332 = .ok (.iconst 2, 1) := by decide +kernel
theorem dLw_law_333 : decode code 333 = .ok (.iadd, 1) := by decide +kernel
theorem dLw_law_334 : decode code 334 = .ok (.iaload, 1) := by decide +kernel
theorem dLw_law_335 : decode code 335 = .ok (.invokevirtual 46, 3) := by decide +kernel
theorem dLw_law_338 : decode code 338 = .ok (.if_icmp .eq 476, 3) := by decide +kernel
theorem dLw_law_341 : decode code 341 = .ok (.iconst 0, 1) := by decide +kernel
theorem dLw_law_342 : decode code 342 = .ok (.ireturn, 1) := by decide +kernel
theorem dLw_law_343 : decode code 343 = .ok (.aload_n 1, 1) := by decide +kernel
theorem dLw_law_344 : decode code 344 = .ok (.aload_n 0, 1) := by decide +kernel
theorem dLw_law_345 : decode code 345 = .ok (.iload_n 3, 1) := by decide +kernel
theorem dLw_law_346 : decode code 346 = .ok (.iconst 1, 1) := by decide +kernel
theorem dLw_law_347 : decode code 347 = .ok (.iadd, 1) := by decide +kernel
theorem dLw_law_348 : decode code 348 = .ok (.iaload, 1) := by decide +kernel
theorem dLw_law_349 : decode code 349 = .ok (.invokevirtual 47, 3) := by decide +kernel
theorem dLw_law_352 : decode code 352 = .ok (.aload_n 2, 1) := by decide +kernel
theorem dLw_law_353 : decode code 353 = .ok (.aload_n 0, 1) := by decide +kernel
theorem dLw_law_354 : decode code 354 = .ok (.iload_n 3, 1) := by decide +kernel
theorem dLw_law_355 : decode code 355 = .ok (.iconst 1, 1) := by decide +kernel
theorem dLw_law_356 : decode code 356 = .ok (.iadd, 1) := by decide +kernel
theorem dLw_law_357 : decode code 357 = .ok (.iaload, 1) := by decide +kernel
theorem dLw_law_358 : decode code 358 = .ok (.invokevirtual 51, 3) := by decide +kernel
theorem dLw_law_361 : decode code 361 = .ok (.if_icmp .eq 453, 3) := by decide +kernel
theorem dLw_law_364 : decode code 364 = .ok (.iconst 0, 1) := by decide +kernel
theorem dLw_law_365 : decode code 365 = .ok (.ireturn, 1) := by decide +kernel
theorem dLw_law_366 : decode code 366 = .ok (.aload_n 1, 1) := by decide +kernel
theorem dLw_law_367 : decode code 367 = .ok (.aload_n 0, 1) := by decide +kernel
theorem dLw_law_368 : decode code 368 = .ok (.iload_n 3, 1) := by decide +kernel
theorem dLw_law_369 : decode code 369 = .ok (.iconst 1, 1) := by decide +kernel
theorem dLw_law_370 : decode code 370 = .ok (.iadd, 1) := by decide +kernel
theorem dLw_law_371 : decode code 371 = .ok (.iaload, 1) := by decide +kernel
theorem dLw_law_372 : decode code 372 = .ok (.aload_n 0, 1) := by decide +kernel
theorem dLw_law_373 : decode code 373 = .ok (.iload_n 3, 1) := by decide +kernel
theorem dLw_law_374 : decode code 374 = .ok (.iconst 2, 1) := by decide +kernel
theorem dLw_law_375 : decode code 375 = .ok (.iadd, 1) := by decide +kernel
theorem dLw_law_376 : decode code 376 = .ok (.iaload, 1) := by decide +kernel
theorem dLw_law_377 : decode code 377 = .ok (.invokevirtual 52, 3) := by decide +kernel
theorem dLw_law_380 : decode code 380 = .ok (.aload_n 2, 1) := by decide +kernel
theorem dLw_law_381 : decode code 381 = .ok (.aload_n 0, 1) := by decide +kernel
theorem dLw_law_382 : decode code 382 = .ok (.iload_n 3, 1) := by decide +kernel
theorem dLw_law_383 : decode code 383 = .ok (.iconst 1, 1) := by decide +kernel
theorem dLw_law_384 : decode code 384 = .ok (.iadd, 1) := by decide +kernel
theorem dLw_law_385 : decode code 385 = .ok (.iaload, 1) := by decide +kernel
theorem dLw_law_386 : decode code 386 = .ok (.aload_n 0, 1) := by decide +kernel
theorem dLw_law_387 : decode code 387 = .ok (.iload_n 3, 1) := by decide +kernel
theorem dLw_law_388 : decode code 388 = .ok (.iconst 2, 1) := by decide +kernel
theorem dLw_law_389 : decode code 389 = .ok (.iadd, 1) := by decide +kernel
theorem dLw_law_390 : decode code 390 = .ok (.iaload, 1) := by decide +kernel
theorem dLw_law_391 : decode code 391 = .ok (.invokevirtual 56, 3) := by decide +kernel
theorem dLw_law_394 : decode code 394 = .ok (.if_icmp .eq 420, 3) := by decide +kernel
theorem dLw_law_397 : decode code 397 = .ok (.iconst 0, 1) := by decide +kernel
theorem dLw_law_398 : decode code 398 = .ok (.ireturn, 1) := by decide +kernel
theorem dLw_law_399 : decode code 399 = .ok (.aload_n 1, 1) := by decide +kernel
theorem dLw_law_400 : decode code 400 = .ok (.aload_n 0, 1) := by decide +kernel
theorem dLw_law_401 : decode code 401 = .ok (.iload_n 3, 1) := by decide +kernel
theorem dLw_law_402 : decode code 402 = .ok (.iconst 1, 1) := by decide +kernel
theorem dLw_law_403 : decode code 403 = .ok (.iadd, 1) := by decide +kernel
theorem dLw_law_404 : decode code 404 = .ok (.iaload, 1) := by decide +kernel
theorem dLw_law_405 : decode code 405 = .ok (.aload_n 0, 1) := by decide +kernel
theorem dLw_law_406 : decode code 406 = .ok (.iload_n 3, 1) := by decide +kernel
theorem dLw_law_407 : decode code 407 = .ok (.iconst 2, 1) := by decide +kernel
theorem dLw_law_408 : decode code 408 = .ok (.iadd, 1) := by decide +kernel
theorem dLw_law_409 : decode code 409 = .ok (.iaload, 1) := by decide +kernel
theorem dLw_law_410 : decode code 410 = .ok (.invokevirtual 57, 3) := by decide +kernel
theorem dLw_law_413 : decode code 413 = .ok (.aload_n 2, 1) := by decide +kernel
theorem dLw_law_414 : decode code 414 = .ok (.aload_n 0, 1) := by decide +kernel
theorem dLw_law_415 : decode code 415 = .ok (.iload_n 3, 1) := by decide +kernel
theorem dLw_law_416 : decode code 416 = .ok (.iconst 1, 1) := by decide +kernel
theorem dLw_law_417 : decode code 417 = .ok (.iadd, 1) := by decide +kernel
theorem dLw_law_418 : decode code 418 = .ok (.iaload, 1) := by decide +kernel
theorem dLw_law_419 : decode code 419 = .ok (.aload_n 0, 1) := by decide +kernel
theorem dLw_law_420 : decode code 420 = .ok (.iload_n 3, 1) := by decide +kernel
theorem dLw_law_421 : decode code 421 = .ok (.iconst 2, 1) := by decide +kernel
theorem dLw_law_422 : decode code 422 = .ok (.iadd, 1) := by decide +kernel
theorem dLw_law_423 : decode code 423 = .ok (.iaload, 1) := by decide +kernel
theorem dLw_law_424 : decode code 424 = .ok (.invokevirtual 60, 3) := by decide +kernel
theorem dLw_law_427 : decode code 427 = .ok (.if_icmp .eq 387, 3) := by decide +kernel
theorem dLw_law_430 : decode code 430 = .ok (.iconst 0, 1) := by decide +kernel
theorem dLw_law_431 : decode code 431 = .ok (.ireturn, 1) := by decide +kernel
theorem dLw_law_432 : decode code 432 = .ok (.aload_n 1, 1) := by decide +kernel
theorem dLw_law_433 : decode code 433 = .ok (.aload_n 0, 1) := by decide +kernel
theorem dLw_law_434 : decode code 434 = .ok (.iload_n 3, 1) := by decide +kernel
theorem dLw_law_435 : decode code 435 = .ok (.iconst 1, 1) := by decide +kernel
theorem dLw_law_436 : decode code 436 = .ok (.iadd, 1) := by decide +kernel
theorem dLw_law_437 : decode code 437 = .ok (.iaload, 1) := by decide +kernel
theorem dLw_law_438 : decode code 438 = .ok (.aload_n 0, 1) := by decide +kernel
theorem dLw_law_439 : decode code 439 = .ok (.iload_n 3, 1) := by decide +kernel
theorem dLw_law_440 : decode code 440 = .ok (.iconst 2, 1) := by decide +kernel
theorem dLw_law_441 : decode code 441 = .ok (.iadd, 1) := by decide +kernel
theorem dLw_law_442 : decode code 442 = .ok (.iaload, 1) := by decide +kernel
theorem dLw_law_443 : decode code 443 = .ok (.invokevirtual 61, 3) := by decide +kernel
theorem dLw_law_446 : decode code 446 = .ok (.aload_n 2, 1) := by decide +kernel
theorem dLw_law_447 : decode code 447 = .ok (.aload_n 0, 1) := by decide +kernel
theorem dLw_law_448 : decode code 448 = .ok (.iload_n 3, 1) := by decide +kernel
theorem dLw_law_449 : decode code 449 = .ok (.iconst 1, 1) := by decide +kernel
theorem dLw_law_450 : decode code 450 = .ok (.iadd, 1) := by decide +kernel
theorem dLw_law_451 : decode code 451 = .ok (.iaload, 1) := by decide +kernel
theorem dLw_law_452 : decode code 452 = .ok (.aload_n 0, 1) := by decide +kernel
theorem dLw_law_453 : decode code 453 = .ok (.iload_n 3, 1) := by decide +kernel
theorem dLw_law_454 : decode code 454 = .ok (.iconst 2, 1) := by decide +kernel
theorem dLw_law_455 : decode code 455 = .ok (.iadd, 1) := by decide +kernel
theorem dLw_law_456 : decode code 456 = .ok (.iaload, 1) := by decide +kernel
theorem dLw_law_457 : decode code 457 = .ok (.invokevirtual 65, 3) := by decide +kernel
theorem dLw_law_460 : decode code 460 = .ok (.lcmp, 1) := by decide +kernel
theorem dLw_law_461 : decode code 461 = .ok (.ifCond .eq 353, 3) := by decide +kernel
theorem dLw_law_464 : decode code 464 = .ok (.iconst 0, 1) := by decide +kernel
theorem dLw_law_465 : decode code 465 = .ok (.ireturn, 1) := by decide +kernel
theorem dLw_law_466 : decode code 466 = .ok (.aload_n 1, 1) := by decide +kernel
theorem dLw_law_467 : decode code 467 = .ok (.aload_n 0, 1) := by decide +kernel
theorem dLw_law_468 : decode code 468 = .ok (.iload_n 3, 1) := by decide +kernel
theorem dLw_law_469 : decode code 469 = .ok (.iconst 1, 1) := by decide +kernel
theorem dLw_law_470 : decode code 470 = .ok (.iadd, 1) := by decide +kernel
theorem dLw_law_471 : decode code 471 = .ok (.iaload, 1) := by decide +kernel
theorem dLw_law_472 : decode code 472 = .ok (.aload_n 0, 1) := by decide +kernel
theorem dLw_law_473 : decode code 473 = .ok (.iload_n 3, 1) := by decide +kernel
theorem dLw_law_474 : decode code 474 = .ok (.iconst 2, 1) := by decide +kernel
theorem dLw_law_475 : decode code 475 = .ok (.iadd, 1) := by decide +kernel
theorem dLw_law_476 : decode code 476 = .ok (.iaload, 1) := by decide +kernel
theorem dLw_law_477 : decode code 477 = .ok (.invokevirtual 66, 3) := by decide +kernel
theorem dLw_law_480 : decode code 480 = .ok (.aload_n 2, 1) := by decide +kernel
theorem dLw_law_481 : decode code 481 = .ok (.aload_n 0, 1) := by decide +kernel
theorem dLw_law_482 : decode code 482 = .ok (.iload_n 3, 1) := by decide +kernel
theorem dLw_law_483 : decode code 483 = .ok (.iconst 1, 1) := by decide +kernel
theorem dLw_law_484 : decode code 484 = .ok (.iadd, 1) := by decide +kernel
theorem dLw_law_485 : decode code 485 = .ok (.iaload, 1) := by decide +kernel
theorem dLw_law_486 : decode code 486 = .ok (.aload_n 0, 1) := by decide +kernel
theorem dLw_law_487 : decode code 487 = .ok (.iload_n 3, 1) := by decide +kernel
theorem dLw_law_488 : decode code 488 = .ok (.iconst 2, 1) := by decide +kernel
theorem dLw_law_489 : decode code 489 = .ok (.iadd, 1) := by decide +kernel
theorem dLw_law_490 : decode code 490 = .ok (.iaload, 1) := by decide +kernel
theorem dLw_law_491 : decode code 491 = .ok (.invokevirtual 69, 3) := by decide +kernel
theorem dLw_law_494 : decode code 494 = .ok (.lcmp, 1) := by decide +kernel
theorem dLw_law_495 : decode code 495 = .ok (.ifCond .eq 319, 3) := by decide +kernel
theorem dLw_law_498 : decode code 498 = .ok (.iconst 0, 1) := by decide +kernel
theorem dLw_law_499 : decode code 499 = .ok (.ireturn, 1) := by decide +kernel
theorem dLw_law_500 : decode code 500 = .ok (.aload_n 1, 1) := by decide +kernel
theorem dLw_law_501 : decode code 501 = .ok (.aload_n 0, 1) := by decide +kernel
theorem dLw_law_502 : decode code 502 = .ok (.iload_n 3, 1) := by decide +kernel
theorem dLw_law_503 : decode code 503 = .ok (.iconst 1, 1) := by decide +kernel
theorem dLw_law_504 : decode code 504 = .ok (.iadd, 1) := by decide +kernel
theorem dLw_law_505 : decode code 505 = .ok (.iaload, 1) := by decide +kernel
theorem dLw_law_506 : decode code 506 = .ok (.aload_n 0, 1) := by decide +kernel
theorem dLw_law_507 : decode code 507 = .ok (.iload_n 3, 1) := by decide +kernel
theorem dLw_law_508 : decode code 508 = .ok (.iconst 2, 1) := by decide +kernel
theorem dLw_law_509 : decode code 509 = .ok (.iadd, 1) := by decide +kernel
theorem dLw_law_510 : decode code 510 = .ok (.iaload, 1) := by decide +kernel
theorem dLw_law_511 : decode code 511 = .ok (.i2l, 1) := by decide +kernel
theorem dLw_law_512 : decode code 512 = .ok (.bipush 32, 2) := by decide +kernel
theorem dLw_law_514 : decode code 514 = .ok (.lshl, 1) := by decide +kernel
theorem dLw_law_515 : decode code 515 = .ok (.aload_n 0, 1) := by decide +kernel
theorem dLw_law_516 : decode code 516 = .ok (.iload_n 3, 1) := by decide +kernel
theorem dLw_law_517 : decode code 517 = .ok (.iconst 3, 1) := by decide +kernel
theorem dLw_law_518 : decode code 518 = .ok (.iadd, 1) := by decide +kernel
theorem dLw_law_519 : decode code 519 = .ok (.iaload, 1) := by decide +kernel
theorem dLw_law_520 : decode code 520 = .ok (.i2l, 1) := by decide +kernel
theorem dLw_law_521 : decode code 521 = .ok (.ldc2_w 26, 3) := by decide +kernel
theorem dLw_law_524 : decode code 524 = .ok (.land, 1) := by decide +kernel
theorem dLw_law_525 : decode code 525 = .ok (.lor, 1) := by decide +kernel
theorem dLw_law_526 : decode code 526 = .ok (.aload_n 0, 1) := by decide +kernel
theorem dLw_law_527 : decode code 527 = .ok (.iload_n 3, 1) := by decide +kernel
theorem dLw_law_528 : decode code 528 = .ok (.iconst 4, 1) := by decide +kernel
theorem dLw_law_529 : decode code 529 = .ok (.iadd, 1) := by decide +kernel
theorem dLw_law_530 : decode code 530 = .ok (.iaload, 1) := by decide +kernel
theorem dLw_law_531 : decode code 531 = .ok (.i2l, 1) := by decide +kernel
theorem dLw_law_532 : decode code 532 = .ok (.bipush 32, 2) := by decide +kernel
theorem dLw_law_534 : decode code 534 = .ok (.lshl, 1) := by decide +kernel
theorem dLw_law_535 : decode code 535 = .ok (.aload_n 0, 1) := by decide +kernel
theorem dLw_law_536 : decode code 536 = .ok (.iload_n 3, 1) := by decide +kernel
theorem dLw_law_537 : decode code 537 = .ok (.iconst 5, 1) := by decide +kernel
theorem dLw_law_538 : decode code 538 = .ok (.iadd, 1) := by decide +kernel
theorem dLw_law_539 : decode code 539 = .ok (.iaload, 1) := by decide +kernel
theorem dLw_law_540 : decode code 540 = .ok (.i2l, 1) := by decide +kernel
theorem dLw_law_541 : decode code 541 = .ok (.ldc2_w 26, 3) := by decide +kernel
theorem dLw_law_544 : decode code 544 = .ok (.land, 1) := by decide +kernel
theorem dLw_law_545 : decode code 545 = .ok (.lor, 1) := by decide +kernel
theorem dLw_law_546 : decode code 546 = .ok (.invokevirtual 70, 3) := by decide +kernel
theorem dLw_law_549 : decode code 549 = .ok (.aload_n 2, 1) := by decide +kernel
theorem dLw_law_550 : decode code 550 = .ok (.aload_n 0, 1) := by decide +kernel
theorem dLw_law_551 : decode code 551 = .ok (.iload_n 3, 1) := by decide +kernel
theorem dLw_law_552 : decode code 552 = .ok (.iconst 1, 1) := by decide +kernel
theorem dLw_law_553 : decode code 553 = .ok (.iadd, 1) := by decide +kernel
theorem dLw_law_554 : decode code 554 = .ok (.iaload, 1) := by decide +kernel
theorem dLw_law_555 : decode code 555 = .ok (.aload_n 0, 1) := by decide +kernel
theorem dLw_law_556 : decode code 556 = .ok (.iload_n 3, 1) := by decide +kernel
theorem dLw_law_557 : decode code 557 = .ok (.iconst 2, 1) := by decide +kernel
theorem dLw_law_558 : decode code 558 = .ok (.iadd, 1) := by decide +kernel
theorem dLw_law_559 : decode code 559 = .ok (.iaload, 1) := by decide +kernel
theorem dLw_law_560 : decode code 560 = .ok (.i2l, 1) := by decide +kernel
theorem dLw_law_561 : decode code 561 = .ok (.bipush 32, 2) := by decide +kernel
theorem dLw_law_563 : decode code 563 = .ok (.lshl, 1) := by decide +kernel
theorem dLw_law_564 : decode code 564 = .ok (.aload_n 0, 1) := by decide +kernel
theorem dLw_law_565 : decode code 565 = .ok (.iload_n 3, 1) := by decide +kernel
theorem dLw_law_566 : decode code 566 = .ok (.iconst 3, 1) := by decide +kernel
theorem dLw_law_567 : decode code 567 = .ok (.iadd, 1) := by decide +kernel
theorem dLw_law_568 : decode code 568 = .ok (.iaload, 1) := by decide +kernel
theorem dLw_law_569 : decode code 569 = .ok (.i2l, 1) := by decide +kernel
theorem dLw_law_570 : decode code 570 = .ok (.ldc2_w 26, 3) := by decide +kernel
theorem dLw_law_573 : decode code 573 = .ok (.land, 1) := by decide +kernel
theorem dLw_law_574 : decode code 574 = .ok (.lor, 1) := by decide +kernel
theorem dLw_law_575 : decode code 575 = .ok (.aload_n 0, 1) := by decide +kernel
theorem dLw_law_576 : decode code 576 = .ok (.iload_n 3, 1) := by decide +kernel
theorem dLw_law_577 : decode code 577 = .ok (.iconst 4, 1) := by decide +kernel
theorem dLw_law_578 : decode code 578 = .ok (.iadd, 1) := by decide +kernel
theorem dLw_law_579 : decode code 579 = .ok (.iaload, 1) := by decide +kernel
theorem dLw_law_580 : decode code 580 = .ok (.i2l, 1) := by decide +kernel
theorem dLw_law_581 : decode code 581 = .ok (.bipush 32, 2) := by decide +kernel
theorem dLw_law_583 : decode code 583 = .ok (.lshl, 1) := by decide +kernel
theorem dLw_law_584 : decode code 584 = .ok (.aload_n 0, 1) := by decide +kernel
theorem dLw_law_585 : decode code 585 = .ok (.iload_n 3, 1) := by decide +kernel
theorem dLw_law_586 : decode code 586 = .ok (.iconst 5, 1) := by decide +kernel
theorem dLw_law_587 : decode code 587 = .ok (.iadd, 1) := by decide +kernel
theorem dLw_law_588 : decode code 588 = .ok (.iaload, 1) := by decide +kernel
theorem dLw_law_589 : decode code 589 = .ok (.i2l, 1) := by decide +kernel
theorem dLw_law_590 : decode code 590 = .ok (.ldc2_w 26, 3) := by decide +kernel
theorem dLw_law_593 : decode code 593 = .ok (.land, 1) := by decide +kernel
theorem dLw_law_594 : decode code 594 = .ok (.lor, 1) := by decide +kernel
theorem dLw_law_595 : decode code 595 = .ok (.invokevirtual 74, 3) := by decide +kernel
theorem dLw_law_598 : decode code 598 = .ok (.lcmp, 1) := by decide +kernel
theorem dLw_law_599 : decode code 599 = .ok (.ifCond .eq 215, 3) := by decide +kernel
theorem dLw_law_602 : decode code 602 = .ok (.iconst 0, 1) := by decide +kernel
theorem dLw_law_603 : decode code 603 = .ok (.ireturn, 1) := by decide +kernel
theorem dLw_law_604 : decode code 604 = .ok (.aload_n 1, 1) := by decide +kernel
theorem dLw_law_605 : decode code 605 = .ok (.aload_n 0, 1) := by decide +kernel
theorem dLw_law_606 : decode code 606 = .ok (.iload_n 3, 1) := by decide +kernel
theorem dLw_law_607 : decode code 607 = .ok (.iconst 1, 1) := by decide +kernel
theorem dLw_law_608 : decode code 608 = .ok (.iadd, 1) := by decide +kernel
theorem dLw_law_609 : decode code 609 = .ok (.iaload, 1) := by decide +kernel
theorem dLw_law_610 : decode code 610 = .ok (.invokevirtual 75, 3) := by decide +kernel
theorem dLw_law_613 : decode code 613 = .ok (.aload_n 2, 1) := by decide +kernel
theorem dLw_law_614 : decode code 614 = .ok (.aload_n 0, 1) := by decide +kernel
theorem dLw_law_615 : decode code 615 = .ok (.iload_n 3, 1) := by decide +kernel
theorem dLw_law_616 : decode code 616 = .ok (.iconst 1, 1) := by decide +kernel
theorem dLw_law_617 : decode code 617 = .ok (.iadd, 1) := by decide +kernel
theorem dLw_law_618 : decode code 618 = .ok (.iaload, 1) := by decide +kernel
theorem dLw_law_619 : decode code 619 = .ok (.invokevirtual 78, 3) := by decide +kernel
theorem dLw_law_622 : decode code 622 = .ok (.if_icmp .eq 192, 3) := by decide +kernel
theorem dLw_law_625 : decode code 625 = .ok (.iconst 0, 1) := by decide +kernel
theorem dLw_law_626 : decode code 626 = .ok (.ireturn, 1) := by decide +kernel
theorem dLw_law_627 : decode code 627 = .ok (.aload_n 1, 1) := by decide +kernel
theorem dLw_law_628 : decode code 628 = .ok (.aload_n 0, 1) := by decide +kernel
theorem dLw_law_629 : decode code 629 = .ok (.iload_n 3, 1) := by decide +kernel
theorem dLw_law_630 : decode code 630 = .ok (.iconst 1, 1) := by decide +kernel
theorem dLw_law_631 : decode code 631 = .ok (.iadd, 1) := by decide +kernel
theorem dLw_law_632 : decode code 632 = .ok (.iaload, 1) := by decide +kernel
theorem dLw_law_633 : decode code 633 = .ok (.aload_n 0, 1) := by decide +kernel
theorem dLw_law_634 : decode code 634 = .ok (.iload_n 3, 1) := by decide +kernel
theorem dLw_law_635 : decode code 635 = .ok (.iconst 2, 1) := by decide +kernel
theorem dLw_law_636 : decode code 636 = .ok (.iadd, 1) := by decide +kernel
theorem dLw_law_637 : decode code 637 = .ok (.iaload, 1) := by decide +kernel
theorem dLw_law_638 : decode code 638 = .ok (.invokevirtual 79, 3) := by decide +kernel
theorem dLw_law_641 : decode code 641 = .ok (.aload_n 2, 1) := by decide +kernel
theorem dLw_law_642 : decode code 642 = .ok (.aload_n 0, 1) := by decide +kernel
theorem dLw_law_643 : decode code 643 = .ok (.iload_n 3, 1) := by decide +kernel
theorem dLw_law_644 : decode code 644 = .ok (.iconst 1, 1) := by decide +kernel
theorem dLw_law_645 : decode code 645 = .ok (.iadd, 1) := by decide +kernel
theorem dLw_law_646 : decode code 646 = .ok (.iaload, 1) := by decide +kernel
theorem dLw_law_647 : decode code 647 = .ok (.aload_n 0, 1) := by decide +kernel
theorem dLw_law_648 : decode code 648 = .ok (.iload_n 3, 1) := by decide +kernel
theorem dLw_law_649 : decode code 649 = .ok (.iconst 2, 1) := by decide +kernel
theorem dLw_law_650 : decode code 650 = .ok (.iadd, 1) := by decide +kernel
theorem dLw_law_651 : decode code 651 = .ok (.iaload, 1) := by decide +kernel
theorem dLw_law_652 : decode code 652 = .ok (.invokevirtual 82, 3) := by decide +kernel
theorem dLw_law_655 : decode code 655 = .ok (.lcmp, 1) := by decide +kernel
theorem dLw_law_656 : decode code 656 = .ok (.ifCond .eq 158, 3) := by decide +kernel
theorem dLw_law_659 : decode code 659 = .ok (.iconst 0, 1) := by decide +kernel
theorem dLw_law_660 : decode code 660 = .ok (.ireturn, 1) := by decide +kernel
theorem dLw_law_661 : decode code 661 = .ok (.aload_n 1, 1) := by decide +kernel
theorem dLw_law_662 : decode code 662 = .ok (.aload_n 0, 1) := by decide +kernel
theorem dLw_law_663 : decode code 663 = .ok (.iload_n 3, 1) := by decide +kernel
theorem dLw_law_664 : decode code 664 = .ok (.iconst 1, 1) := by decide +kernel
theorem dLw_law_665 : decode code 665 = .ok (.iadd, 1) := by decide +kernel
theorem dLw_law_666 : decode code 666 = .ok (.iaload, 1) := by decide +kernel
theorem dLw_law_667 : decode code 667 = .ok (.aload_n 0, 1) := by decide +kernel
theorem dLw_law_668 : decode code 668 = .ok (.iload_n 3, 1) := by decide +kernel
theorem dLw_law_669 : decode code 669 = .ok (.iconst 2, 1) := by decide +kernel
theorem dLw_law_670 : decode code 670 = .ok (.iadd, 1) := by decide +kernel
theorem dLw_law_671 : decode code 671 = .ok (.iaload, 1) := by decide +kernel
theorem dLw_law_672 : decode code 672 = .ok (.invokevirtual 83, 3) := by decide +kernel
theorem dLw_law_675 : decode code 675 = .ok (.aload_n 2, 1) := by decide +kernel
theorem dLw_law_676 : decode code 676 = .ok (.aload_n 0, 1) := by decide +kernel
theorem dLw_law_677 : decode code 677 = .ok (.iload_n 3, 1) := by decide +kernel
theorem dLw_law_678 : decode code 678 = .ok (.iconst 1, 1) := by decide +kernel
theorem dLw_law_679 : decode code 679 = .ok (.iadd, 1) := by decide +kernel
theorem dLw_law_680 : decode code 680 = .ok (.iaload, 1) := by decide +kernel
theorem dLw_law_681 : decode code 681 = .ok (.aload_n 0, 1) := by decide +kernel
theorem dLw_law_682 : decode code 682 = .ok (.iload_n 3, 1) := by decide +kernel
theorem dLw_law_683 : decode code 683 = .ok (.iconst 2, 1) := by decide +kernel
theorem dLw_law_684 : decode code 684 = .ok (.iadd, 1) := by decide +kernel
theorem dLw_law_685 : decode code 685 = .ok (.iaload, 1) := by decide +kernel
theorem dLw_law_686 : decode code 686 = .ok (.invokevirtual 86, 3) := by decide +kernel
theorem dLw_law_689 : decode code 689 = .ok (.if_icmp .eq 125, 3) := by decide +kernel
theorem dLw_law_692 : decode code 692 = .ok (.iconst 0, 1) := by decide +kernel
theorem dLw_law_693 : decode code 693 = .ok (.ireturn, 1) := by decide +kernel
theorem dLw_law_694 : decode code 694 = .ok (.aload_n 1, 1) := by decide +kernel
theorem dLw_law_695 : decode code 695 = .ok (.aload_n 0, 1) := by decide +kernel
theorem dLw_law_696 : decode code 696 = .ok (.iload_n 3, 1) := by decide +kernel
theorem dLw_law_697 : decode code 697 = .ok (.iconst 1, 1) := by decide +kernel
theorem dLw_law_698 : decode code 698 = .ok (.iadd, 1) := by decide +kernel
theorem dLw_law_699 : decode code 699 = .ok (.iaload, 1) := by decide +kernel
theorem dLw_law_700 : decode code 700 = .ok (.aload_n 0, 1) := by decide +kernel
theorem dLw_law_701 : decode code 701 = .ok (.iload_n 3, 1) := by decide +kernel
theorem dLw_law_702 : decode code 702 = .ok (.iconst 2, 1) := by decide +kernel
theorem dLw_law_703 : decode code 703 = .ok (.iadd, 1) := by decide +kernel
theorem dLw_law_704 : decode code 704 = .ok (.iaload, 1) := by decide +kernel
theorem dLw_law_705 : decode code 705 = .ok (.aload_n 0, 1) := by decide +kernel
theorem dLw_law_706 : decode code 706 = .ok (.iload_n 3, 1) := by decide +kernel
theorem dLw_law_707 : decode code 707 = .ok (.iconst 3, 1) := by decide +kernel
theorem dLw_law_708 : decode code 708 = .ok (.iadd, 1) := by decide +kernel
theorem dLw_law_709 : decode code 709 = .ok (.iaload, 1) := by decide +kernel
theorem dLw_law_710 : decode code 710 = .ok (.i2l, 1) := by decide +kernel
theorem dLw_law_711 : decode code 711 = .ok (.bipush 32, 2) := by decide +kernel
theorem dLw_law_713 : decode code 713 = .ok (.lshl, 1) := by decide +kernel
theorem dLw_law_714 : decode code 714 = .ok (.aload_n 0, 1) := by decide +kernel
theorem dLw_law_715 : decode code 715 = .ok (.iload_n 3, 1) := by decide +kernel
theorem dLw_law_716 : decode code 716 = .ok (.iconst 4, 1) := by decide +kernel
theorem dLw_law_717 : decode code 717 = .ok (.iadd, 1) := by decide +kernel
theorem dLw_law_718 : decode code 718 = .ok (.iaload, 1) := by decide +kernel
theorem dLw_law_719 : decode code 719 = .ok (.i2l, 1) := by decide +kernel
theorem dLw_law_720 : decode code 720 = .ok (.ldc2_w 26, 3) := by decide +kernel
theorem dLw_law_723 : decode code 723 = .ok (.land, 1) := by decide +kernel
theorem dLw_law_724 : decode code 724 = .ok (.lor, 1) := by decide +kernel
theorem dLw_law_725 : decode code 725 = .ok (.invokevirtual 87, 3) := by decide +kernel
theorem dLw_law_728 : decode code 728 = .ok (.aload_n 2, 1) := by decide +kernel
theorem dLw_law_729 : decode code 729 = .ok (.aload_n 0, 1) := by decide +kernel
theorem dLw_law_730 : decode code 730 = .ok (.iload_n 3, 1) := by decide +kernel
theorem dLw_law_731 : decode code 731 = .ok (.iconst 1, 1) := by decide +kernel
theorem dLw_law_732 : decode code 732 = .ok (.iadd, 1) := by decide +kernel
theorem dLw_law_733 : decode code 733 = .ok (.iaload, 1) := by decide +kernel
theorem dLw_law_734 : decode code 734 = .ok (.aload_n 0, 1) := by decide +kernel
theorem dLw_law_735 : decode code 735 = .ok (.iload_n 3, 1) := by decide +kernel
theorem dLw_law_736 : decode code 736 = .ok (.iconst 2, 1) := by decide +kernel
theorem dLw_law_737 : decode code 737 = .ok (.iadd, 1) := by decide +kernel
theorem dLw_law_738 : decode code 738 = .ok (.iaload, 1) := by decide +kernel
theorem dLw_law_739 : decode code 739 = .ok (.aload_n 0, 1) := by decide +kernel
theorem dLw_law_740 : decode code 740 = .ok (.iload_n 3, 1) := by decide +kernel
theorem dLw_law_741 : decode code 741 = .ok (.iconst 3, 1) := by decide +kernel
theorem dLw_law_742 : decode code 742 = .ok (.iadd, 1) := by decide +kernel
theorem dLw_law_743 : decode code 743 = .ok (.iaload, 1) := by decide +kernel
theorem dLw_law_744 : decode code 744 = .ok (.i2l, 1) := by decide +kernel
theorem dLw_law_745 : decode code 745 = .ok (.bipush 32, 2) := by decide +kernel
theorem dLw_law_747 : decode code 747 = .ok (.lshl, 1) := by decide +kernel
theorem dLw_law_748 : decode code 748 = .ok (.aload_n 0, 1) := by decide +kernel
theorem dLw_law_749 : decode code 749 = .ok (.iload_n 3, 1) := by decide +kernel
theorem dLw_law_750 : decode code 750 = .ok (.iconst 4, 1) := by decide +kernel
theorem dLw_law_751 : decode code 751 = .ok (.iadd, 1) := by decide +kernel
theorem dLw_law_752 : decode code 752 = .ok (.iaload, 1) := by decide +kernel
theorem dLw_law_753 : decode code 753 = .ok (.i2l, 1) := by decide +kernel
theorem dLw_law_754 : decode code 754 = .ok (.ldc2_w 26, 3) := by decide +kernel
theorem dLw_law_757 : decode code 757 = .ok (.land, 1) := by decide +kernel
theorem dLw_law_758 : decode code 758 = .ok (.lor, 1) := by decide +kernel
theorem dLw_law_759 : decode code 759 = .ok (.invokevirtual 91, 3) := by decide +kernel
theorem dLw_law_762 : decode code 762 = .ok (.if_icmp .eq 52, 3) := by decide +kernel
theorem dLw_law_765 : decode code 765 = .ok (.iconst 0, 1) := by decide +kernel
theorem dLw_law_766 : decode code 766 = .ok (.ireturn, 1) := by decide +kernel
theorem dLw_law_767 : decode code 767 = .ok (.aload_n 1, 1) := by decide +kernel
theorem dLw_law_768 : decode code 768 = .ok (.aload_n 0, 1) := by decide +kernel
theorem dLw_law_769 : decode code 769 = .ok (.iload_n 3, 1) := by decide +kernel
theorem dLw_law_770 : decode code 770 = .ok (.iconst 1, 1) := by decide +kernel
theorem dLw_law_771 : decode code 771 = .ok (.iadd, 1) := by decide +kernel
theorem dLw_law_772 : decode code 772 = .ok (.iaload, 1) := by decide +kernel
theorem dLw_law_773 : decode code 773 = .ok (.aload_n 0, 1) := by decide +kernel
theorem dLw_law_774 : decode code 774 = .ok (.iload_n 3, 1) := by decide +kernel
theorem dLw_law_775 : decode code 775 = .ok (.iconst 2, 1) := by decide +kernel
theorem dLw_law_776 : decode code 776 = .ok (.iadd, 1) := by decide +kernel
theorem dLw_law_777 : decode code 777 = .ok (.iaload, 1) := by decide +kernel
theorem dLw_law_778 : decode code 778 = .ok (.invokevirtual 92, 3) := by decide +kernel
theorem dLw_law_781 : decode code 781 = .ok (.aload_n 2, 1) := by decide +kernel
theorem dLw_law_782 : decode code 782 = .ok (.aload_n 0, 1) := by decide +kernel
theorem dLw_law_783 : decode code 783 = .ok (.iload_n 3, 1) := by decide +kernel
theorem dLw_law_784 : decode code 784 = .ok (.iconst 1, 1) := by decide +kernel
theorem dLw_law_785 : decode code 785 = .ok (.iadd, 1) := by decide +kernel
theorem dLw_law_786 : decode code 786 = .ok (.iaload, 1) := by decide +kernel
theorem dLw_law_787 : decode code 787 = .ok (.aload_n 0, 1) := by decide +kernel
theorem dLw_law_788 : decode code 788 = .ok (.iload_n 3, 1) := by decide +kernel
theorem dLw_law_789 : decode code 789 = .ok (.iconst 2, 1) := by decide +kernel
theorem dLw_law_790 : decode code 790 = .ok (.iadd, 1) := by decide +kernel
theorem dLw_law_791 : decode code 791 = .ok (.iaload, 1) := by decide +kernel
theorem dLw_law_792 : decode code 792 = .ok (.invokevirtual 95, 3) := by decide +kernel
theorem dLw_law_795 : decode code 795 = .ok (.lcmp, 1) := by decide +kernel
theorem dLw_law_796 : decode code 796 = .ok (.ifCond .eq 18, 3) := by decide +kernel
theorem dLw_law_799 : decode code 799 = .ok (.iconst 0, 1) := by decide +kernel
theorem dLw_law_800 : decode code 800 = .ok (.ireturn, 1) := by decide +kernel
theorem dLw_law_801 : decode code 801 = .ok (.aload_n 1, 1) := by decide +kernel
theorem dLw_law_802 : decode code 802 = .ok (.invokevirtual 96, 3) := by decide +kernel
theorem dLw_law_805 : decode code 805 = .ok (.aload_n 2, 1) := by decide +kernel
theorem dLw_law_806 : decode code 806 = .ok (.invokevirtual 100, 3) := by decide +kernel
theorem dLw_law_809 : decode code 809 = .ok (.if_icmp .eq 5, 3) := by decide +kernel
theorem dLw_law_812 : decode code 812 = .ok (.iconst 0, 1) := by decide +kernel
theorem dLw_law_813 : decode code 813 = .ok (.ireturn, 1) := by decide +kernel
theorem dLw_law_814 : decode code 814 = .ok (.iinc 3 6, 3) := by decide +kernel
theorem dLw_law_817 : decode code 817 = .ok (.goto (-787), 3) := by decide +kernel
theorem dLw_law_820 : decode code 820 = .ok (.iconst 1, 1) := by decide +kernel
theorem dLw_law_821 : decode code 821 = .ok (.ireturn, 1) := by decide +kernel
set_option maxHeartbeats 4000000 in
set_option maxRecDepth 100000 in
/-- cell(script, 0): what the script begins with, 0 when it is empty; nothing changes -/
theorem k_cell (l : Launch) (b L : Nat) (xs : Nat → Int32) (sz : Nat) (hL : L ≤ 3073) : Met l yLw_cell wsLw_cell ({ frames := 0, cells := 0, slots := 0, locals := 0 }) (va_Pc [.ref b, .int (iZ 0)] (fun U => U.heap.size = sz ∧ va_X b L xs U U.heap ∧ b < sz)) (va_Qi (fun (r : Int32) (_ : Unit) => r = (if 0 < L then xs 0 else iZ 0)) (fun _ _ => True) (fun q => sz ≤ q)) 0 0 (fun q => sz ≤ q) := by
  refine Met.ofW (cc := cLw_cell) (maxL := 2) (ret := (some .int)) (by decide) rfl ?_
  intro p e s m args below meth c s₁ B hml hv
  obtain ⟨rfl, hsz, hX, hbl⟩ := hv
  have hx := B.exec
  have hb := B.bytes
  have hr := B.returns
  have hlocks := B.notSynchronized
  subst hsz
  have hbA : ¬ (fun q : Nat => s.heap.size ≤ q) b := Nat.not_le.mpr hbl
  have hS : va_S (fun q : Nat => s.heap.size ≤ q) s.heap s.heap [] := va_S.rf
  have hl := lv_entry ([.ref b, .int (iZ 0)]) (n := 2) (Nat.le_of_ble_eq_true rfl)
  rw [lg_entry_eq]
  generalize (lg_sl ([.ref b, .int (iZ 0)]) ++ List.replicate (2 - (lg_sl ([.ref b, .int (iZ 0)])).length) Slot.unset).toArray = ls at hl ⊢
  have hl : lv_has ls 2 [(0, .ref b), (1, .int (iZ 0))] := hl
  refine lv_iload_n hx hb dLw_cell_0 rfl (lv_at hl 1 rfl) ?_
  refine lv_aload_n hx hb dLw_cell_1 rfl (lv_at hl 0 rfl) ?_
  refine va_slen hx hb hX hbl hbA hS dLw_cell_2 ?_
  refine cq_ti (show Int32.ofNat L = iZ (L : Int) from iZ_nN L) ?_
  refine z_icmp_ge (tgt := 12) hx hb (by omega) (by omega) (by omega) (by omega) dLw_cell_3 (by decide) (fun c_1 => ?_) (fun c_1 => ?_)
  · refine lv_iconst (v := iZ 0) hx hb dLw_cell_12 (by decide) ?_
    exact W.iret (v := iZ 0) hx hb hr (fun t ht hW => ⟨⟨iZ 0, (), rfl, by rw [if_neg (by omega)], trivial⟩, hS.F ht⟩) hS.2.2 dLw_cell_13
  · refine lv_aload_n hx hb dLw_cell_6 rfl (lv_at hl 0 rfl) ?_
    refine lv_iload_n hx hb dLw_cell_7 rfl (lv_at hl 1 rfl) ?_
    refine va_sld hx hb hX hbl hbA hS (iZ_in (by omega) (by omega) (by omega)) dLw_cell_8 ?_
    refine cq_ti (show xs (iZ 0).toNatClampNeg = xs 0 from rfl) ?_
    refine lv_goto (tgt := 13) hx hb dLw_cell_9 (by decide) ?_
    exact W.iret (v := xs 0) hx hb hr (fun t ht hW => ⟨⟨xs 0, (), rfl, by rw [if_pos (by omega)], trivial⟩, hS.F ht⟩) hS.2.2 dLw_cell_13
