/-! ===== the law's cases, its loop ===== -/
theorem sidx {a L k : Nat} (hk : k ≤ 6) (ha : a + 7 ≤ L) (hL : L ≤ 3584) : vp_in (nI a + nI k) L := by
  rw [nI_add]
  exact vp_in_nI (by omega) (by omega)
theorem law_tank {L a : Nat} {xs : Nat → Int32} {σ : SS} (ha : a + 7 ≤ L) (hL : L ≤ 3584) (hJ : J σ) (kk : ∀ σ2, J σ2 → LW L xs 823 (nI a) [] σ2) : LW L xs 132 (nI a) [] σ := by
  refine lw_ald1 dL_law_132 rfl ?_
  refine lw_ald0 dL_law_133 rfl ?_
  refine lw_ild3 dL_law_134 rfl ?_
  refine lw_ico (nI 1) (by decide) dL_law_135 rfl ?_
  refine lw_iadd dL_law_136 rfl ?_
  refine lw_iald (sidx (by decide) ha hL) dL_law_137 rfl ?_
  refine lw_ald0 dL_law_138 rfl ?_
  refine lw_ild3 dL_law_139 rfl ?_
  refine lw_ico (nI 2) (by decide) dL_law_140 rfl ?_
  refine lw_iadd dL_law_141 rfl ?_
  refine lw_iald (sidx (by decide) ha hL) dL_law_142 rfl ?_
  refine lw_ald0 dL_law_143 rfl ?_
  refine lw_ild3 dL_law_144 rfl ?_
  refine lw_ico (nI 3) (by decide) dL_law_145 rfl ?_
  refine lw_iadd dL_law_146 rfl ?_
  refine lw_iald (sidx (by decide) ha hL) dL_law_147 rfl ?_
  refine lw_call (M' := mX3_tank) (d := 14) (k := 0) [xs (nI a + nI 1).toNatClampNeg, xs (nI a + nI 2).toNatClampNeg, xs (nI a + nI 3).toNatClampNeg] _ dL_law_148 rfl (ax_gw 268 (by decide +kernel) rfl) gX3_tank rfl (by decide) rfl rfl rfl (by decide) (fun v hv => absurd hv List.not_mem_nil) (by decide) (op_tank hJ (xs (nI a + nI 1).toNatClampNeg) (xs (nI a + nI 2).toNatClampNeg) (xs (nI a + nI 3).toNatClampNeg)) (fun r σ1 hk => ?_)
  obtain ⟨x, hx, hM⟩ := hk
  subst hx
  refine ⟨x, rfl, ?_⟩
  refine lw_ald2 dL_law_151 rfl ?_
  refine lw_ald0 dL_law_152 rfl ?_
  refine lw_ild3 dL_law_153 rfl ?_
  refine lw_ico (nI 1) (by decide) dL_law_154 rfl ?_
  refine lw_iadd dL_law_155 rfl ?_
  refine lw_iald (sidx (by decide) ha hL) dL_law_156 rfl ?_
  refine lw_ald0 dL_law_157 rfl ?_
  refine lw_ild3 dL_law_158 rfl ?_
  refine lw_ico (nI 2) (by decide) dL_law_159 rfl ?_
  refine lw_iadd dL_law_160 rfl ?_
  refine lw_iald (sidx (by decide) ha hL) dL_law_161 rfl ?_
  refine lw_ald0 dL_law_162 rfl ?_
  refine lw_ild3 dL_law_163 rfl ?_
  refine lw_ico (nI 3) (by decide) dL_law_164 rfl ?_
  refine lw_iadd dL_law_165 rfl ?_
  refine lw_iald (sidx (by decide) ha hL) dL_law_166 rfl ?_
  refine lw_call (M' := mX4_tank) (d := 6) (k := 28) [xs (nI a + nI 1).toNatClampNeg, xs (nI a + nI 2).toNatClampNeg, xs (nI a + nI 3).toNatClampNeg] _ dL_law_167 rfl (ax_gw 589 (by decide +kernel) rfl) gX4_tank rfl (by decide) rfl rfl rfl (Nat.le_of_ble_eq_true rfl) (fun v hv => ⟨x, List.mem_singleton.mp hv⟩) (by decide) hM (fun r σ2 hk => ?_)
  obtain ⟨hx, hJ2⟩ := hk
  subst hx
  refine ⟨x, rfl, ?_⟩
  exact lw_ceq (tgt := 823) dL_law_170 rfl rfl (fun _ => kk σ2 hJ2) (fun z => absurd rfl z)
theorem law_neighbours {L a : Nat} {xs : Nat → Int32} {σ : SS} (ha : a + 7 ≤ L) (hL : L ≤ 3584) (hJ : J σ) (kk : ∀ σ2, J σ2 → LW L xs 823 (nI a) [] σ2) : LW L xs 175 (nI a) [] σ := by
  refine lw_ald1 dL_law_175 rfl ?_
  refine lw_ald0 dL_law_176 rfl ?_
  refine lw_ild3 dL_law_177 rfl ?_
  refine lw_ico (nI 1) (by decide) dL_law_178 rfl ?_
  refine lw_iadd dL_law_179 rfl ?_
  refine lw_iald (sidx (by decide) ha hL) dL_law_180 rfl ?_
  refine lw_ald0 dL_law_181 rfl ?_
  refine lw_ild3 dL_law_182 rfl ?_
  refine lw_ico (nI 2) (by decide) dL_law_183 rfl ?_
  refine lw_iadd dL_law_184 rfl ?_
  refine lw_iald (sidx (by decide) ha hL) dL_law_185 rfl ?_
  refine lw_ald0 dL_law_186 rfl ?_
  refine lw_ild3 dL_law_187 rfl ?_
  refine lw_ico (nI 3) (by decide) dL_law_188 rfl ?_
  refine lw_iadd dL_law_189 rfl ?_
  refine lw_iald (sidx (by decide) ha hL) dL_law_190 rfl ?_
  refine lw_ifeq (tgt := 198) dL_law_191 rfl rfl (fun c1 => ?_) (fun c1 => ?_)
  · skip
    refine lw_ico (nI 0) (by decide) dL_law_198 rfl ?_
    refine lw_call (M' := mX3_neighbours) (d := 14) (k := 0) [xs (nI a + nI 1).toNatClampNeg, xs (nI a + nI 2).toNatClampNeg, nI 0] _ dL_law_199 rfl (ax_gw 275 (by decide +kernel) rfl) gX3_neighbours rfl (by decide) rfl rfl rfl (by decide) (fun v hv => absurd hv List.not_mem_nil) (by decide) (op_neighbours hJ (xs (nI a + nI 1).toNatClampNeg) (xs (nI a + nI 2).toNatClampNeg) (nI 0)) (fun r σ1 hk => ?_)
    obtain ⟨x, hx, hM⟩ := hk
    subst hx
    refine ⟨x, rfl, ?_⟩
    refine lw_ald2 dL_law_202 rfl ?_
    refine lw_ald0 dL_law_203 rfl ?_
    refine lw_ild3 dL_law_204 rfl ?_
    refine lw_ico (nI 1) (by decide) dL_law_205 rfl ?_
    refine lw_iadd dL_law_206 rfl ?_
    refine lw_iald (sidx (by decide) ha hL) dL_law_207 rfl ?_
    refine lw_ald0 dL_law_208 rfl ?_
    refine lw_ild3 dL_law_209 rfl ?_
    refine lw_ico (nI 2) (by decide) dL_law_210 rfl ?_
    refine lw_iadd dL_law_211 rfl ?_
    refine lw_iald (sidx (by decide) ha hL) dL_law_212 rfl ?_
    refine lw_ald0 dL_law_213 rfl ?_
    refine lw_ild3 dL_law_214 rfl ?_
    refine lw_ico (nI 3) (by decide) dL_law_215 rfl ?_
    refine lw_iadd dL_law_216 rfl ?_
    refine lw_iald (sidx (by decide) ha hL) dL_law_217 rfl ?_
    refine lw_ifeq (tgt := 225) dL_law_218 rfl rfl (fun _ => ?_) (fun z => absurd c1 z)
    refine lw_ico (nI 0) (by decide) dL_law_225 rfl ?_
    refine lw_call (M' := mX4_neighbours) (d := 6) (k := 28) [xs (nI a + nI 1).toNatClampNeg, xs (nI a + nI 2).toNatClampNeg, nI 0] _ dL_law_226 rfl (ax_gw 596 (by decide +kernel) rfl) gX4_neighbours rfl (by decide) rfl rfl rfl (Nat.le_of_ble_eq_true rfl) (fun v hv => ⟨x, List.mem_singleton.mp hv⟩) (by decide) hM (fun r σ2 hk => ?_)
    obtain ⟨hx, hJ2⟩ := hk
    subst hx
    refine ⟨x, rfl, ?_⟩
    exact lw_ceq (tgt := 823) dL_law_229 rfl rfl (fun _ => kk σ2 hJ2) (fun z => absurd rfl z)
  · skip
    refine lw_ico (nI 1) (by decide) dL_law_194 rfl ?_
    refine lw_goto (q := 199) dL_law_195 rfl ?_
    refine lw_call (M' := mX3_neighbours) (d := 14) (k := 0) [xs (nI a + nI 1).toNatClampNeg, xs (nI a + nI 2).toNatClampNeg, nI 1] _ dL_law_199 rfl (ax_gw 275 (by decide +kernel) rfl) gX3_neighbours rfl (by decide) rfl rfl rfl (by decide) (fun v hv => absurd hv List.not_mem_nil) (by decide) (op_neighbours hJ (xs (nI a + nI 1).toNatClampNeg) (xs (nI a + nI 2).toNatClampNeg) (nI 1)) (fun r σ1 hk => ?_)
    obtain ⟨x, hx, hM⟩ := hk
    subst hx
    refine ⟨x, rfl, ?_⟩
    refine lw_ald2 dL_law_202 rfl ?_
    refine lw_ald0 dL_law_203 rfl ?_
    refine lw_ild3 dL_law_204 rfl ?_
    refine lw_ico (nI 1) (by decide) dL_law_205 rfl ?_
    refine lw_iadd dL_law_206 rfl ?_
    refine lw_iald (sidx (by decide) ha hL) dL_law_207 rfl ?_
    refine lw_ald0 dL_law_208 rfl ?_
    refine lw_ild3 dL_law_209 rfl ?_
    refine lw_ico (nI 2) (by decide) dL_law_210 rfl ?_
    refine lw_iadd dL_law_211 rfl ?_
    refine lw_iald (sidx (by decide) ha hL) dL_law_212 rfl ?_
    refine lw_ald0 dL_law_213 rfl ?_
    refine lw_ild3 dL_law_214 rfl ?_
    refine lw_ico (nI 3) (by decide) dL_law_215 rfl ?_
    refine lw_iadd dL_law_216 rfl ?_
    refine lw_iald (sidx (by decide) ha hL) dL_law_217 rfl ?_
    refine lw_ifeq (tgt := 225) dL_law_218 rfl rfl (fun z => absurd z c1) (fun _ => ?_)
    refine lw_ico (nI 1) (by decide) dL_law_221 rfl ?_
    refine lw_goto (q := 226) dL_law_222 rfl ?_
    refine lw_call (M' := mX4_neighbours) (d := 6) (k := 28) [xs (nI a + nI 1).toNatClampNeg, xs (nI a + nI 2).toNatClampNeg, nI 1] _ dL_law_226 rfl (ax_gw 596 (by decide +kernel) rfl) gX4_neighbours rfl (by decide) rfl rfl rfl (Nat.le_of_ble_eq_true rfl) (fun v hv => ⟨x, List.mem_singleton.mp hv⟩) (by decide) hM (fun r σ2 hk => ?_)
    obtain ⟨hx, hJ2⟩ := hk
    subst hx
    refine ⟨x, rfl, ?_⟩
    exact lw_ceq (tgt := 823) dL_law_229 rfl rfl (fun _ => kk σ2 hJ2) (fun z => absurd rfl z)
theorem law_latest {L a : Nat} {xs : Nat → Int32} {σ : SS} (ha : a + 7 ≤ L) (hL : L ≤ 3584) (hJ : J σ) (kk : ∀ σ2, J σ2 → LW L xs 823 (nI a) [] σ2) : LW L xs 234 (nI a) [] σ := by
  refine lw_ald1 dL_law_234 rfl ?_
  refine lw_ald0 dL_law_235 rfl ?_
  refine lw_ild3 dL_law_236 rfl ?_
  refine lw_ico (nI 1) (by decide) dL_law_237 rfl ?_
  refine lw_iadd dL_law_238 rfl ?_
  refine lw_iald (sidx (by decide) ha hL) dL_law_239 rfl ?_
  refine lw_ald0 dL_law_240 rfl ?_
  refine lw_ild3 dL_law_241 rfl ?_
  refine lw_ico (nI 2) (by decide) dL_law_242 rfl ?_
  refine lw_iadd dL_law_243 rfl ?_
  refine lw_iald (sidx (by decide) ha hL) dL_law_244 rfl ?_
  refine lw_ald0 dL_law_245 rfl ?_
  refine lw_ild3 dL_law_246 rfl ?_
  refine lw_ico (nI 3) (by decide) dL_law_247 rfl ?_
  refine lw_iadd dL_law_248 rfl ?_
  refine lw_iald (sidx (by decide) ha hL) dL_law_249 rfl ?_
  refine lw_call (M' := mX3_latest) (d := 14) (k := 0) [xs (nI a + nI 1).toNatClampNeg, xs (nI a + nI 2).toNatClampNeg, xs (nI a + nI 3).toNatClampNeg] _ dL_law_250 rfl (ax_gw 290 (by decide +kernel) rfl) gX3_latest rfl (by decide) rfl rfl rfl (by decide) (fun v hv => absurd hv List.not_mem_nil) (by decide) (op_latest hJ (xs (nI a + nI 1).toNatClampNeg) (xs (nI a + nI 2).toNatClampNeg) (xs (nI a + nI 3).toNatClampNeg)) (fun r σ1 hk => ?_)
  obtain ⟨x, hx, hM⟩ := hk
  subst hx
  refine ⟨x, rfl, ?_⟩
  refine lw_ald2 dL_law_253 rfl ?_
  refine lw_ald0 dL_law_254 rfl ?_
  refine lw_ild3 dL_law_255 rfl ?_
  refine lw_ico (nI 1) (by decide) dL_law_256 rfl ?_
  refine lw_iadd dL_law_257 rfl ?_
  refine lw_iald (sidx (by decide) ha hL) dL_law_258 rfl ?_
  refine lw_ald0 dL_law_259 rfl ?_
  refine lw_ild3 dL_law_260 rfl ?_
  refine lw_ico (nI 2) (by decide) dL_law_261 rfl ?_
  refine lw_iadd dL_law_262 rfl ?_
  refine lw_iald (sidx (by decide) ha hL) dL_law_263 rfl ?_
  refine lw_ald0 dL_law_264 rfl ?_
  refine lw_ild3 dL_law_265 rfl ?_
  refine lw_ico (nI 3) (by decide) dL_law_266 rfl ?_
  refine lw_iadd dL_law_267 rfl ?_
  refine lw_iald (sidx (by decide) ha hL) dL_law_268 rfl ?_
  refine lw_call (M' := mX4_latest) (d := 6) (k := 28) [xs (nI a + nI 1).toNatClampNeg, xs (nI a + nI 2).toNatClampNeg, xs (nI a + nI 3).toNatClampNeg] _ dL_law_269 rfl (ax_gw 611 (by decide +kernel) rfl) gX4_latest rfl (by decide) rfl rfl rfl (Nat.le_of_ble_eq_true rfl) (fun v hv => ⟨x, List.mem_singleton.mp hv⟩) (by decide) hM (fun r σ2 hk => ?_)
  obtain ⟨hx, hJ2⟩ := hk
  subst hx
  refine ⟨x, rfl, ?_⟩
  exact lw_ceq (tgt := 823) dL_law_272 rfl rfl (fun _ => kk σ2 hJ2) (fun z => absurd rfl z)
theorem law_cargo {L a : Nat} {xs : Nat → Int32} {σ : SS} (ha : a + 7 ≤ L) (hL : L ≤ 3584) (hJ : J σ) (kk : ∀ σ2, J σ2 → LW L xs 823 (nI a) [] σ2) : LW L xs 277 (nI a) [] σ := by
  refine lw_ald1 dL_law_277 rfl ?_
  refine lw_ald0 dL_law_278 rfl ?_
  refine lw_ild3 dL_law_279 rfl ?_
  refine lw_ico (nI 1) (by decide) dL_law_280 rfl ?_
  refine lw_iadd dL_law_281 rfl ?_
  refine lw_iald (sidx (by decide) ha hL) dL_law_282 rfl ?_
  refine lw_ald0 dL_law_283 rfl ?_
  refine lw_ild3 dL_law_284 rfl ?_
  refine lw_ico (nI 2) (by decide) dL_law_285 rfl ?_
  refine lw_iadd dL_law_286 rfl ?_
  refine lw_iald (sidx (by decide) ha hL) dL_law_287 rfl ?_
  refine lw_ald0 dL_law_288 rfl ?_
  refine lw_ild3 dL_law_289 rfl ?_
  refine lw_ico (nI 3) (by decide) dL_law_290 rfl ?_
  refine lw_iadd dL_law_291 rfl ?_
  refine lw_iald (sidx (by decide) ha hL) dL_law_292 rfl ?_
  refine lw_ald0 dL_law_293 rfl ?_
  refine lw_ild3 dL_law_294 rfl ?_
  refine lw_ico (nI 4) (by decide) dL_law_295 rfl ?_
  refine lw_iadd dL_law_296 rfl ?_
  refine lw_iald (sidx (by decide) ha hL) dL_law_297 rfl ?_
  refine lw_ald0 dL_law_298 rfl ?_
  refine lw_ild3 dL_law_299 rfl ?_
  refine lw_ico (nI 5) (by decide) dL_law_300 rfl ?_
  refine lw_iadd dL_law_301 rfl ?_
  refine lw_iald (sidx (by decide) ha hL) dL_law_302 rfl ?_
  refine lw_ald0 dL_law_303 rfl ?_
  refine lw_ild3 dL_law_304 rfl ?_
  refine lw_bip (nI 6) (by decide) dL_law_305 rfl ?_
  refine lw_iadd dL_law_307 rfl ?_
  refine lw_iald (sidx (by decide) ha hL) dL_law_308 rfl ?_
  refine lw_call (M' := mX3_cargo) (d := 14) (k := 0) [xs (nI a + nI 1).toNatClampNeg, xs (nI a + nI 2).toNatClampNeg, xs (nI a + nI 3).toNatClampNeg, xs (nI a + nI 4).toNatClampNeg, xs (nI a + nI 5).toNatClampNeg, xs (nI a + nI 6).toNatClampNeg] _ dL_law_309 rfl (ax_gw 297 (by decide +kernel) rfl) gX3_cargo rfl (by decide) rfl rfl rfl (by decide) (fun v hv => absurd hv List.not_mem_nil) (by decide) (op_cargo hJ (xs (nI a + nI 1).toNatClampNeg) (xs (nI a + nI 2).toNatClampNeg) (xs (nI a + nI 3).toNatClampNeg) (xs (nI a + nI 4).toNatClampNeg) (xs (nI a + nI 5).toNatClampNeg) (xs (nI a + nI 6).toNatClampNeg)) (fun r σ1 hk => ?_)
  obtain ⟨x, hx, hM⟩ := hk
  subst hx
  refine ⟨x, rfl, ?_⟩
  refine lw_ald2 dL_law_312 rfl ?_
  refine lw_ald0 dL_law_313 rfl ?_
  refine lw_ild3 dL_law_314 rfl ?_
  refine lw_ico (nI 1) (by decide) dL_law_315 rfl ?_
  refine lw_iadd dL_law_316 rfl ?_
  refine lw_iald (sidx (by decide) ha hL) dL_law_317 rfl ?_
  refine lw_ald0 dL_law_318 rfl ?_
  refine lw_ild3 dL_law_319 rfl ?_
  refine lw_ico (nI 2) (by decide) dL_law_320 rfl ?_
  refine lw_iadd dL_law_321 rfl ?_
  refine lw_iald (sidx (by decide) ha hL) dL_law_322 rfl ?_
  refine lw_ald0 dL_law_323 rfl ?_
  refine lw_ild3 dL_law_324 rfl ?_
  refine lw_ico (nI 3) (by decide) dL_law_325 rfl ?_
  refine lw_iadd dL_law_326 rfl ?_
  refine lw_iald (sidx (by decide) ha hL) dL_law_327 rfl ?_
  refine lw_ald0 dL_law_328 rfl ?_
  refine lw_ild3 dL_law_329 rfl ?_
  refine lw_ico (nI 4) (by decide) dL_law_330 rfl ?_
  refine lw_iadd dL_law_331 rfl ?_
  refine lw_iald (sidx (by decide) ha hL) dL_law_332 rfl ?_
  refine lw_ald0 dL_law_333 rfl ?_
  refine lw_ild3 dL_law_334 rfl ?_
  refine lw_ico (nI 5) (by decide) dL_law_335 rfl ?_
  refine lw_iadd dL_law_336 rfl ?_
  refine lw_iald (sidx (by decide) ha hL) dL_law_337 rfl ?_
  refine lw_ald0 dL_law_338 rfl ?_
  refine lw_ild3 dL_law_339 rfl ?_
  refine lw_bip (nI 6) (by decide) dL_law_340 rfl ?_
  refine lw_iadd dL_law_342 rfl ?_
  refine lw_iald (sidx (by decide) ha hL) dL_law_343 rfl ?_
  refine lw_call (M' := mX4_cargo) (d := 6) (k := 28) [xs (nI a + nI 1).toNatClampNeg, xs (nI a + nI 2).toNatClampNeg, xs (nI a + nI 3).toNatClampNeg, xs (nI a + nI 4).toNatClampNeg, xs (nI a + nI 5).toNatClampNeg, xs (nI a + nI 6).toNatClampNeg] _ dL_law_344 rfl (ax_gw 618 (by decide +kernel) rfl) gX4_cargo rfl (by decide) rfl rfl rfl (Nat.le_of_ble_eq_true rfl) (fun v hv => ⟨x, List.mem_singleton.mp hv⟩) (by decide) hM (fun r σ2 hk => ?_)
  obtain ⟨hx, hJ2⟩ := hk
  subst hx
  refine ⟨x, rfl, ?_⟩
  exact lw_ceq (tgt := 823) dL_law_347 rfl rfl (fun _ => kk σ2 hJ2) (fun z => absurd rfl z)
theorem law_uncargo {L a : Nat} {xs : Nat → Int32} {σ : SS} (ha : a + 7 ≤ L) (hL : L ≤ 3584) (hJ : J σ) (kk : ∀ σ2, J σ2 → LW L xs 823 (nI a) [] σ2) : LW L xs 352 (nI a) [] σ := by
  refine lw_ald1 dL_law_352 rfl ?_
  refine lw_call (M' := mX3_uncargo) (d := 14) (k := 0) [] _ dL_law_353 rfl (ax_gw 307 (by decide +kernel) rfl) gX3_uncargo rfl (by decide) rfl rfl rfl (by decide) (fun v hv => absurd hv List.not_mem_nil) (by decide) (op_uncargo hJ ) (fun r σ1 hk => ?_)
  obtain ⟨x, hx, hM⟩ := hk
  subst hx
  refine ⟨x, rfl, ?_⟩
  refine lw_ald2 dL_law_356 rfl ?_
  refine lw_call (M' := mX4_uncargo) (d := 6) (k := 28) [] _ dL_law_357 rfl (ax_gw 625 (by decide +kernel) rfl) gX4_uncargo rfl (by decide) rfl rfl rfl (Nat.le_of_ble_eq_true rfl) (fun v hv => ⟨x, List.mem_singleton.mp hv⟩) (by decide) hM (fun r σ2 hk => ?_)
  obtain ⟨hx, hJ2⟩ := hk
  subst hx
  refine ⟨x, rfl, ?_⟩
  exact lw_ceq (tgt := 823) dL_law_360 rfl rfl (fun _ => kk σ2 hJ2) (fun z => absurd rfl z)
theorem law_amount {L a : Nat} {xs : Nat → Int32} {σ : SS} (ha : a + 7 ≤ L) (hL : L ≤ 3584) (hJ : J σ) (kk : ∀ σ2, J σ2 → LW L xs 823 (nI a) [] σ2) : LW L xs 365 (nI a) [] σ := by
  refine lw_ald1 dL_law_365 rfl ?_
  refine lw_ald0 dL_law_366 rfl ?_
  refine lw_ild3 dL_law_367 rfl ?_
  refine lw_ico (nI 1) (by decide) dL_law_368 rfl ?_
  refine lw_iadd dL_law_369 rfl ?_
  refine lw_iald (sidx (by decide) ha hL) dL_law_370 rfl ?_
  refine lw_ald0 dL_law_371 rfl ?_
  refine lw_ild3 dL_law_372 rfl ?_
  refine lw_ico (nI 2) (by decide) dL_law_373 rfl ?_
  refine lw_iadd dL_law_374 rfl ?_
  refine lw_iald (sidx (by decide) ha hL) dL_law_375 rfl ?_
  refine lw_call (M' := mX3_amount) (d := 14) (k := 0) [xs (nI a + nI 1).toNatClampNeg, xs (nI a + nI 2).toNatClampNeg] _ dL_law_376 rfl (ax_gw 315 (by decide +kernel) rfl) gX3_amount rfl (by decide) rfl rfl rfl (by decide) (fun v hv => absurd hv List.not_mem_nil) (by decide) (op_amount hJ (xs (nI a + nI 1).toNatClampNeg) (xs (nI a + nI 2).toNatClampNeg)) (fun r σ1 hk => ?_)
  obtain ⟨x, hx, hM⟩ := hk
  subst hx
  refine ⟨x, rfl, ?_⟩
  refine lw_ald2 dL_law_379 rfl ?_
  refine lw_ald0 dL_law_380 rfl ?_
  refine lw_ild3 dL_law_381 rfl ?_
  refine lw_ico (nI 1) (by decide) dL_law_382 rfl ?_
  refine lw_iadd dL_law_383 rfl ?_
  refine lw_iald (sidx (by decide) ha hL) dL_law_384 rfl ?_
  refine lw_ald0 dL_law_385 rfl ?_
  refine lw_ild3 dL_law_386 rfl ?_
  refine lw_ico (nI 2) (by decide) dL_law_387 rfl ?_
  refine lw_iadd dL_law_388 rfl ?_
  refine lw_iald (sidx (by decide) ha hL) dL_law_389 rfl ?_
  refine lw_call (M' := mX4_amount) (d := 6) (k := 28) [xs (nI a + nI 1).toNatClampNeg, xs (nI a + nI 2).toNatClampNeg] _ dL_law_390 rfl (ax_gw 633 (by decide +kernel) rfl) gX4_amount rfl (by decide) rfl rfl rfl (Nat.le_of_ble_eq_true rfl) (fun v hv => ⟨x, List.mem_singleton.mp hv⟩) (by decide) hM (fun r σ2 hk => ?_)
  obtain ⟨hx, hJ2⟩ := hk
  subst hx
  refine ⟨x, rfl, ?_⟩
  exact lw_ceq (tgt := 823) dL_law_393 rfl rfl (fun _ => kk σ2 hJ2) (fun z => absurd rfl z)
theorem law_washes {L a : Nat} {xs : Nat → Int32} {σ : SS} (ha : a + 7 ≤ L) (hL : L ≤ 3584) (hJ : J σ) (kk : ∀ σ2, J σ2 → LW L xs 823 (nI a) [] σ2) : LW L xs 398 (nI a) [] σ := by
  refine lw_ald1 dL_law_398 rfl ?_
  refine lw_ald0 dL_law_399 rfl ?_
  refine lw_ild3 dL_law_400 rfl ?_
  refine lw_ico (nI 1) (by decide) dL_law_401 rfl ?_
  refine lw_iadd dL_law_402 rfl ?_
  refine lw_iald (sidx (by decide) ha hL) dL_law_403 rfl ?_
  refine lw_ald0 dL_law_404 rfl ?_
  refine lw_ild3 dL_law_405 rfl ?_
  refine lw_ico (nI 2) (by decide) dL_law_406 rfl ?_
  refine lw_iadd dL_law_407 rfl ?_
  refine lw_iald (sidx (by decide) ha hL) dL_law_408 rfl ?_
  refine lw_ald0 dL_law_409 rfl ?_
  refine lw_ild3 dL_law_410 rfl ?_
  refine lw_ico (nI 3) (by decide) dL_law_411 rfl ?_
  refine lw_iadd dL_law_412 rfl ?_
  refine lw_iald (sidx (by decide) ha hL) dL_law_413 rfl ?_
  refine lw_call (M' := mX3_washes) (d := 14) (k := 0) [xs (nI a + nI 1).toNatClampNeg, xs (nI a + nI 2).toNatClampNeg, xs (nI a + nI 3).toNatClampNeg] _ dL_law_414 rfl (ax_gw 323 (by decide +kernel) rfl) gX3_washes rfl (by decide) rfl rfl rfl (by decide) (fun v hv => absurd hv List.not_mem_nil) (by decide) (op_washes hJ (xs (nI a + nI 1).toNatClampNeg) (xs (nI a + nI 2).toNatClampNeg) (xs (nI a + nI 3).toNatClampNeg)) (fun r σ1 hk => ?_)
  obtain ⟨x, hx, hM⟩ := hk
  subst hx
  refine ⟨x, rfl, ?_⟩
  refine lw_ald2 dL_law_417 rfl ?_
  refine lw_ald0 dL_law_418 rfl ?_
  refine lw_ild3 dL_law_419 rfl ?_
  refine lw_ico (nI 1) (by decide) dL_law_420 rfl ?_
  refine lw_iadd dL_law_421 rfl ?_
  refine lw_iald (sidx (by decide) ha hL) dL_law_422 rfl ?_
  refine lw_ald0 dL_law_423 rfl ?_
  refine lw_ild3 dL_law_424 rfl ?_
  refine lw_ico (nI 2) (by decide) dL_law_425 rfl ?_
  refine lw_iadd dL_law_426 rfl ?_
  refine lw_iald (sidx (by decide) ha hL) dL_law_427 rfl ?_
  refine lw_ald0 dL_law_428 rfl ?_
  refine lw_ild3 dL_law_429 rfl ?_
  refine lw_ico (nI 3) (by decide) dL_law_430 rfl ?_
  refine lw_iadd dL_law_431 rfl ?_
  refine lw_iald (sidx (by decide) ha hL) dL_law_432 rfl ?_
  refine lw_call (M' := mX4_washes) (d := 6) (k := 28) [xs (nI a + nI 1).toNatClampNeg, xs (nI a + nI 2).toNatClampNeg, xs (nI a + nI 3).toNatClampNeg] _ dL_law_433 rfl (ax_gw 641 (by decide +kernel) rfl) gX4_washes rfl (by decide) rfl rfl rfl (Nat.le_of_ble_eq_true rfl) (fun v hv => ⟨x, List.mem_singleton.mp hv⟩) (by decide) hM (fun r σ2 hk => ?_)
  obtain ⟨hx, hJ2⟩ := hk
  subst hx
  refine ⟨x, rfl, ?_⟩
  exact lw_ceq (tgt := 823) dL_law_436 rfl rfl (fun _ => kk σ2 hJ2) (fun z => absurd rfl z)
theorem law_bound {L a : Nat} {xs : Nat → Int32} {σ : SS} (ha : a + 7 ≤ L) (hL : L ≤ 3584) (hJ : J σ) (kk : ∀ σ2, J σ2 → LW L xs 823 (nI a) [] σ2) : LW L xs 441 (nI a) [] σ := by
  refine lw_ald1 dL_law_441 rfl ?_
  refine lw_ald0 dL_law_442 rfl ?_
  refine lw_ild3 dL_law_443 rfl ?_
  refine lw_ico (nI 1) (by decide) dL_law_444 rfl ?_
  refine lw_iadd dL_law_445 rfl ?_
  refine lw_iald (sidx (by decide) ha hL) dL_law_446 rfl ?_
  refine lw_call (M' := mX3_bound) (d := 14) (k := 0) [xs (nI a + nI 1).toNatClampNeg] _ dL_law_447 rfl (ax_gw 327 (by decide +kernel) rfl) gX3_bound rfl (by decide) rfl rfl rfl (by decide) (fun v hv => absurd hv List.not_mem_nil) (by decide) (op_bound hJ (xs (nI a + nI 1).toNatClampNeg)) (fun r σ1 hk => ?_)
  obtain ⟨x, hx, hM⟩ := hk
  subst hx
  refine ⟨x, rfl, ?_⟩
  refine lw_ald2 dL_law_450 rfl ?_
  refine lw_ald0 dL_law_451 rfl ?_
  refine lw_ild3 dL_law_452 rfl ?_
  refine lw_ico (nI 1) (by decide) dL_law_453 rfl ?_
  refine lw_iadd dL_law_454 rfl ?_
  refine lw_iald (sidx (by decide) ha hL) dL_law_455 rfl ?_
  refine lw_call (M' := mX4_bound) (d := 6) (k := 28) [xs (nI a + nI 1).toNatClampNeg] _ dL_law_456 rfl (ax_gw 645 (by decide +kernel) rfl) gX4_bound rfl (by decide) rfl rfl rfl (Nat.le_of_ble_eq_true rfl) (fun v hv => ⟨x, List.mem_singleton.mp hv⟩) (by decide) hM (fun r σ2 hk => ?_)
  obtain ⟨hx, hJ2⟩ := hk
  subst hx
  refine ⟨x, rfl, ?_⟩
  exact lw_ceq (tgt := 823) dL_law_459 rfl rfl (fun _ => kk σ2 hJ2) (fun z => absurd rfl z)
theorem law_ofTank {L a : Nat} {xs : Nat → Int32} {σ : SS} (ha : a + 7 ≤ L) (hL : L ≤ 3584) (hJ : J σ) (kk : ∀ σ2, J σ2 → LW L xs 823 (nI a) [] σ2) : LW L xs 464 (nI a) [] σ := by
  refine lw_ald1 dL_law_464 rfl ?_
  refine lw_ald0 dL_law_465 rfl ?_
  refine lw_ild3 dL_law_466 rfl ?_
  refine lw_ico (nI 1) (by decide) dL_law_467 rfl ?_
  refine lw_iadd dL_law_468 rfl ?_
  refine lw_iald (sidx (by decide) ha hL) dL_law_469 rfl ?_
  refine lw_ald0 dL_law_470 rfl ?_
  refine lw_ild3 dL_law_471 rfl ?_
  refine lw_ico (nI 2) (by decide) dL_law_472 rfl ?_
  refine lw_iadd dL_law_473 rfl ?_
  refine lw_iald (sidx (by decide) ha hL) dL_law_474 rfl ?_
  refine lw_call (M' := mX3_ofTank) (d := 14) (k := 0) [xs (nI a + nI 1).toNatClampNeg, xs (nI a + nI 2).toNatClampNeg] _ dL_law_475 rfl (ax_gw 331 (by decide +kernel) rfl) gX3_ofTank rfl (by decide) rfl rfl rfl (by decide) (fun v hv => absurd hv List.not_mem_nil) (by decide) (op_ofTank hJ (xs (nI a + nI 1).toNatClampNeg) (xs (nI a + nI 2).toNatClampNeg)) (fun r σ1 hk => ?_)
  obtain ⟨x, hx, hM⟩ := hk
  subst hx
  refine ⟨x, rfl, ?_⟩
  refine lw_ald2 dL_law_478 rfl ?_
  refine lw_ald0 dL_law_479 rfl ?_
  refine lw_ild3 dL_law_480 rfl ?_
  refine lw_ico (nI 1) (by decide) dL_law_481 rfl ?_
  refine lw_iadd dL_law_482 rfl ?_
  refine lw_iald (sidx (by decide) ha hL) dL_law_483 rfl ?_
  refine lw_ald0 dL_law_484 rfl ?_
  refine lw_ild3 dL_law_485 rfl ?_
  refine lw_ico (nI 2) (by decide) dL_law_486 rfl ?_
  refine lw_iadd dL_law_487 rfl ?_
  refine lw_iald (sidx (by decide) ha hL) dL_law_488 rfl ?_
  refine lw_call (M' := mX4_ofTank) (d := 6) (k := 28) [xs (nI a + nI 1).toNatClampNeg, xs (nI a + nI 2).toNatClampNeg] _ dL_law_489 rfl (ax_gw 649 (by decide +kernel) rfl) gX4_ofTank rfl (by decide) rfl rfl rfl (Nat.le_of_ble_eq_true rfl) (fun v hv => ⟨x, List.mem_singleton.mp hv⟩) (by decide) hM (fun r σ2 hk => ?_)
  obtain ⟨hx, hJ2⟩ := hk
  subst hx
  refine ⟨x, rfl, ?_⟩
  exact lw_ceq (tgt := 823) dL_law_492 rfl rfl (fun _ => kk σ2 hJ2) (fun z => absurd rfl z)
theorem law_ofCargo {L a : Nat} {xs : Nat → Int32} {σ : SS} (ha : a + 7 ≤ L) (hL : L ≤ 3584) (hJ : J σ) (kk : ∀ σ2, J σ2 → LW L xs 823 (nI a) [] σ2) : LW L xs 497 (nI a) [] σ := by
  refine lw_ald1 dL_law_497 rfl ?_
  refine lw_ald0 dL_law_498 rfl ?_
  refine lw_ild3 dL_law_499 rfl ?_
  refine lw_ico (nI 1) (by decide) dL_law_500 rfl ?_
  refine lw_iadd dL_law_501 rfl ?_
  refine lw_iald (sidx (by decide) ha hL) dL_law_502 rfl ?_
  refine lw_ald0 dL_law_503 rfl ?_
  refine lw_ild3 dL_law_504 rfl ?_
  refine lw_ico (nI 2) (by decide) dL_law_505 rfl ?_
  refine lw_iadd dL_law_506 rfl ?_
  refine lw_iald (sidx (by decide) ha hL) dL_law_507 rfl ?_
  refine lw_call (M' := mX3_ofCargo) (d := 14) (k := 0) [xs (nI a + nI 1).toNatClampNeg, xs (nI a + nI 2).toNatClampNeg] _ dL_law_508 rfl (ax_gw 335 (by decide +kernel) rfl) gX3_ofCargo rfl (by decide) rfl rfl rfl (by decide) (fun v hv => absurd hv List.not_mem_nil) (by decide) (op_ofCargo hJ (xs (nI a + nI 1).toNatClampNeg) (xs (nI a + nI 2).toNatClampNeg)) (fun r σ1 hk => ?_)
  obtain ⟨x, hx, hM⟩ := hk
  subst hx
  refine ⟨x, rfl, ?_⟩
  refine lw_ald2 dL_law_511 rfl ?_
  refine lw_ald0 dL_law_512 rfl ?_
  refine lw_ild3 dL_law_513 rfl ?_
  refine lw_ico (nI 1) (by decide) dL_law_514 rfl ?_
  refine lw_iadd dL_law_515 rfl ?_
  refine lw_iald (sidx (by decide) ha hL) dL_law_516 rfl ?_
  refine lw_ald0 dL_law_517 rfl ?_
  refine lw_ild3 dL_law_518 rfl ?_
  refine lw_ico (nI 2) (by decide) dL_law_519 rfl ?_
  refine lw_iadd dL_law_520 rfl ?_
  refine lw_iald (sidx (by decide) ha hL) dL_law_521 rfl ?_
  refine lw_call (M' := mX4_ofCargo) (d := 6) (k := 28) [xs (nI a + nI 1).toNatClampNeg, xs (nI a + nI 2).toNatClampNeg] _ dL_law_522 rfl (ax_gw 653 (by decide +kernel) rfl) gX4_ofCargo rfl (by decide) rfl rfl rfl (Nat.le_of_ble_eq_true rfl) (fun v hv => ⟨x, List.mem_singleton.mp hv⟩) (by decide) hM (fun r σ2 hk => ?_)
  obtain ⟨hx, hJ2⟩ := hk
  subst hx
  refine ⟨x, rfl, ?_⟩
  exact lw_ceq (tgt := 823) dL_law_525 rfl rfl (fun _ => kk σ2 hJ2) (fun z => absurd rfl z)
theorem law_needs {L a : Nat} {xs : Nat → Int32} {σ : SS} (ha : a + 7 ≤ L) (hL : L ≤ 3584) (hJ : J σ) (kk : ∀ σ2, J σ2 → LW L xs 823 (nI a) [] σ2) : LW L xs 530 (nI a) [] σ := by
  refine lw_ald1 dL_law_530 rfl ?_
  refine lw_ald0 dL_law_531 rfl ?_
  refine lw_ild3 dL_law_532 rfl ?_
  refine lw_ico (nI 1) (by decide) dL_law_533 rfl ?_
  refine lw_iadd dL_law_534 rfl ?_
  refine lw_iald (sidx (by decide) ha hL) dL_law_535 rfl ?_
  refine lw_ald0 dL_law_536 rfl ?_
  refine lw_ild3 dL_law_537 rfl ?_
  refine lw_ico (nI 2) (by decide) dL_law_538 rfl ?_
  refine lw_iadd dL_law_539 rfl ?_
  refine lw_iald (sidx (by decide) ha hL) dL_law_540 rfl ?_
  refine lw_call (M' := mX3_needs) (d := 14) (k := 0) [xs (nI a + nI 1).toNatClampNeg, xs (nI a + nI 2).toNatClampNeg] _ dL_law_541 rfl (ax_gw 354 (by decide +kernel) rfl) gX3_needs rfl (by decide) rfl rfl rfl (by decide) (fun v hv => absurd hv List.not_mem_nil) (by decide) (op_needs hJ (xs (nI a + nI 1).toNatClampNeg) (xs (nI a + nI 2).toNatClampNeg)) (fun r σ1 hk => ?_)
  obtain ⟨x, hx, hM⟩ := hk
  subst hx
  refine ⟨x, rfl, ?_⟩
  refine lw_ald2 dL_law_544 rfl ?_
  refine lw_ald0 dL_law_545 rfl ?_
  refine lw_ild3 dL_law_546 rfl ?_
  refine lw_ico (nI 1) (by decide) dL_law_547 rfl ?_
  refine lw_iadd dL_law_548 rfl ?_
  refine lw_iald (sidx (by decide) ha hL) dL_law_549 rfl ?_
  refine lw_ald0 dL_law_550 rfl ?_
  refine lw_ild3 dL_law_551 rfl ?_
  refine lw_ico (nI 2) (by decide) dL_law_552 rfl ?_
  refine lw_iadd dL_law_553 rfl ?_
  refine lw_iald (sidx (by decide) ha hL) dL_law_554 rfl ?_
  refine lw_call (M' := mX4_needs) (d := 6) (k := 28) [xs (nI a + nI 1).toNatClampNeg, xs (nI a + nI 2).toNatClampNeg] _ dL_law_555 rfl (ax_gw 673 (by decide +kernel) rfl) gX4_needs rfl (by decide) rfl rfl rfl (Nat.le_of_ble_eq_true rfl) (fun v hv => ⟨x, List.mem_singleton.mp hv⟩) (by decide) hM (fun r σ2 hk => ?_)
  obtain ⟨hx, hJ2⟩ := hk
  subst hx
  refine ⟨x, rfl, ?_⟩
  exact lw_ceq (tgt := 823) dL_law_558 rfl rfl (fun _ => kk σ2 hJ2) (fun z => absurd rfl z)
theorem law_why {L a : Nat} {xs : Nat → Int32} {σ : SS} (ha : a + 7 ≤ L) (hL : L ≤ 3584) (hJ : J σ) (kk : ∀ σ2, J σ2 → LW L xs 823 (nI a) [] σ2) : LW L xs 563 (nI a) [] σ := by
  refine lw_ald1 dL_law_563 rfl ?_
  refine lw_ald0 dL_law_564 rfl ?_
  refine lw_ild3 dL_law_565 rfl ?_
  refine lw_ico (nI 1) (by decide) dL_law_566 rfl ?_
  refine lw_iadd dL_law_567 rfl ?_
  refine lw_iald (sidx (by decide) ha hL) dL_law_568 rfl ?_
  refine lw_ald0 dL_law_569 rfl ?_
  refine lw_ild3 dL_law_570 rfl ?_
  refine lw_ico (nI 2) (by decide) dL_law_571 rfl ?_
  refine lw_iadd dL_law_572 rfl ?_
  refine lw_iald (sidx (by decide) ha hL) dL_law_573 rfl ?_
  refine lw_call (M' := mX3_why) (d := 14) (k := 0) [xs (nI a + nI 1).toNatClampNeg, xs (nI a + nI 2).toNatClampNeg] _ dL_law_574 rfl (ax_gw 362 (by decide +kernel) rfl) gX3_why rfl (by decide) rfl rfl rfl (by decide) (fun v hv => absurd hv List.not_mem_nil) (by decide) (op_why hJ (xs (nI a + nI 1).toNatClampNeg) (xs (nI a + nI 2).toNatClampNeg)) (fun r σ1 hk => ?_)
  obtain ⟨x, hx, hM⟩ := hk
  subst hx
  refine ⟨x, rfl, ?_⟩
  refine lw_ald2 dL_law_577 rfl ?_
  refine lw_ald0 dL_law_578 rfl ?_
  refine lw_ild3 dL_law_579 rfl ?_
  refine lw_ico (nI 1) (by decide) dL_law_580 rfl ?_
  refine lw_iadd dL_law_581 rfl ?_
  refine lw_iald (sidx (by decide) ha hL) dL_law_582 rfl ?_
  refine lw_ald0 dL_law_583 rfl ?_
  refine lw_ild3 dL_law_584 rfl ?_
  refine lw_ico (nI 2) (by decide) dL_law_585 rfl ?_
  refine lw_iadd dL_law_586 rfl ?_
  refine lw_iald (sidx (by decide) ha hL) dL_law_587 rfl ?_
  refine lw_call (M' := mX4_why) (d := 6) (k := 28) [xs (nI a + nI 1).toNatClampNeg, xs (nI a + nI 2).toNatClampNeg] _ dL_law_588 rfl (ax_gw 681 (by decide +kernel) rfl) gX4_why rfl (by decide) rfl rfl rfl (Nat.le_of_ble_eq_true rfl) (fun v hv => ⟨x, List.mem_singleton.mp hv⟩) (by decide) hM (fun r σ2 hk => ?_)
  obtain ⟨hx, hJ2⟩ := hk
  subst hx
  refine ⟨x, rfl, ?_⟩
  exact lw_ceq (tgt := 823) dL_law_591 rfl rfl (fun _ => kk σ2 hJ2) (fun z => absurd rfl z)
theorem law_plan {L a : Nat} {xs : Nat → Int32} {σ : SS} (ha : a + 7 ≤ L) (hL : L ≤ 3584) (hJ : J σ) (kk : ∀ σ2, J σ2 → LW L xs 823 (nI a) [] σ2) : LW L xs 596 (nI a) [] σ := by
  refine lw_ald1 dL_law_596 rfl ?_
  refine lw_ald0 dL_law_597 rfl ?_
  refine lw_ild3 dL_law_598 rfl ?_
  refine lw_ico (nI 1) (by decide) dL_law_599 rfl ?_
  refine lw_iadd dL_law_600 rfl ?_
  refine lw_iald (sidx (by decide) ha hL) dL_law_601 rfl ?_
  refine lw_ald0 dL_law_602 rfl ?_
  refine lw_ild3 dL_law_603 rfl ?_
  refine lw_ico (nI 2) (by decide) dL_law_604 rfl ?_
  refine lw_iadd dL_law_605 rfl ?_
  refine lw_iald (sidx (by decide) ha hL) dL_law_606 rfl ?_
  refine lw_call (M' := mX3_plan) (d := 14) (k := 0) [xs (nI a + nI 1).toNatClampNeg, xs (nI a + nI 2).toNatClampNeg] _ dL_law_607 rfl (ax_gw 366 (by decide +kernel) rfl) gX3_plan rfl (by decide) rfl rfl rfl (by decide) (fun v hv => absurd hv List.not_mem_nil) (by decide) (op_plan hJ (xs (nI a + nI 1).toNatClampNeg) (xs (nI a + nI 2).toNatClampNeg)) (fun r σ1 hk => ?_)
  obtain ⟨x, hx, hM⟩ := hk
  subst hx
  refine ⟨x, rfl, ?_⟩
  refine lw_ald2 dL_law_610 rfl ?_
  refine lw_ald0 dL_law_611 rfl ?_
  refine lw_ild3 dL_law_612 rfl ?_
  refine lw_ico (nI 1) (by decide) dL_law_613 rfl ?_
  refine lw_iadd dL_law_614 rfl ?_
  refine lw_iald (sidx (by decide) ha hL) dL_law_615 rfl ?_
  refine lw_ald0 dL_law_616 rfl ?_
  refine lw_ild3 dL_law_617 rfl ?_
  refine lw_ico (nI 2) (by decide) dL_law_618 rfl ?_
  refine lw_iadd dL_law_619 rfl ?_
  refine lw_iald (sidx (by decide) ha hL) dL_law_620 rfl ?_
  refine lw_call (M' := mX4_plan) (d := 6) (k := 28) [xs (nI a + nI 1).toNatClampNeg, xs (nI a + nI 2).toNatClampNeg] _ dL_law_621 rfl (ax_gw 685 (by decide +kernel) rfl) gX4_plan rfl (by decide) rfl rfl rfl (Nat.le_of_ble_eq_true rfl) (fun v hv => ⟨x, List.mem_singleton.mp hv⟩) (by decide) hM (fun r σ2 hk => ?_)
  obtain ⟨hx, hJ2⟩ := hk
  subst hx
  refine ⟨x, rfl, ?_⟩
  exact lw_ceq (tgt := 823) dL_law_624 rfl rfl (fun _ => kk σ2 hJ2) (fun z => absurd rfl z)
theorem law_broken {L a : Nat} {xs : Nat → Int32} {σ : SS} (ha : a + 7 ≤ L) (hL : L ≤ 3584) (hJ : J σ) (kk : ∀ σ2, J σ2 → LW L xs 823 (nI a) [] σ2) : LW L xs 629 (nI a) [] σ := by
  refine lw_ald1 dL_law_629 rfl ?_
  refine lw_ald0 dL_law_630 rfl ?_
  refine lw_ild3 dL_law_631 rfl ?_
  refine lw_ico (nI 1) (by decide) dL_law_632 rfl ?_
  refine lw_iadd dL_law_633 rfl ?_
  refine lw_iald (sidx (by decide) ha hL) dL_law_634 rfl ?_
  refine lw_call (M' := mX3_broken) (d := 14) (k := 0) [xs (nI a + nI 1).toNatClampNeg] _ dL_law_635 rfl (ax_gw 370 (by decide +kernel) rfl) gX3_broken rfl (by decide) rfl rfl rfl (by decide) (fun v hv => absurd hv List.not_mem_nil) (by decide) (op_broken hJ (xs (nI a + nI 1).toNatClampNeg)) (fun r σ1 hk => ?_)
  obtain ⟨x, hx, hM⟩ := hk
  subst hx
  refine ⟨x, rfl, ?_⟩
  refine lw_ald2 dL_law_638 rfl ?_
  refine lw_ald0 dL_law_639 rfl ?_
  refine lw_ild3 dL_law_640 rfl ?_
  refine lw_ico (nI 1) (by decide) dL_law_641 rfl ?_
  refine lw_iadd dL_law_642 rfl ?_
  refine lw_iald (sidx (by decide) ha hL) dL_law_643 rfl ?_
  refine lw_call (M' := mX4_broken) (d := 6) (k := 28) [xs (nI a + nI 1).toNatClampNeg] _ dL_law_644 rfl (ax_gw 689 (by decide +kernel) rfl) gX4_broken rfl (by decide) rfl rfl rfl (Nat.le_of_ble_eq_true rfl) (fun v hv => ⟨x, List.mem_singleton.mp hv⟩) (by decide) hM (fun r σ2 hk => ?_)
  obtain ⟨hx, hJ2⟩ := hk
  subst hx
  refine ⟨x, rfl, ?_⟩
  exact lw_ceq (tgt := 823) dL_law_647 rfl rfl (fun _ => kk σ2 hJ2) (fun z => absurd rfl z)
theorem law_ofPlan {L a : Nat} {xs : Nat → Int32} {σ : SS} (ha : a + 7 ≤ L) (hL : L ≤ 3584) (hJ : J σ) (kk : ∀ σ2, J σ2 → LW L xs 823 (nI a) [] σ2) : LW L xs 652 (nI a) [] σ := by
  refine lw_ald1 dL_law_652 rfl ?_
  refine lw_ald0 dL_law_653 rfl ?_
  refine lw_ild3 dL_law_654 rfl ?_
  refine lw_ico (nI 1) (by decide) dL_law_655 rfl ?_
  refine lw_iadd dL_law_656 rfl ?_
  refine lw_iald (sidx (by decide) ha hL) dL_law_657 rfl ?_
  refine lw_call (M' := mX3_ofPlan) (d := 14) (k := 0) [xs (nI a + nI 1).toNatClampNeg] _ dL_law_658 rfl (ax_gw 412 (by decide +kernel) rfl) gX3_ofPlan rfl (by decide) rfl rfl rfl (by decide) (fun v hv => absurd hv List.not_mem_nil) (by decide) (op_ofPlan hJ (xs (nI a + nI 1).toNatClampNeg)) (fun r σ1 hk => ?_)
  obtain ⟨x, hx, hM⟩ := hk
  subst hx
  refine ⟨x, rfl, ?_⟩
  refine lw_ald2 dL_law_661 rfl ?_
  refine lw_ald0 dL_law_662 rfl ?_
  refine lw_ild3 dL_law_663 rfl ?_
  refine lw_ico (nI 1) (by decide) dL_law_664 rfl ?_
  refine lw_iadd dL_law_665 rfl ?_
  refine lw_iald (sidx (by decide) ha hL) dL_law_666 rfl ?_
  refine lw_call (M' := mX4_ofPlan) (d := 6) (k := 28) [xs (nI a + nI 1).toNatClampNeg] _ dL_law_667 rfl (ax_gw 733 (by decide +kernel) rfl) gX4_ofPlan rfl (by decide) rfl rfl rfl (Nat.le_of_ble_eq_true rfl) (fun v hv => ⟨x, List.mem_singleton.mp hv⟩) (by decide) hM (fun r σ2 hk => ?_)
  obtain ⟨hx, hJ2⟩ := hk
  subst hx
  refine ⟨x, rfl, ?_⟩
  exact lw_ceq (tgt := 823) dL_law_670 rfl rfl (fun _ => kk σ2 hJ2) (fun z => absurd rfl z)
theorem law_best {L a : Nat} {xs : Nat → Int32} {σ : SS} (ha : a + 7 ≤ L) (hL : L ≤ 3584) (hJ : J σ) (kk : ∀ σ2, J σ2 → LW L xs 823 (nI a) [] σ2) : LW L xs 675 (nI a) [] σ := by
  refine lw_ald1 dL_law_675 rfl ?_
  refine lw_ald0 dL_law_676 rfl ?_
  refine lw_ild3 dL_law_677 rfl ?_
  refine lw_ico (nI 1) (by decide) dL_law_678 rfl ?_
  refine lw_iadd dL_law_679 rfl ?_
  refine lw_iald (sidx (by decide) ha hL) dL_law_680 rfl ?_
  refine lw_ald0 dL_law_681 rfl ?_
  refine lw_ild3 dL_law_682 rfl ?_
  refine lw_ico (nI 2) (by decide) dL_law_683 rfl ?_
  refine lw_iadd dL_law_684 rfl ?_
  refine lw_iald (sidx (by decide) ha hL) dL_law_685 rfl ?_
  refine lw_call (M' := mX3_best) (d := 14) (k := 0) [xs (nI a + nI 1).toNatClampNeg, xs (nI a + nI 2).toNatClampNeg] _ dL_law_686 rfl (ax_gw 425 (by decide +kernel) rfl) gX3_best rfl (by decide) rfl rfl rfl (by decide) (fun v hv => absurd hv List.not_mem_nil) (by decide) (op_best hJ (xs (nI a + nI 1).toNatClampNeg) (xs (nI a + nI 2).toNatClampNeg)) (fun r σ1 hk => ?_)
  obtain ⟨x, hx, hM⟩ := hk
  subst hx
  refine ⟨x, rfl, ?_⟩
  refine lw_ald2 dL_law_689 rfl ?_
  refine lw_ald0 dL_law_690 rfl ?_
  refine lw_ild3 dL_law_691 rfl ?_
  refine lw_ico (nI 1) (by decide) dL_law_692 rfl ?_
  refine lw_iadd dL_law_693 rfl ?_
  refine lw_iald (sidx (by decide) ha hL) dL_law_694 rfl ?_
  refine lw_ald0 dL_law_695 rfl ?_
  refine lw_ild3 dL_law_696 rfl ?_
  refine lw_ico (nI 2) (by decide) dL_law_697 rfl ?_
  refine lw_iadd dL_law_698 rfl ?_
  refine lw_iald (sidx (by decide) ha hL) dL_law_699 rfl ?_
  refine lw_call (M' := mX4_best) (d := 6) (k := 28) [xs (nI a + nI 1).toNatClampNeg, xs (nI a + nI 2).toNatClampNeg] _ dL_law_700 rfl (ax_gw 746 (by decide +kernel) rfl) gX4_best rfl (by decide) rfl rfl rfl (Nat.le_of_ble_eq_true rfl) (fun v hv => ⟨x, List.mem_singleton.mp hv⟩) (by decide) hM (fun r σ2 hk => ?_)
  obtain ⟨hx, hJ2⟩ := hk
  subst hx
  refine ⟨x, rfl, ?_⟩
  exact lw_ceq (tgt := 823) dL_law_703 rfl rfl (fun _ => kk σ2 hJ2) (fun z => absurd rfl z)
theorem law_taken {L a : Nat} {xs : Nat → Int32} {σ : SS} (ha : a + 7 ≤ L) (hL : L ≤ 3584) (hJ : J σ) (kk : ∀ σ2, J σ2 → LW L xs 823 (nI a) [] σ2) : LW L xs 708 (nI a) [] σ := by
  refine lw_ald1 dL_law_708 rfl ?_
  refine lw_call (M' := mX3_taken) (d := 14) (k := 0) [] _ dL_law_709 rfl (ax_gw 454 (by decide +kernel) rfl) gX3_taken rfl (by decide) rfl rfl rfl (by decide) (fun v hv => absurd hv List.not_mem_nil) (by decide) (op_taken hJ ) (fun r σ1 hk => ?_)
  obtain ⟨x, hx, hM⟩ := hk
  subst hx
  refine ⟨x, rfl, ?_⟩
  refine lw_ald2 dL_law_712 rfl ?_
  refine lw_call (M' := mX4_taken) (d := 6) (k := 28) [] _ dL_law_713 rfl (ax_gw 766 (by decide +kernel) rfl) gX4_taken rfl (by decide) rfl rfl rfl (Nat.le_of_ble_eq_true rfl) (fun v hv => ⟨x, List.mem_singleton.mp hv⟩) (by decide) hM (fun r σ2 hk => ?_)
  obtain ⟨hx, hJ2⟩ := hk
  subst hx
  refine ⟨x, rfl, ?_⟩
  exact lw_ceq (tgt := 823) dL_law_716 rfl rfl (fun _ => kk σ2 hJ2) (fun z => absurd rfl z)
theorem law_load {L a : Nat} {xs : Nat → Int32} {σ : SS} (ha : a + 7 ≤ L) (hL : L ≤ 3584) (hJ : J σ) (kk : ∀ σ2, J σ2 → LW L xs 823 (nI a) [] σ2) : LW L xs 721 (nI a) [] σ := by
  refine lw_ald1 dL_law_721 rfl ?_
  refine lw_call (M' := mX3_load) (d := 14) (k := 0) [] _ dL_law_722 rfl (ax_gw 472 (by decide +kernel) rfl) gX3_load rfl (by decide) rfl rfl rfl (by decide) (fun v hv => absurd hv List.not_mem_nil) (by decide) (op_load hJ ) (fun r σ1 hk => ?_)
  obtain ⟨x, hx, hM⟩ := hk
  subst hx
  refine ⟨x, rfl, ?_⟩
  refine lw_ald2 dL_law_725 rfl ?_
  refine lw_call (M' := mX4_load) (d := 6) (k := 28) [] _ dL_law_726 rfl (ax_gw 781 (by decide +kernel) rfl) gX4_load rfl (by decide) rfl rfl rfl (Nat.le_of_ble_eq_true rfl) (fun v hv => ⟨x, List.mem_singleton.mp hv⟩) (by decide) hM (fun r σ2 hk => ?_)
  obtain ⟨hx, hJ2⟩ := hk
  subst hx
  refine ⟨x, rfl, ?_⟩
  exact lw_ceq (tgt := 823) dL_law_729 rfl rfl (fun _ => kk σ2 hJ2) (fun z => absurd rfl z)
theorem law_unload {L a : Nat} {xs : Nat → Int32} {σ : SS} (ha : a + 7 ≤ L) (hL : L ≤ 3584) (hJ : J σ) (kk : ∀ σ2, J σ2 → LW L xs 823 (nI a) [] σ2) : LW L xs 734 (nI a) [] σ := by
  refine lw_ald1 dL_law_734 rfl ?_
  refine lw_ald0 dL_law_735 rfl ?_
  refine lw_ild3 dL_law_736 rfl ?_
  refine lw_ico (nI 1) (by decide) dL_law_737 rfl ?_
  refine lw_iadd dL_law_738 rfl ?_
  refine lw_iald (sidx (by decide) ha hL) dL_law_739 rfl ?_
  refine lw_call (M' := mX3_unload) (d := 14) (k := 0) [xs (nI a + nI 1).toNatClampNeg] _ dL_law_740 rfl (ax_gw 480 (by decide +kernel) rfl) gX3_unload rfl (by decide) rfl rfl rfl (by decide) (fun v hv => absurd hv List.not_mem_nil) (by decide) (op_unload hJ (xs (nI a + nI 1).toNatClampNeg)) (fun r σ1 hk => ?_)
  obtain ⟨x, hx, hM⟩ := hk
  subst hx
  refine ⟨x, rfl, ?_⟩
  refine lw_ald2 dL_law_743 rfl ?_
  refine lw_ald0 dL_law_744 rfl ?_
  refine lw_ild3 dL_law_745 rfl ?_
  refine lw_ico (nI 1) (by decide) dL_law_746 rfl ?_
  refine lw_iadd dL_law_747 rfl ?_
  refine lw_iald (sidx (by decide) ha hL) dL_law_748 rfl ?_
  refine lw_call (M' := mX4_unload) (d := 6) (k := 28) [xs (nI a + nI 1).toNatClampNeg] _ dL_law_749 rfl (ax_gw 786 (by decide +kernel) rfl) gX4_unload rfl (by decide) rfl rfl rfl (Nat.le_of_ble_eq_true rfl) (fun v hv => ⟨x, List.mem_singleton.mp hv⟩) (by decide) hM (fun r σ2 hk => ?_)
  obtain ⟨hx, hJ2⟩ := hk
  subst hx
  refine ⟨x, rfl, ?_⟩
  exact lw_ceq (tgt := 823) dL_law_752 rfl rfl (fun _ => kk σ2 hJ2) (fun z => absurd rfl z)
theorem law_pour {L a : Nat} {xs : Nat → Int32} {σ : SS} (ha : a + 7 ≤ L) (hL : L ≤ 3584) (hJ : J σ) (kk : ∀ σ2, J σ2 → LW L xs 823 (nI a) [] σ2) : LW L xs 757 (nI a) [] σ := by
  refine lw_ald1 dL_law_757 rfl ?_
  refine lw_ald0 dL_law_758 rfl ?_
  refine lw_ild3 dL_law_759 rfl ?_
  refine lw_ico (nI 1) (by decide) dL_law_760 rfl ?_
  refine lw_iadd dL_law_761 rfl ?_
  refine lw_iald (sidx (by decide) ha hL) dL_law_762 rfl ?_
  refine lw_ald0 dL_law_763 rfl ?_
  refine lw_ild3 dL_law_764 rfl ?_
  refine lw_ico (nI 2) (by decide) dL_law_765 rfl ?_
  refine lw_iadd dL_law_766 rfl ?_
  refine lw_iald (sidx (by decide) ha hL) dL_law_767 rfl ?_
  refine lw_ald0 dL_law_768 rfl ?_
  refine lw_ild3 dL_law_769 rfl ?_
  refine lw_ico (nI 3) (by decide) dL_law_770 rfl ?_
  refine lw_iadd dL_law_771 rfl ?_
  refine lw_iald (sidx (by decide) ha hL) dL_law_772 rfl ?_
  refine lw_call (M' := mX3_pour) (d := 14) (k := 0) [xs (nI a + nI 1).toNatClampNeg, xs (nI a + nI 2).toNatClampNeg, xs (nI a + nI 3).toNatClampNeg] _ dL_law_773 rfl (ax_gw 488 (by decide +kernel) rfl) gX3_pour rfl (by decide) rfl rfl rfl (by decide) (fun v hv => absurd hv List.not_mem_nil) (by decide) (op_pour hJ (xs (nI a + nI 1).toNatClampNeg) (xs (nI a + nI 2).toNatClampNeg) (xs (nI a + nI 3).toNatClampNeg)) (fun r σ1 hk => ?_)
  obtain ⟨x, hx, hM⟩ := hk
  subst hx
  refine ⟨x, rfl, ?_⟩
  refine lw_ald2 dL_law_776 rfl ?_
  refine lw_ald0 dL_law_777 rfl ?_
  refine lw_ild3 dL_law_778 rfl ?_
  refine lw_ico (nI 1) (by decide) dL_law_779 rfl ?_
  refine lw_iadd dL_law_780 rfl ?_
  refine lw_iald (sidx (by decide) ha hL) dL_law_781 rfl ?_
  refine lw_ald0 dL_law_782 rfl ?_
  refine lw_ild3 dL_law_783 rfl ?_
  refine lw_ico (nI 2) (by decide) dL_law_784 rfl ?_
  refine lw_iadd dL_law_785 rfl ?_
  refine lw_iald (sidx (by decide) ha hL) dL_law_786 rfl ?_
  refine lw_ald0 dL_law_787 rfl ?_
  refine lw_ild3 dL_law_788 rfl ?_
  refine lw_ico (nI 3) (by decide) dL_law_789 rfl ?_
  refine lw_iadd dL_law_790 rfl ?_
  refine lw_iald (sidx (by decide) ha hL) dL_law_791 rfl ?_
  refine lw_call (M' := mX4_pour) (d := 6) (k := 28) [xs (nI a + nI 1).toNatClampNeg, xs (nI a + nI 2).toNatClampNeg, xs (nI a + nI 3).toNatClampNeg] _ dL_law_792 rfl (ax_gw 794 (by decide +kernel) rfl) gX4_pour rfl (by decide) rfl rfl rfl (Nat.le_of_ble_eq_true rfl) (fun v hv => ⟨x, List.mem_singleton.mp hv⟩) (by decide) hM (fun r σ2 hk => ?_)
  obtain ⟨hx, hJ2⟩ := hk
  subst hx
  refine ⟨x, rfl, ?_⟩
  exact lw_ceq (tgt := 823) dL_law_795 rfl rfl (fun _ => kk σ2 hJ2) (fun z => absurd rfl z)
theorem law_many {L a : Nat} {xs : Nat → Int32} {σ : SS} (ha : a + 7 ≤ L) (hL : L ≤ 3584) (hJ : J σ) (kk : ∀ σ2, J σ2 → LW L xs 823 (nI a) [] σ2) : LW L xs 800 (nI a) [] σ := by
  refine lw_ald1 dL_law_800 rfl ?_
  refine lw_ald0 dL_law_801 rfl ?_
  refine lw_ild3 dL_law_802 rfl ?_
  refine lw_ico (nI 1) (by decide) dL_law_803 rfl ?_
  refine lw_iadd dL_law_804 rfl ?_
  refine lw_iald (sidx (by decide) ha hL) dL_law_805 rfl ?_
  refine lw_call (M' := mX3_many) (d := 14) (k := 0) [xs (nI a + nI 1).toNatClampNeg] _ dL_law_806 rfl (ax_gw 496 (by decide +kernel) rfl) gX3_many rfl (by decide) rfl rfl rfl (by decide) (fun v hv => absurd hv List.not_mem_nil) (by decide) (op_many hJ (xs (nI a + nI 1).toNatClampNeg)) (fun r σ1 hk => ?_)
  obtain ⟨x, hx, hM⟩ := hk
  subst hx
  refine ⟨x, rfl, ?_⟩
  refine lw_ald2 dL_law_809 rfl ?_
  refine lw_ald0 dL_law_810 rfl ?_
  refine lw_ild3 dL_law_811 rfl ?_
  refine lw_ico (nI 1) (by decide) dL_law_812 rfl ?_
  refine lw_iadd dL_law_813 rfl ?_
  refine lw_iald (sidx (by decide) ha hL) dL_law_814 rfl ?_
  refine lw_call (M' := mX4_many) (d := 6) (k := 28) [xs (nI a + nI 1).toNatClampNeg] _ dL_law_815 rfl (ax_gw 802 (by decide +kernel) rfl) gX4_many rfl (by decide) rfl rfl rfl (Nat.le_of_ble_eq_true rfl) (fun v hv => ⟨x, List.mem_singleton.mp hv⟩) (by decide) hM (fun r σ2 hk => ?_)
  obtain ⟨hx, hJ2⟩ := hk
  subst hx
  refine ⟨x, rfl, ?_⟩
  exact lw_ceq (tgt := 823) dL_law_818 rfl rfl (fun _ => kk σ2 hJ2) (fun z => absurd rfl z)
theorem law_gt {L a : Nat} (hL : L ≤ 3584) (ha : a ≤ L) : Int32.ofNat L - nI 7 < nI a ↔ L < a + 7 := by
  have e1 : (Int32.ofNat L).toInt = (L : Int) := nI_toInt (n := L) (by omega)
  have e2 : (nI 7).toInt = 7 := by decide
  have e3 : (nI a).toInt = (a : Int) := nI_toInt (by omega)
  rw [Int32.lt_iff_toInt_lt, i32sub (by omega) (by omega) (by omega) (by omega), e1, e2, e3]
  omega
theorem law_loop {L : Nat} {xs : Nat → Int32} (hL : L ≤ 3584) : ∀ (k a : Nat) (σ : SS), L - a ≤ k → a ≤ L → J σ → LW L xs 18 (nI a) [] σ := by
  intro k
  induction k with
  | zero =>
    intro a σ h1 h2 hJ
    refine lw_ild3 dL_law_18 rfl ?_
    refine lw_ald0 dL_law_19 rfl ?_
    refine lw_len dL_law_20 rfl ?_
    refine lw_bip (nI 7) (by decide) dL_law_21 rfl ?_
    refine lw_isub dL_law_23 rfl ?_
    refine lw_cgt (tgt := 829) dL_law_24 rfl rfl (fun _ => lw_end dL_law_829 dL_law_830) (fun z => absurd ((law_gt hL h2).mpr (by omega)) z)
  | succ k ih =>
    intro a σ h1 h2 hJ
    refine lw_ild3 dL_law_18 rfl ?_
    refine lw_ald0 dL_law_19 rfl ?_
    refine lw_len dL_law_20 rfl ?_
    refine lw_bip (nI 7) (by decide) dL_law_21 rfl ?_
    refine lw_isub dL_law_23 rfl ?_
    refine lw_cgt (tgt := 829) dL_law_24 rfl rfl (fun _ => lw_end dL_law_829 dL_law_830) (fun z => ?_)
    have ha : a + 7 ≤ L := by
      have := mt (law_gt hL h2).mpr z
      omega
    have kk : ∀ σ2, J σ2 → LW L xs 823 (nI a) [] σ2 := fun σ2 hJ2 => lw_iinc (v := nI (a + 7)) dL_law_823 rfl (by rw [show Int32.ofInt 7 = nI 7 by decide, nI_add]) (lw_goto (q := 18) dL_law_826 rfl (ih (a + 7) σ2 (by omega) (by omega) hJ2))
    refine lw_ald0 dL_law_27 rfl ?_
    refine lw_ild3 dL_law_28 rfl ?_
    refine lw_iald (vp_in_nI (by omega) (by omega)) dL_law_29 rfl ?_
    refine lw_bip (nI 31) (by decide) dL_law_30 rfl ?_
    refine lw_iand dL_law_32 rfl ?_
    refine lw_tsw 21 dL_law_33 rfl (by decide) (by decide) (fun j hj => ?_) (kk σ hJ)
    match j, hj with
    | 0, _ => exact law_tank ha hL hJ kk
    | 1, _ => exact law_neighbours ha hL hJ kk
    | 2, _ => exact law_latest ha hL hJ kk
    | 3, _ => exact law_cargo ha hL hJ kk
    | 4, _ => exact law_uncargo ha hL hJ kk
    | 5, _ => exact law_amount ha hL hJ kk
    | 6, _ => exact law_washes ha hL hJ kk
    | 7, _ => exact law_bound ha hL hJ kk
    | 8, _ => exact law_ofTank ha hL hJ kk
    | 9, _ => exact law_ofCargo ha hL hJ kk
    | 10, _ => exact law_needs ha hL hJ kk
    | 11, _ => exact law_why ha hL hJ kk
    | 12, _ => exact law_plan ha hL hJ kk
    | 13, _ => exact law_broken ha hL hJ kk
    | 14, _ => exact law_ofPlan ha hL hJ kk
    | 15, _ => exact law_best ha hL hJ kk
    | 16, _ => exact law_taken ha hL hJ kk
    | 17, _ => exact law_load ha hL hJ kk
    | 18, _ => exact law_unload ha hL hJ kk
    | 19, _ => exact law_pour ha hL hJ kk
    | 20, _ => exact law_many ha hL hJ kk
    | n + 21, h => exact absurd h (by omega)
