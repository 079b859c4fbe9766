/-! THE LAW: one call, on both -/
def zL_law : mm_M := (yL_law, cL_law, 4, some .boolean)
theorem outJ_k {K J : mm_I} (h : ∀ a i, a ≠ 211 → a ≠ 212 → (a = 200 → i ≠ 21 ∧ i ≠ 22 ∧ i ≠ 23 ∧ i ≠ 26 ∧ i ≠ 27 ∧ i ≠ 28 ∧ i ≠ 29) → J a i = K a i) : outJ J K ∧ (∀ a, a < 200 → J a = K a) ∧ J 201 = K 201 :=
  ⟨⟨h 200 2 (by decide) (by decide) (by decide), h 200 4 (by decide) (by decide) (by decide), h 200 5 (by decide) (by decide) (by decide), fun a h1 h2 => funext fun i => h a i (by omega) (by omega) (fun q => by omega)⟩, fun a ha => funext fun i => h a i (by omega) (by omega) (fun q => by omega), funext fun i => h 201 i (by decide) (by decide) (fun q => absurd q (by decide))⟩
theorem RC_k {K J : mm_I} (H : RC K) (h : ∀ a i, a ≠ 211 → a ≠ 212 → (a = 200 → i ≠ 21 ∧ i ≠ 22 ∧ i ≠ 23 ∧ i ≠ 26 ∧ i ≠ 27 ∧ i ≠ 28 ∧ i ≠ 29) → J a i = K a i) : RC J := by
  obtain ⟨hJ, h1, h2⟩ := outJ_k h
  obtain ⟨w, h', n, l, k, o, r, T, s⟩ := H.1
  refine RC_now H (fun a ha => h1 a (by omega)) hJ (w := w) (h := h') (n := n) (l := l) (k := k) (o := o) (r := r) (T := T) ?_
  rw [h2]
  exact siR_c s (fun a _ h3 => h1 a (by omega))
set_option maxRecDepth 100000 in
theorem lw_ground {g : mm_G} {d : Nat} {Al Mt : Nat × Nat} {I : mm_I} {i : Nat} {Q : Option Value → mm_Sh → mm_I → Prop} (H : RC I) (hAM : Al.1 ≤ Mt.1 ∧ Al.2 ≤ Mt.2) (hi : i + 6 ≤ g.2.2.2.2.1) (hL : g.2.2.2.2.1 ≤ 3072) (hd : 161 ≤ d) (hk : ∀ I2, RC I2 → mm_Ex g zL_law d Al Mt sh_S I2 1394 [(3, .int (nI i)), (0, .ref (mm_KB + 0)), (1, .ref 0), (2, .ref 200)] [] Q) : mm_Ex g zL_law d Al Mt sh_S I 200 [(3, .int (nI i)), (0, .ref (mm_KB + 0)), (1, .ref 0), (2, .ref 200)] [] Q := by
  obtain ⟨w, h, n, l, k, o, r, T, hS⟩ := H.1
  have hV := hS.1
  refine mm_aload_n 2 dL_law_200 rfl rfl ?_
  refine mm_aload_n 1 dL_law_201 rfl rfl ?_
  refine mm_iload_n 0 dL_law_202 rfl rfl ?_
  refine mm_iconst (v := 1) dL_law_203 rfl ?_
  refine mm_iaddN (i) (1) dL_law_204 ?_
  refine mm_at (pc' := 205) rfl ?_
  refine mm_ialdKN (i + 1) dL_law_205 rfl (by omega) (by omega) ?_
  refine mm_aload_n 1 dL_law_206 rfl rfl ?_
  refine mm_iload_n 0 dL_law_207 rfl rfl ?_
  refine mm_iconst (v := 2) dL_law_208 rfl ?_
  refine mm_iaddN (i) (2) dL_law_209 ?_
  refine mm_at (pc' := 210) rfl ?_
  refine mm_ialdKN (i + 2) dL_law_210 rfl (by omega) (by omega) ?_
  refine mm_dV2i (dz := d - 1) dL_law_211 rfl mzX11_ground ml_L_13 imX11_ground (by omega) so_0 ⟨rfl, rfl⟩ (cl_ground H hS (by omega)) (Nat.le_of_ble_eq_true rfl) hAM (fun w_ K hK => ?_)
  obtain ⟨hhi, he, hR⟩ := hK
  have e201 : K 201 = I 201 := hhi 201 (by decide)
  have e200 : K 200 = I 200 := hhi 200 (by decide)
  refine mm_at (pc' := 214) rfl ?_
  refine mm_aload_n 3 dL_law_214 rfl rfl ?_
  refine mm_aload_n 1 dL_law_215 rfl rfl ?_
  refine mm_iload_n 0 dL_law_216 rfl rfl ?_
  refine mm_iconst (v := 1) dL_law_217 rfl ?_
  refine mm_iaddN (i) (1) dL_law_218 ?_
  refine mm_at (pc' := 219) rfl ?_
  refine mm_ialdKN (i + 1) dL_law_219 rfl (by omega) (by omega) ?_
  refine mm_aload_n 1 dL_law_220 rfl rfl ?_
  refine mm_iload_n 0 dL_law_221 rfl rfl ?_
  refine mm_iconst (v := 2) dL_law_222 rfl ?_
  refine mm_iaddN (i) (2) dL_law_223 ?_
  refine mm_at (pc' := 224) rfl ?_
  refine mm_ialdKN (i + 2) dL_law_224 rfl (by omega) (by omega) ?_
  have ex : op_ground K (g.2.2.2.2.2 (i + 1)) (g.2.2.2.2.2 (i + 2)) = ((op_ground I (g.2.2.2.2.2 (i + 1)) (g.2.2.2.2.2 (i + 2))).1, mx K (op_ground I (g.2.2.2.2.2 (i + 1)) (g.2.2.2.2.2 (i + 2))).2) := by
    have q : op_ground (mx K I) (g.2.2.2.2.2 (i + 1)) (g.2.2.2.2.2 (i + 2)) = ((op_ground I (g.2.2.2.2.2 (i + 1)) (g.2.2.2.2.2 (i + 2))).1, mx K (op_ground I (g.2.2.2.2.2 (i + 1)) (g.2.2.2.2.2 (i + 2))).2) := x_op_ground
    rw [← mx_eq hhi] at q
    exact q
  have hc : mm_Ci g zX12_ground (d - 1) [.ref 200, .int (g.2.2.2.2.2 (i + 1)), .int (g.2.2.2.2.2 (i + 2))] sh_S K (op_ground I (g.2.2.2.2.2 (i + 1)) (g.2.2.2.2.2 (i + 2))).1 (mx K (op_ground I (g.2.2.2.2.2 (i + 1)) (g.2.2.2.2.2 (i + 2))).2) := by
    have q : mm_Ci g zX12_ground (d - 1) [.ref 200, .int (g.2.2.2.2.2 (i + 1)), .int (g.2.2.2.2.2 (i + 2))] sh_S K (op_ground K (g.2.2.2.2.2 (i + 1)) (g.2.2.2.2.2 (i + 2))).1 (op_ground K (g.2.2.2.2.2 (i + 1)) (g.2.2.2.2.2 (i + 2))).2 := cm_ground (by omega)
    rw [ex] at q
    exact q
  refine mm_cV2i (dz := d - 1) dL_law_225 rfl mzX12_ground ml_L_17 imX12_ground (by omega) so_200 ⟨rfl, rfl⟩ hc (Nat.le_of_ble_eq_true rfl) hAM ?_
  refine mm_at (pc' := 228) rfl ?_
  exact mm_icmp_eq (tgt := 1394) dL_law_228 (by decide) (fun _ => hk _ (RC_mx hR)) (fun q => absurd he q)
set_option maxRecDepth 100000 in
theorem lw_cell {g : mm_G} {d : Nat} {Al Mt : Nat × Nat} {I : mm_I} {i : Nat} {Q : Option Value → mm_Sh → mm_I → Prop} (H : RC I) (hAM : Al.1 ≤ Mt.1 ∧ Al.2 ≤ Mt.2) (hi : i + 6 ≤ g.2.2.2.2.1) (hL : g.2.2.2.2.1 ≤ 3072) (hd : 161 ≤ d) (hk : ∀ I2, RC I2 → mm_Ex g zL_law d Al Mt sh_S I2 1394 [(3, .int (nI i)), (0, .ref (mm_KB + 0)), (1, .ref 0), (2, .ref 200)] [] Q) : mm_Ex g zL_law d Al Mt sh_S I 233 [(3, .int (nI i)), (0, .ref (mm_KB + 0)), (1, .ref 0), (2, .ref 200)] [] Q := by
  obtain ⟨w, h, n, l, k, o, r, T, hS⟩ := H.1
  have hV := hS.1
  refine mm_aload_n 2 dL_law_233 rfl rfl ?_
  refine mm_aload_n 1 dL_law_234 rfl rfl ?_
  refine mm_iload_n 0 dL_law_235 rfl rfl ?_
  refine mm_iconst (v := 1) dL_law_236 rfl ?_
  refine mm_iaddN (i) (1) dL_law_237 ?_
  refine mm_at (pc' := 238) rfl ?_
  refine mm_ialdKN (i + 1) dL_law_238 rfl (by omega) (by omega) ?_
  refine mm_aload_n 1 dL_law_239 rfl rfl ?_
  refine mm_iload_n 0 dL_law_240 rfl rfl ?_
  refine mm_iconst (v := 2) dL_law_241 rfl ?_
  refine mm_iaddN (i) (2) dL_law_242 ?_
  refine mm_at (pc' := 243) rfl ?_
  refine mm_ialdKN (i + 2) dL_law_243 rfl (by omega) (by omega) ?_
  refine mm_dV2i (dz := d - 1) dL_law_244 rfl mzX11_cell ml_L_18 imX11_cell (by omega) so_0 ⟨rfl, rfl⟩ (cl_cell H hS (by omega)) (Nat.le_of_ble_eq_true rfl) hAM (fun w_ K hK => ?_)
  obtain ⟨hhi, he, hR⟩ := hK
  have e201 : K 201 = I 201 := hhi 201 (by decide)
  have e200 : K 200 = I 200 := hhi 200 (by decide)
  refine mm_at (pc' := 247) rfl ?_
  refine mm_aload_n 3 dL_law_247 rfl rfl ?_
  refine mm_aload_n 1 dL_law_248 rfl rfl ?_
  refine mm_iload_n 0 dL_law_249 rfl rfl ?_
  refine mm_iconst (v := 1) dL_law_250 rfl ?_
  refine mm_iaddN (i) (1) dL_law_251 ?_
  refine mm_at (pc' := 252) rfl ?_
  refine mm_ialdKN (i + 1) dL_law_252 rfl (by omega) (by omega) ?_
  refine mm_aload_n 1 dL_law_253 rfl rfl ?_
  refine mm_iload_n 0 dL_law_254 rfl rfl ?_
  refine mm_iconst (v := 2) dL_law_255 rfl ?_
  refine mm_iaddN (i) (2) dL_law_256 ?_
  refine mm_at (pc' := 257) rfl ?_
  refine mm_ialdKN (i + 2) dL_law_257 rfl (by omega) (by omega) ?_
  have ex : op_cell w h n K (g.2.2.2.2.2 (i + 1)) (g.2.2.2.2.2 (i + 2)) = ((op_cell w h n I (g.2.2.2.2.2 (i + 1)) (g.2.2.2.2.2 (i + 2))).1, mx K (op_cell w h n I (g.2.2.2.2.2 (i + 1)) (g.2.2.2.2.2 (i + 2))).2) := by
    have q : op_cell w h n (mx K I) (g.2.2.2.2.2 (i + 1)) (g.2.2.2.2.2 (i + 2)) = ((op_cell w h n I (g.2.2.2.2.2 (i + 1)) (g.2.2.2.2.2 (i + 2))).1, mx K (op_cell w h n I (g.2.2.2.2.2 (i + 1)) (g.2.2.2.2.2 (i + 2))).2) := x_op_cell
    rw [← mx_eq hhi] at q
    exact q
  have hc : mm_Ci g zX12_cell (d - 1) [.ref 200, .int (g.2.2.2.2.2 (i + 1)), .int (g.2.2.2.2.2 (i + 2))] sh_S K (op_cell w h n I (g.2.2.2.2.2 (i + 1)) (g.2.2.2.2.2 (i + 2))).1 (mx K (op_cell w h n I (g.2.2.2.2.2 (i + 1)) (g.2.2.2.2.2 (i + 2))).2) := by
    have q : mm_Ci g zX12_cell (d - 1) [.ref 200, .int (g.2.2.2.2.2 (i + 1)), .int (g.2.2.2.2.2 (i + 2))] sh_S K (op_cell w h n K (g.2.2.2.2.2 (i + 1)) (g.2.2.2.2.2 (i + 2))).1 (op_cell w h n K (g.2.2.2.2.2 (i + 1)) (g.2.2.2.2.2 (i + 2))).2 := cm_cell (by rw [e201]; exact hS.1.1.1) (by rw [e201]; exact hV.2.2.2.1.2.1) hV.2.2.2.2.1.1 (by omega)
    rw [ex] at q
    exact q
  refine mm_cV2i (dz := d - 1) dL_law_258 rfl mzX12_cell ml_L_21 imX12_cell (by omega) so_200 ⟨rfl, rfl⟩ hc (Nat.le_of_ble_eq_true rfl) hAM ?_
  refine mm_at (pc' := 261) rfl ?_
  exact mm_icmp_eq (tgt := 1394) dL_law_261 (by decide) (fun _ => hk _ (RC_mx hR)) (fun q => absurd he q)
set_option maxRecDepth 100000 in
theorem lw_put {g : mm_G} {d : Nat} {Al Mt : Nat × Nat} {I : mm_I} {i : Nat} {Q : Option Value → mm_Sh → mm_I → Prop} (H : RC I) (hAM : Al.1 ≤ Mt.1 ∧ Al.2 ≤ Mt.2) (hi : i + 6 ≤ g.2.2.2.2.1) (hL : g.2.2.2.2.1 ≤ 3072) (hd : 161 ≤ d) (hk : ∀ I2, RC I2 → mm_Ex g zL_law d Al Mt sh_S I2 1394 [(3, .int (nI i)), (0, .ref (mm_KB + 0)), (1, .ref 0), (2, .ref 200)] [] Q) : mm_Ex g zL_law d Al Mt sh_S I 266 [(3, .int (nI i)), (0, .ref (mm_KB + 0)), (1, .ref 0), (2, .ref 200)] [] Q := by
  obtain ⟨w, h, n, l, k, o, r, T, hS⟩ := H.1
  have hV := hS.1
  refine mm_aload_n 2 dL_law_266 rfl rfl ?_
  refine mm_aload_n 1 dL_law_267 rfl rfl ?_
  refine mm_iload_n 0 dL_law_268 rfl rfl ?_
  refine mm_iconst (v := 1) dL_law_269 rfl ?_
  refine mm_iaddN (i) (1) dL_law_270 ?_
  refine mm_at (pc' := 271) rfl ?_
  refine mm_ialdKN (i + 1) dL_law_271 rfl (by omega) (by omega) ?_
  refine mm_aload_n 1 dL_law_272 rfl rfl ?_
  refine mm_iload_n 0 dL_law_273 rfl rfl ?_
  refine mm_iconst (v := 2) dL_law_274 rfl ?_
  refine mm_iaddN (i) (2) dL_law_275 ?_
  refine mm_at (pc' := 276) rfl ?_
  refine mm_ialdKN (i + 2) dL_law_276 rfl (by omega) (by omega) ?_
  refine mm_aload_n 1 dL_law_277 rfl rfl ?_
  refine mm_iload_n 0 dL_law_278 rfl rfl ?_
  refine mm_iconst (v := 3) dL_law_279 rfl ?_
  refine mm_iaddN (i) (3) dL_law_280 ?_
  refine mm_at (pc' := 281) rfl ?_
  refine mm_ialdKN (i + 3) dL_law_281 rfl (by omega) (by omega) ?_
  refine mm_dV3i (dz := d - 1) dL_law_282 rfl mzX11_put ml_L_22 imX11_put (by omega) so_0 ⟨rfl, rfl⟩ (cl_put H hS (by omega)) (Nat.le_of_ble_eq_true rfl) hAM (fun w_ K hK => ?_)
  obtain ⟨hhi, he, hR⟩ := hK
  have e201 : K 201 = I 201 := hhi 201 (by decide)
  have e200 : K 200 = I 200 := hhi 200 (by decide)
  refine mm_at (pc' := 285) rfl ?_
  refine mm_aload_n 3 dL_law_285 rfl rfl ?_
  refine mm_aload_n 1 dL_law_286 rfl rfl ?_
  refine mm_iload_n 0 dL_law_287 rfl rfl ?_
  refine mm_iconst (v := 1) dL_law_288 rfl ?_
  refine mm_iaddN (i) (1) dL_law_289 ?_
  refine mm_at (pc' := 290) rfl ?_
  refine mm_ialdKN (i + 1) dL_law_290 rfl (by omega) (by omega) ?_
  refine mm_aload_n 1 dL_law_291 rfl rfl ?_
  refine mm_iload_n 0 dL_law_292 rfl rfl ?_
  refine mm_iconst (v := 2) dL_law_293 rfl ?_
  refine mm_iaddN (i) (2) dL_law_294 ?_
  refine mm_at (pc' := 295) rfl ?_
  refine mm_ialdKN (i + 2) dL_law_295 rfl (by omega) (by omega) ?_
  refine mm_aload_n 1 dL_law_296 rfl rfl ?_
  refine mm_iload_n 0 dL_law_297 rfl rfl ?_
  refine mm_iconst (v := 3) dL_law_298 rfl ?_
  refine mm_iaddN (i) (3) dL_law_299 ?_
  refine mm_at (pc' := 300) rfl ?_
  refine mm_ialdKN (i + 3) dL_law_300 rfl (by omega) (by omega) ?_
  have ex : op_put w h K (g.2.2.2.2.2 (i + 1)) (g.2.2.2.2.2 (i + 2)) (g.2.2.2.2.2 (i + 3)) = ((op_put w h I (g.2.2.2.2.2 (i + 1)) (g.2.2.2.2.2 (i + 2)) (g.2.2.2.2.2 (i + 3))).1, mx K (op_put w h I (g.2.2.2.2.2 (i + 1)) (g.2.2.2.2.2 (i + 2)) (g.2.2.2.2.2 (i + 3))).2) := by
    have q : op_put w h (mx K I) (g.2.2.2.2.2 (i + 1)) (g.2.2.2.2.2 (i + 2)) (g.2.2.2.2.2 (i + 3)) = ((op_put w h I (g.2.2.2.2.2 (i + 1)) (g.2.2.2.2.2 (i + 2)) (g.2.2.2.2.2 (i + 3))).1, mx K (op_put w h I (g.2.2.2.2.2 (i + 1)) (g.2.2.2.2.2 (i + 2)) (g.2.2.2.2.2 (i + 3))).2) := x_op_put
    rw [← mx_eq hhi] at q
    exact q
  have hc : mm_Ci g zX12_put (d - 1) [.ref 200, .int (g.2.2.2.2.2 (i + 1)), .int (g.2.2.2.2.2 (i + 2)), .int (g.2.2.2.2.2 (i + 3))] sh_S K (op_put w h I (g.2.2.2.2.2 (i + 1)) (g.2.2.2.2.2 (i + 2)) (g.2.2.2.2.2 (i + 3))).1 (mx K (op_put w h I (g.2.2.2.2.2 (i + 1)) (g.2.2.2.2.2 (i + 2)) (g.2.2.2.2.2 (i + 3))).2) := by
    have q : mm_Ci g zX12_put (d - 1) [.ref 200, .int (g.2.2.2.2.2 (i + 1)), .int (g.2.2.2.2.2 (i + 2)), .int (g.2.2.2.2.2 (i + 3))] sh_S K (op_put w h K (g.2.2.2.2.2 (i + 1)) (g.2.2.2.2.2 (i + 2)) (g.2.2.2.2.2 (i + 3))).1 (op_put w h K (g.2.2.2.2.2 (i + 1)) (g.2.2.2.2.2 (i + 2)) (g.2.2.2.2.2 (i + 3))).2 := cm_put (by rw [e201]; exact hS.1.1.1) (by omega)
    rw [ex] at q
    exact q
  refine mm_cV3i (dz := d - 1) dL_law_301 rfl mzX12_put ml_L_26 imX12_put (by omega) so_200 ⟨rfl, rfl⟩ hc (Nat.le_of_ble_eq_true rfl) hAM ?_
  refine mm_at (pc' := 304) rfl ?_
  exact mm_icmp_eq (tgt := 1394) dL_law_304 (by decide) (fun _ => hk _ (RC_mx hR)) (fun q => absurd he q)
set_option maxRecDepth 100000 in
theorem lw_told {g : mm_G} {d : Nat} {Al Mt : Nat × Nat} {I : mm_I} {i : Nat} {Q : Option Value → mm_Sh → mm_I → Prop} (H : RC I) (hAM : Al.1 ≤ Mt.1 ∧ Al.2 ≤ Mt.2) (hi : i + 6 ≤ g.2.2.2.2.1) (hL : g.2.2.2.2.1 ≤ 3072) (hd : 161 ≤ d) (hk : ∀ I2, RC I2 → mm_Ex g zL_law d Al Mt sh_S I2 1394 [(3, .int (nI i)), (0, .ref (mm_KB + 0)), (1, .ref 0), (2, .ref 200)] [] Q) : mm_Ex g zL_law d Al Mt sh_S I 309 [(3, .int (nI i)), (0, .ref (mm_KB + 0)), (1, .ref 0), (2, .ref 200)] [] Q := by
  obtain ⟨w, h, n, l, k, o, r, T, hS⟩ := H.1
  have hV := hS.1
  refine mm_aload_n 2 dL_law_309 rfl rfl ?_
  refine mm_aload_n 1 dL_law_310 rfl rfl ?_
  refine mm_iload_n 0 dL_law_311 rfl rfl ?_
  refine mm_iconst (v := 1) dL_law_312 rfl ?_
  refine mm_iaddN (i) (1) dL_law_313 ?_
  refine mm_at (pc' := 314) rfl ?_
  refine mm_ialdKN (i + 1) dL_law_314 rfl (by omega) (by omega) ?_
  refine mm_aload_n 1 dL_law_315 rfl rfl ?_
  refine mm_iload_n 0 dL_law_316 rfl rfl ?_
  refine mm_iconst (v := 2) dL_law_317 rfl ?_
  refine mm_iaddN (i) (2) dL_law_318 ?_
  refine mm_at (pc' := 319) rfl ?_
  refine mm_ialdKN (i + 2) dL_law_319 rfl (by omega) (by omega) ?_
  refine mm_dV2i (dz := d - 1) dL_law_320 rfl mzX11_told ml_L_27 imX11_told (by omega) so_0 ⟨rfl, rfl⟩ (cl_told H hS (by omega)) (Nat.le_of_ble_eq_true rfl) hAM (fun w_ K hK => ?_)
  obtain ⟨hhi, he, hR⟩ := hK
  have e201 : K 201 = I 201 := hhi 201 (by decide)
  have e200 : K 200 = I 200 := hhi 200 (by decide)
  refine mm_at (pc' := 323) rfl ?_
  refine mm_aload_n 3 dL_law_323 rfl rfl ?_
  refine mm_aload_n 1 dL_law_324 rfl rfl ?_
  refine mm_iload_n 0 dL_law_325 rfl rfl ?_
  refine mm_iconst (v := 1) dL_law_326 rfl ?_
  refine mm_iaddN (i) (1) dL_law_327 ?_
  refine mm_at (pc' := 328) rfl ?_
  refine mm_ialdKN (i + 1) dL_law_328 rfl (by omega) (by omega) ?_
  refine mm_aload_n 1 dL_law_329 rfl rfl ?_
  refine mm_iload_n 0 dL_law_330 rfl rfl ?_
  refine mm_iconst (v := 2) dL_law_331 rfl ?_
  refine mm_iaddN (i) (2) dL_law_332 ?_
  refine mm_at (pc' := 333) rfl ?_
  refine mm_ialdKN (i + 2) dL_law_333 rfl (by omega) (by omega) ?_
  have hc : mm_Ci g zX12_told (d - 1) [.ref 200, .int (g.2.2.2.2.2 (i + 1)), .int (g.2.2.2.2.2 (i + 2))] sh_S K (op_told w h n I (g.2.2.2.2.2 (i + 1)) (g.2.2.2.2.2 (i + 2))) K := by
    have q : mm_Ci g zX12_told (d - 1) [.ref 200, .int (g.2.2.2.2.2 (i + 1)), .int (g.2.2.2.2.2 (i + 2))] sh_S K (op_told w h n K (g.2.2.2.2.2 (i + 1)) (g.2.2.2.2.2 (i + 2))) K := cm_told (by rw [e201]; exact hS.1.1.1) (by rw [e201]; exact hV.2.2.2.1.2.1) hV.2.2.2.2.1.1 (by omega)
    have ex : op_told w h n K (g.2.2.2.2.2 (i + 1)) (g.2.2.2.2.2 (i + 2)) = op_told w h n I (g.2.2.2.2.2 (i + 1)) (g.2.2.2.2.2 (i + 2)) := by
      have q : op_told w h n (mx K I) (g.2.2.2.2.2 (i + 1)) (g.2.2.2.2.2 (i + 2)) = op_told w h n I (g.2.2.2.2.2 (i + 1)) (g.2.2.2.2.2 (i + 2)) := x_op_told
      rw [← mx_eq hhi] at q
      exact q
    rw [ex] at q
    exact q
  refine mm_cV2i (dz := d - 1) dL_law_334 rfl mzX12_told ml_L_30 imX12_told (by omega) so_200 ⟨rfl, rfl⟩ hc (Nat.le_of_ble_eq_true rfl) hAM ?_
  refine mm_at (pc' := 337) rfl ?_
  have hRK : RC K := by
    have q := RC_mx hR
    rw [← mx_eq hhi] at q
    exact q
  exact mm_icmp_eq (tgt := 1394) dL_law_337 (by decide) (fun _ => hk _ hRK) (fun q => absurd he q)
set_option maxRecDepth 100000 in
theorem lw_isOf {g : mm_G} {d : Nat} {Al Mt : Nat × Nat} {I : mm_I} {i : Nat} {Q : Option Value → mm_Sh → mm_I → Prop} (H : RC I) (hAM : Al.1 ≤ Mt.1 ∧ Al.2 ≤ Mt.2) (hi : i + 6 ≤ g.2.2.2.2.1) (hL : g.2.2.2.2.1 ≤ 3072) (hd : 161 ≤ d) (hk : ∀ I2, RC I2 → mm_Ex g zL_law d Al Mt sh_S I2 1394 [(3, .int (nI i)), (0, .ref (mm_KB + 0)), (1, .ref 0), (2, .ref 200)] [] Q) : mm_Ex g zL_law d Al Mt sh_S I 342 [(3, .int (nI i)), (0, .ref (mm_KB + 0)), (1, .ref 0), (2, .ref 200)] [] Q := by
  obtain ⟨w, h, n, l, k, o, r, T, hS⟩ := H.1
  have hV := hS.1
  refine mm_aload_n 2 dL_law_342 rfl rfl ?_
  refine mm_aload_n 1 dL_law_343 rfl rfl ?_
  refine mm_iload_n 0 dL_law_344 rfl rfl ?_
  refine mm_iconst (v := 1) dL_law_345 rfl ?_
  refine mm_iaddN (i) (1) dL_law_346 ?_
  refine mm_at (pc' := 347) rfl ?_
  refine mm_ialdKN (i + 1) dL_law_347 rfl (by omega) (by omega) ?_
  refine mm_aload_n 1 dL_law_348 rfl rfl ?_
  refine mm_iload_n 0 dL_law_349 rfl rfl ?_
  refine mm_iconst (v := 2) dL_law_350 rfl ?_
  refine mm_iaddN (i) (2) dL_law_351 ?_
  refine mm_at (pc' := 352) rfl ?_
  refine mm_ialdKN (i + 2) dL_law_352 rfl (by omega) (by omega) ?_
  refine mm_dV2i (dz := d - 1) dL_law_353 rfl mzX11_isOf ml_L_31 imX11_isOf (by omega) so_0 ⟨rfl, rfl⟩ (cl_isOf H hS (by omega)) (Nat.le_of_ble_eq_true rfl) hAM (fun w_ K hK => ?_)
  obtain ⟨hhi, he, hR⟩ := hK
  have e201 : K 201 = I 201 := hhi 201 (by decide)
  have e200 : K 200 = I 200 := hhi 200 (by decide)
  refine mm_at (pc' := 356) rfl ?_
  refine mm_aload_n 3 dL_law_356 rfl rfl ?_
  refine mm_aload_n 1 dL_law_357 rfl rfl ?_
  refine mm_iload_n 0 dL_law_358 rfl rfl ?_
  refine mm_iconst (v := 1) dL_law_359 rfl ?_
  refine mm_iaddN (i) (1) dL_law_360 ?_
  refine mm_at (pc' := 361) rfl ?_
  refine mm_ialdKN (i + 1) dL_law_361 rfl (by omega) (by omega) ?_
  refine mm_aload_n 1 dL_law_362 rfl rfl ?_
  refine mm_iload_n 0 dL_law_363 rfl rfl ?_
  refine mm_iconst (v := 2) dL_law_364 rfl ?_
  refine mm_iaddN (i) (2) dL_law_365 ?_
  refine mm_at (pc' := 366) rfl ?_
  refine mm_ialdKN (i + 2) dL_law_366 rfl (by omega) (by omega) ?_
  have hc : mm_Ci g zX12_isOf (d - 1) [.ref 200, .int (g.2.2.2.2.2 (i + 1)), .int (g.2.2.2.2.2 (i + 2))] sh_S K (op_isOf w h I (g.2.2.2.2.2 (i + 1)) (g.2.2.2.2.2 (i + 2))) K := by
    have q : mm_Ci g zX12_isOf (d - 1) [.ref 200, .int (g.2.2.2.2.2 (i + 1)), .int (g.2.2.2.2.2 (i + 2))] sh_S K (op_isOf w h K (g.2.2.2.2.2 (i + 1)) (g.2.2.2.2.2 (i + 2))) K := cm_isOf (by rw [e201]; exact hS.1.1.1) (by omega)
    have ex : op_isOf w h K (g.2.2.2.2.2 (i + 1)) (g.2.2.2.2.2 (i + 2)) = op_isOf w h I (g.2.2.2.2.2 (i + 1)) (g.2.2.2.2.2 (i + 2)) := by
      have q : op_isOf w h (mx K I) (g.2.2.2.2.2 (i + 1)) (g.2.2.2.2.2 (i + 2)) = op_isOf w h I (g.2.2.2.2.2 (i + 1)) (g.2.2.2.2.2 (i + 2)) := x_op_isOf
      rw [← mx_eq hhi] at q
      exact q
    rw [ex] at q
    exact q
  refine mm_cV2i (dz := d - 1) dL_law_367 rfl mzX12_isOf ml_L_34 imX12_isOf (by omega) so_200 ⟨rfl, rfl⟩ hc (Nat.le_of_ble_eq_true rfl) hAM ?_
  refine mm_at (pc' := 370) rfl ?_
  have hRK : RC K := by
    have q := RC_mx hR
    rw [← mx_eq hhi] at q
    exact q
  exact mm_icmp_eq (tgt := 1394) dL_law_370 (by decide) (fun _ => hk _ hRK) (fun q => absurd he q)
set_option maxRecDepth 100000 in
theorem lw_map {g : mm_G} {d : Nat} {Al Mt : Nat × Nat} {I : mm_I} {i : Nat} {Q : Option Value → mm_Sh → mm_I → Prop} (H : RC I) (hAM : Al.1 ≤ Mt.1 ∧ Al.2 ≤ Mt.2) (hi : i + 6 ≤ g.2.2.2.2.1) (hL : g.2.2.2.2.1 ≤ 3072) (hd : 161 ≤ d) (hk : ∀ I2, RC I2 → mm_Ex g zL_law d Al Mt sh_S I2 1394 [(3, .int (nI i)), (0, .ref (mm_KB + 0)), (1, .ref 0), (2, .ref 200)] [] Q) : mm_Ex g zL_law d Al Mt sh_S I 375 [(3, .int (nI i)), (0, .ref (mm_KB + 0)), (1, .ref 0), (2, .ref 200)] [] Q := by
  obtain ⟨w, h, n, l, k, o, r, T, hS⟩ := H.1
  have hV := hS.1
  refine mm_aload_n 2 dL_law_375 rfl rfl ?_
  refine mm_aload_n 1 dL_law_376 rfl rfl ?_
  refine mm_iload_n 0 dL_law_377 rfl rfl ?_
  refine mm_iconst (v := 1) dL_law_378 rfl ?_
  refine mm_iaddN (i) (1) dL_law_379 ?_
  refine mm_at (pc' := 380) rfl ?_
  refine mm_ialdKN (i + 1) dL_law_380 rfl (by omega) (by omega) ?_
  refine mm_aload_n 1 dL_law_381 rfl rfl ?_
  refine mm_iload_n 0 dL_law_382 rfl rfl ?_
  refine mm_iconst (v := 2) dL_law_383 rfl ?_
  refine mm_iaddN (i) (2) dL_law_384 ?_
  refine mm_at (pc' := 385) rfl ?_
  refine mm_ialdKN (i + 2) dL_law_385 rfl (by omega) (by omega) ?_
  refine mm_dV2i (dz := d - 1) dL_law_386 rfl mzX11_map ml_L_35 imX11_map (by omega) so_0 ⟨rfl, rfl⟩ (cl_map H hS (by omega)) (Nat.le_of_ble_eq_true rfl) hAM (fun w_ K hK => ?_)
  obtain ⟨hhi, he, hR⟩ := hK
  have e201 : K 201 = I 201 := hhi 201 (by decide)
  have e200 : K 200 = I 200 := hhi 200 (by decide)
  refine mm_at (pc' := 389) rfl ?_
  refine mm_aload_n 3 dL_law_389 rfl rfl ?_
  refine mm_aload_n 1 dL_law_390 rfl rfl ?_
  refine mm_iload_n 0 dL_law_391 rfl rfl ?_
  refine mm_iconst (v := 1) dL_law_392 rfl ?_
  refine mm_iaddN (i) (1) dL_law_393 ?_
  refine mm_at (pc' := 394) rfl ?_
  refine mm_ialdKN (i + 1) dL_law_394 rfl (by omega) (by omega) ?_
  refine mm_aload_n 1 dL_law_395 rfl rfl ?_
  refine mm_iload_n 0 dL_law_396 rfl rfl ?_
  refine mm_iconst (v := 2) dL_law_397 rfl ?_
  refine mm_iaddN (i) (2) dL_law_398 ?_
  refine mm_at (pc' := 399) rfl ?_
  refine mm_ialdKN (i + 2) dL_law_399 rfl (by omega) (by omega) ?_
  have hc : mm_Ci g zX12_map (d - 1) [.ref 200, .int (g.2.2.2.2.2 (i + 1)), .int (g.2.2.2.2.2 (i + 2))] sh_S K (op_map w h I (g.2.2.2.2.2 (i + 1)) (g.2.2.2.2.2 (i + 2))) K := by
    have q : mm_Ci g zX12_map (d - 1) [.ref 200, .int (g.2.2.2.2.2 (i + 1)), .int (g.2.2.2.2.2 (i + 2))] sh_S K (op_map w h K (g.2.2.2.2.2 (i + 1)) (g.2.2.2.2.2 (i + 2))) K := cm_map (by rw [e201]; exact hS.1.1.1) (by omega)
    have ex : op_map w h K (g.2.2.2.2.2 (i + 1)) (g.2.2.2.2.2 (i + 2)) = op_map w h I (g.2.2.2.2.2 (i + 1)) (g.2.2.2.2.2 (i + 2)) := by
      have q : op_map w h (mx K I) (g.2.2.2.2.2 (i + 1)) (g.2.2.2.2.2 (i + 2)) = op_map w h I (g.2.2.2.2.2 (i + 1)) (g.2.2.2.2.2 (i + 2)) := x_op_map
      rw [← mx_eq hhi] at q
      exact q
    rw [ex] at q
    exact q
  refine mm_cV2i (dz := d - 1) dL_law_400 rfl mzX12_map ml_L_38 imX12_map (by omega) so_200 ⟨rfl, rfl⟩ hc (Nat.le_of_ble_eq_true rfl) hAM ?_
  refine mm_at (pc' := 403) rfl ?_
  have hRK : RC K := by
    have q := RC_mx hR
    rw [← mx_eq hhi] at q
    exact q
  exact mm_icmp_eq (tgt := 1394) dL_law_403 (by decide) (fun _ => hk _ hRK) (fun q => absurd he q)
set_option maxRecDepth 100000 in
theorem lw_lay {g : mm_G} {d : Nat} {Al Mt : Nat × Nat} {I : mm_I} {i : Nat} {Q : Option Value → mm_Sh → mm_I → Prop} (H : RC I) (hAM : Al.1 ≤ Mt.1 ∧ Al.2 ≤ Mt.2) (hi : i + 6 ≤ g.2.2.2.2.1) (hL : g.2.2.2.2.1 ≤ 3072) (hd : 161 ≤ d) (hk : ∀ I2, RC I2 → mm_Ex g zL_law d Al Mt sh_S I2 1394 [(3, .int (nI i)), (0, .ref (mm_KB + 0)), (1, .ref 0), (2, .ref 200)] [] Q) : mm_Ex g zL_law d Al Mt sh_S I 408 [(3, .int (nI i)), (0, .ref (mm_KB + 0)), (1, .ref 0), (2, .ref 200)] [] Q := by
  obtain ⟨w, h, n, l, k, o, r, T, hS⟩ := H.1
  have hV := hS.1
  refine mm_aload_n 2 dL_law_408 rfl rfl ?_
  refine mm_aload_n 1 dL_law_409 rfl rfl ?_
  refine mm_iload_n 0 dL_law_410 rfl rfl ?_
  refine mm_iconst (v := 1) dL_law_411 rfl ?_
  refine mm_iaddN (i) (1) dL_law_412 ?_
  refine mm_at (pc' := 413) rfl ?_
  refine mm_ialdKN (i + 1) dL_law_413 rfl (by omega) (by omega) ?_
  refine mm_dV1i (dz := d - 1) dL_law_414 rfl mzX11_lay ml_L_39 imX11_lay (by omega) so_0 ⟨rfl, rfl⟩ (cl_lay H hS (by omega)) (Nat.le_of_ble_eq_true rfl) hAM (fun w_ K hK => ?_)
  obtain ⟨hhi, he, hR⟩ := hK
  have e201 : K 201 = I 201 := hhi 201 (by decide)
  have e200 : K 200 = I 200 := hhi 200 (by decide)
  refine mm_at (pc' := 417) rfl ?_
  refine mm_aload_n 3 dL_law_417 rfl rfl ?_
  refine mm_aload_n 1 dL_law_418 rfl rfl ?_
  refine mm_iload_n 0 dL_law_419 rfl rfl ?_
  refine mm_iconst (v := 1) dL_law_420 rfl ?_
  refine mm_iaddN (i) (1) dL_law_421 ?_
  refine mm_at (pc' := 422) rfl ?_
  refine mm_ialdKN (i + 1) dL_law_422 rfl (by omega) (by omega) ?_
  have ex : op_lay w h K (g.2.2.2.2.2 (i + 1)) = ((op_lay w h I (g.2.2.2.2.2 (i + 1))).1, mx K (op_lay w h I (g.2.2.2.2.2 (i + 1))).2) := by
    have q : op_lay w h (mx K I) (g.2.2.2.2.2 (i + 1)) = ((op_lay w h I (g.2.2.2.2.2 (i + 1))).1, mx K (op_lay w h I (g.2.2.2.2.2 (i + 1))).2) := x_op_lay
    rw [← mx_eq hhi] at q
    exact q
  have hc : mm_Ci g zX12_lay (d - 1) [.ref 200, .int (g.2.2.2.2.2 (i + 1))] sh_S K (op_lay w h I (g.2.2.2.2.2 (i + 1))).1 (mx K (op_lay w h I (g.2.2.2.2.2 (i + 1))).2) := by
    have q : mm_Ci g zX12_lay (d - 1) [.ref 200, .int (g.2.2.2.2.2 (i + 1))] sh_S K (op_lay w h K (g.2.2.2.2.2 (i + 1))).1 (op_lay w h K (g.2.2.2.2.2 (i + 1))).2 := cm_lay (by rw [e201]; exact hS.1.1.1) (pl_c H.2.2.2.2.2 (hhi 205 (by decide))) (by omega)
    rw [ex] at q
    exact q
  refine mm_cV1i (dz := d - 1) dL_law_423 rfl mzX12_lay ml_L_43 imX12_lay (by omega) so_200 ⟨rfl, rfl⟩ hc (Nat.le_of_ble_eq_true rfl) hAM ?_
  refine mm_at (pc' := 426) rfl ?_
  exact mm_icmp_eq (tgt := 1394) dL_law_426 (by decide) (fun _ => hk _ (RC_mx hR)) (fun q => absurd he q)
set_option maxRecDepth 100000 in
theorem lw_steps {g : mm_G} {d : Nat} {Al Mt : Nat × Nat} {I : mm_I} {i : Nat} {Q : Option Value → mm_Sh → mm_I → Prop} (H : RC I) (hAM : Al.1 ≤ Mt.1 ∧ Al.2 ≤ Mt.2) (hi : i + 6 ≤ g.2.2.2.2.1) (hL : g.2.2.2.2.1 ≤ 3072) (hd : 161 ≤ d) (hk : ∀ I2, RC I2 → mm_Ex g zL_law d Al Mt sh_S I2 1394 [(3, .int (nI i)), (0, .ref (mm_KB + 0)), (1, .ref 0), (2, .ref 200)] [] Q) : mm_Ex g zL_law d Al Mt sh_S I 431 [(3, .int (nI i)), (0, .ref (mm_KB + 0)), (1, .ref 0), (2, .ref 200)] [] Q := by
  obtain ⟨w, h, n, l, k, o, r, T, hS⟩ := H.1
  have hV := hS.1
  refine mm_aload_n 2 dL_law_431 rfl rfl ?_
  refine mm_aload_n 1 dL_law_432 rfl rfl ?_
  refine mm_iload_n 0 dL_law_433 rfl rfl ?_
  refine mm_iconst (v := 1) dL_law_434 rfl ?_
  refine mm_iaddN (i) (1) dL_law_435 ?_
  refine mm_at (pc' := 436) rfl ?_
  refine mm_ialdKN (i + 1) dL_law_436 rfl (by omega) (by omega) ?_
  refine mm_aload_n 1 dL_law_437 rfl rfl ?_
  refine mm_iload_n 0 dL_law_438 rfl rfl ?_
  refine mm_iconst (v := 2) dL_law_439 rfl ?_
  refine mm_iaddN (i) (2) dL_law_440 ?_
  refine mm_at (pc' := 441) rfl ?_
  refine mm_ialdKN (i + 2) dL_law_441 rfl (by omega) (by omega) ?_
  refine mm_dV2i (dz := d - 1) dL_law_442 rfl mzX11_steps ml_L_44 imX11_steps (by omega) so_0 ⟨rfl, rfl⟩ (cl_steps H hS (by omega)) (Nat.le_of_ble_eq_true rfl) hAM (fun w_ K hK => ?_)
  obtain ⟨hhi, he, hR⟩ := hK
  have e201 : K 201 = I 201 := hhi 201 (by decide)
  have e200 : K 200 = I 200 := hhi 200 (by decide)
  refine mm_at (pc' := 445) rfl ?_
  refine mm_aload_n 3 dL_law_445 rfl rfl ?_
  refine mm_aload_n 1 dL_law_446 rfl rfl ?_
  refine mm_iload_n 0 dL_law_447 rfl rfl ?_
  refine mm_iconst (v := 1) dL_law_448 rfl ?_
  refine mm_iaddN (i) (1) dL_law_449 ?_
  refine mm_at (pc' := 450) rfl ?_
  refine mm_ialdKN (i + 1) dL_law_450 rfl (by omega) (by omega) ?_
  refine mm_aload_n 1 dL_law_451 rfl rfl ?_
  refine mm_iload_n 0 dL_law_452 rfl rfl ?_
  refine mm_iconst (v := 2) dL_law_453 rfl ?_
  refine mm_iaddN (i) (2) dL_law_454 ?_
  refine mm_at (pc' := 455) rfl ?_
  refine mm_ialdKN (i + 2) dL_law_455 rfl (by omega) (by omega) ?_
  have ex : op_steps w h K (g.2.2.2.2.2 (i + 1)) (g.2.2.2.2.2 (i + 2)) = ((op_steps w h I (g.2.2.2.2.2 (i + 1)) (g.2.2.2.2.2 (i + 2))).1, mx K (op_steps w h I (g.2.2.2.2.2 (i + 1)) (g.2.2.2.2.2 (i + 2))).2) := by
    have q : op_steps w h (mx K I) (g.2.2.2.2.2 (i + 1)) (g.2.2.2.2.2 (i + 2)) = ((op_steps w h I (g.2.2.2.2.2 (i + 1)) (g.2.2.2.2.2 (i + 2))).1, mx K (op_steps w h I (g.2.2.2.2.2 (i + 1)) (g.2.2.2.2.2 (i + 2))).2) := x_op_steps
    rw [← mx_eq hhi] at q
    exact q
  have hc : mm_Ci g zX12_steps (d - 1) [.ref 200, .int (g.2.2.2.2.2 (i + 1)), .int (g.2.2.2.2.2 (i + 2))] sh_S K (op_steps w h I (g.2.2.2.2.2 (i + 1)) (g.2.2.2.2.2 (i + 2))).1 (mx K (op_steps w h I (g.2.2.2.2.2 (i + 1)) (g.2.2.2.2.2 (i + 2))).2) := by
    have q : mm_Ci g zX12_steps (d - 1) [.ref 200, .int (g.2.2.2.2.2 (i + 1)), .int (g.2.2.2.2.2 (i + 2))] sh_S K (op_steps w h K (g.2.2.2.2.2 (i + 1)) (g.2.2.2.2.2 (i + 2))).1 (op_steps w h K (g.2.2.2.2.2 (i + 1)) (g.2.2.2.2.2 (i + 2))).2 := cm_steps (by rw [e201]; exact hS.1.1.1) (by omega)
    rw [ex] at q
    exact q
  refine mm_cV2i (dz := d - 1) dL_law_456 rfl mzX12_steps ml_L_47 imX12_steps (by omega) so_200 ⟨rfl, rfl⟩ hc (Nat.le_of_ble_eq_true rfl) hAM ?_
  refine mm_at (pc' := 459) rfl ?_
  exact mm_icmp_eq (tgt := 1394) dL_law_459 (by decide) (fun _ => hk _ (RC_mx hR)) (fun q => absurd he q)
set_option maxRecDepth 100000 in
theorem lw_store {g : mm_G} {d : Nat} {Al Mt : Nat × Nat} {I : mm_I} {i : Nat} {Q : Option Value → mm_Sh → mm_I → Prop} (H : RC I) (hAM : Al.1 ≤ Mt.1 ∧ Al.2 ≤ Mt.2) (hi : i + 6 ≤ g.2.2.2.2.1) (hL : g.2.2.2.2.1 ≤ 3072) (hd : 161 ≤ d) (hk : ∀ I2, RC I2 → mm_Ex g zL_law d Al Mt sh_S I2 1394 [(3, .int (nI i)), (0, .ref (mm_KB + 0)), (1, .ref 0), (2, .ref 200)] [] Q) : mm_Ex g zL_law d Al Mt sh_S I 464 [(3, .int (nI i)), (0, .ref (mm_KB + 0)), (1, .ref 0), (2, .ref 200)] [] Q := by
  obtain ⟨w, h, n, l, k, o, r, T, hS⟩ := H.1
  have hV := hS.1
  refine mm_aload_n 2 dL_law_464 rfl rfl ?_
  refine mm_aload_n 1 dL_law_465 rfl rfl ?_
  refine mm_iload_n 0 dL_law_466 rfl rfl ?_
  refine mm_iconst (v := 1) dL_law_467 rfl ?_
  refine mm_iaddN (i) (1) dL_law_468 ?_
  refine mm_at (pc' := 469) rfl ?_
  refine mm_ialdKN (i + 1) dL_law_469 rfl (by omega) (by omega) ?_
  refine mm_aload_n 1 dL_law_470 rfl rfl ?_
  refine mm_iload_n 0 dL_law_471 rfl rfl ?_
  refine mm_iconst (v := 2) dL_law_472 rfl ?_
  refine mm_iaddN (i) (2) dL_law_473 ?_
  refine mm_at (pc' := 474) rfl ?_
  refine mm_ialdKN (i + 2) dL_law_474 rfl (by omega) (by omega) ?_
  refine mm_dV2i (dz := d - 1) dL_law_475 rfl mzX11_store ml_L_48 imX11_store (by omega) so_0 ⟨rfl, rfl⟩ (cl_store H hS (by omega)) (Nat.le_of_ble_eq_true rfl) hAM (fun w_ K hK => ?_)
  obtain ⟨hhi, he, hR⟩ := hK
  have e201 : K 201 = I 201 := hhi 201 (by decide)
  have e200 : K 200 = I 200 := hhi 200 (by decide)
  refine mm_at (pc' := 478) rfl ?_
  refine mm_aload_n 3 dL_law_478 rfl rfl ?_
  refine mm_aload_n 1 dL_law_479 rfl rfl ?_
  refine mm_iload_n 0 dL_law_480 rfl rfl ?_
  refine mm_iconst (v := 1) dL_law_481 rfl ?_
  refine mm_iaddN (i) (1) dL_law_482 ?_
  refine mm_at (pc' := 483) rfl ?_
  refine mm_ialdKN (i + 1) dL_law_483 rfl (by omega) (by omega) ?_
  refine mm_aload_n 1 dL_law_484 rfl rfl ?_
  refine mm_iload_n 0 dL_law_485 rfl rfl ?_
  refine mm_iconst (v := 2) dL_law_486 rfl ?_
  refine mm_iaddN (i) (2) dL_law_487 ?_
  refine mm_at (pc' := 488) rfl ?_
  refine mm_ialdKN (i + 2) dL_law_488 rfl (by omega) (by omega) ?_
  have ex : op_store K (g.2.2.2.2.2 (i + 1)) (g.2.2.2.2.2 (i + 2)) = ((op_store I (g.2.2.2.2.2 (i + 1)) (g.2.2.2.2.2 (i + 2))).1, mx K (op_store I (g.2.2.2.2.2 (i + 1)) (g.2.2.2.2.2 (i + 2))).2) := by
    have q : op_store (mx K I) (g.2.2.2.2.2 (i + 1)) (g.2.2.2.2.2 (i + 2)) = ((op_store I (g.2.2.2.2.2 (i + 1)) (g.2.2.2.2.2 (i + 2))).1, mx K (op_store I (g.2.2.2.2.2 (i + 1)) (g.2.2.2.2.2 (i + 2))).2) := x_op_store
    rw [← mx_eq hhi] at q
    exact q
  have hc : mm_Ci g zX12_store (d - 1) [.ref 200, .int (g.2.2.2.2.2 (i + 1)), .int (g.2.2.2.2.2 (i + 2))] sh_S K (op_store I (g.2.2.2.2.2 (i + 1)) (g.2.2.2.2.2 (i + 2))).1 (mx K (op_store I (g.2.2.2.2.2 (i + 1)) (g.2.2.2.2.2 (i + 2))).2) := by
    have q : mm_Ci g zX12_store (d - 1) [.ref 200, .int (g.2.2.2.2.2 (i + 1)), .int (g.2.2.2.2.2 (i + 2))] sh_S K (op_store K (g.2.2.2.2.2 (i + 1)) (g.2.2.2.2.2 (i + 2))).1 (op_store K (g.2.2.2.2.2 (i + 1)) (g.2.2.2.2.2 (i + 2))).2 := cm_store (by omega)
    rw [ex] at q
    exact q
  refine mm_cV2i (dz := d - 1) dL_law_489 rfl mzX12_store ml_L_51 imX12_store (by omega) so_200 ⟨rfl, rfl⟩ hc (Nat.le_of_ble_eq_true rfl) hAM ?_
  refine mm_at (pc' := 492) rfl ?_
  exact mm_icmp_eq (tgt := 1394) dL_law_492 (by decide) (fun _ => hk _ (RC_mx hR)) (fun q => absurd he q)
set_option maxRecDepth 100000 in
theorem lw_rule {g : mm_G} {d : Nat} {Al Mt : Nat × Nat} {I : mm_I} {i : Nat} {Q : Option Value → mm_Sh → mm_I → Prop} (H : RC I) (hAM : Al.1 ≤ Mt.1 ∧ Al.2 ≤ Mt.2) (hi : i + 6 ≤ g.2.2.2.2.1) (hL : g.2.2.2.2.1 ≤ 3072) (hd : 161 ≤ d) (hk : ∀ I2, RC I2 → mm_Ex g zL_law d Al Mt sh_S I2 1394 [(3, .int (nI i)), (0, .ref (mm_KB + 0)), (1, .ref 0), (2, .ref 200)] [] Q) : mm_Ex g zL_law d Al Mt sh_S I 497 [(3, .int (nI i)), (0, .ref (mm_KB + 0)), (1, .ref 0), (2, .ref 200)] [] Q := by
  obtain ⟨w, h, n, l, k, o, r, T, hS⟩ := H.1
  have hV := hS.1
  refine mm_aload_n 2 dL_law_497 rfl rfl ?_
  refine mm_aload_n 1 dL_law_498 rfl rfl ?_
  refine mm_iload_n 0 dL_law_499 rfl rfl ?_
  refine mm_iconst (v := 1) dL_law_500 rfl ?_
  refine mm_iaddN (i) (1) dL_law_501 ?_
  refine mm_at (pc' := 502) rfl ?_
  refine mm_ialdKN (i + 1) dL_law_502 rfl (by omega) (by omega) ?_
  refine mm_aload_n 1 dL_law_503 rfl rfl ?_
  refine mm_iload_n 0 dL_law_504 rfl rfl ?_
  refine mm_iconst (v := 2) dL_law_505 rfl ?_
  refine mm_iaddN (i) (2) dL_law_506 ?_
  refine mm_at (pc' := 507) rfl ?_
  refine mm_ialdKN (i + 2) dL_law_507 rfl (by omega) (by omega) ?_
  refine mm_dV2i (dz := d - 1) dL_law_508 rfl mzX11_rule ml_L_52 imX11_rule (by omega) so_0 ⟨rfl, rfl⟩ (cl_rule H hS (by omega)) (Nat.le_of_ble_eq_true rfl) hAM (fun w_ K hK => ?_)
  obtain ⟨hhi, he, hR⟩ := hK
  have e201 : K 201 = I 201 := hhi 201 (by decide)
  have e200 : K 200 = I 200 := hhi 200 (by decide)
  refine mm_at (pc' := 511) rfl ?_
  refine mm_aload_n 3 dL_law_511 rfl rfl ?_
  refine mm_aload_n 1 dL_law_512 rfl rfl ?_
  refine mm_iload_n 0 dL_law_513 rfl rfl ?_
  refine mm_iconst (v := 1) dL_law_514 rfl ?_
  refine mm_iaddN (i) (1) dL_law_515 ?_
  refine mm_at (pc' := 516) rfl ?_
  refine mm_ialdKN (i + 1) dL_law_516 rfl (by omega) (by omega) ?_
  refine mm_aload_n 1 dL_law_517 rfl rfl ?_
  refine mm_iload_n 0 dL_law_518 rfl rfl ?_
  refine mm_iconst (v := 2) dL_law_519 rfl ?_
  refine mm_iaddN (i) (2) dL_law_520 ?_
  refine mm_at (pc' := 521) rfl ?_
  refine mm_ialdKN (i + 2) dL_law_521 rfl (by omega) (by omega) ?_
  have ex : op_rule K (g.2.2.2.2.2 (i + 1)) (g.2.2.2.2.2 (i + 2)) = ((op_rule I (g.2.2.2.2.2 (i + 1)) (g.2.2.2.2.2 (i + 2))).1, mx K (op_rule I (g.2.2.2.2.2 (i + 1)) (g.2.2.2.2.2 (i + 2))).2) := by
    have q : op_rule (mx K I) (g.2.2.2.2.2 (i + 1)) (g.2.2.2.2.2 (i + 2)) = ((op_rule I (g.2.2.2.2.2 (i + 1)) (g.2.2.2.2.2 (i + 2))).1, mx K (op_rule I (g.2.2.2.2.2 (i + 1)) (g.2.2.2.2.2 (i + 2))).2) := x_op_rule
    rw [← mx_eq hhi] at q
    exact q
  have hc : mm_Ci g zX12_rule (d - 1) [.ref 200, .int (g.2.2.2.2.2 (i + 1)), .int (g.2.2.2.2.2 (i + 2))] sh_S K (op_rule I (g.2.2.2.2.2 (i + 1)) (g.2.2.2.2.2 (i + 2))).1 (mx K (op_rule I (g.2.2.2.2.2 (i + 1)) (g.2.2.2.2.2 (i + 2))).2) := by
    have q : mm_Ci g zX12_rule (d - 1) [.ref 200, .int (g.2.2.2.2.2 (i + 1)), .int (g.2.2.2.2.2 (i + 2))] sh_S K (op_rule K (g.2.2.2.2.2 (i + 1)) (g.2.2.2.2.2 (i + 2))).1 (op_rule K (g.2.2.2.2.2 (i + 1)) (g.2.2.2.2.2 (i + 2))).2 := cm_rule (by omega)
    rw [ex] at q
    exact q
  refine mm_cV2i (dz := d - 1) dL_law_522 rfl mzX12_rule ml_L_55 imX12_rule (by omega) so_200 ⟨rfl, rfl⟩ hc (Nat.le_of_ble_eq_true rfl) hAM ?_
  refine mm_at (pc' := 525) rfl ?_
  exact mm_icmp_eq (tgt := 1394) dL_law_525 (by decide) (fun _ => hk _ (RC_mx hR)) (fun q => absurd he q)
set_option maxRecDepth 100000 in
theorem lw_load {g : mm_G} {d : Nat} {Al Mt : Nat × Nat} {I : mm_I} {i : Nat} {Q : Option Value → mm_Sh → mm_I → Prop} (H : RC I) (hAM : Al.1 ≤ Mt.1 ∧ Al.2 ≤ Mt.2) (hi : i + 6 ≤ g.2.2.2.2.1) (hL : g.2.2.2.2.1 ≤ 3072) (hd : 161 ≤ d) (hk : ∀ I2, RC I2 → mm_Ex g zL_law d Al Mt sh_S I2 1394 [(3, .int (nI i)), (0, .ref (mm_KB + 0)), (1, .ref 0), (2, .ref 200)] [] Q) : mm_Ex g zL_law d Al Mt sh_S I 530 [(3, .int (nI i)), (0, .ref (mm_KB + 0)), (1, .ref 0), (2, .ref 200)] [] Q := by
  obtain ⟨w, h, n, l, k, o, r, T, hS⟩ := H.1
  have hV := hS.1
  refine mm_aload_n 2 dL_law_530 rfl rfl ?_
  refine mm_aload_n 1 dL_law_531 rfl rfl ?_
  refine mm_iload_n 0 dL_law_532 rfl rfl ?_
  refine mm_iconst (v := 1) dL_law_533 rfl ?_
  refine mm_iaddN (i) (1) dL_law_534 ?_
  refine mm_at (pc' := 535) rfl ?_
  refine mm_ialdKN (i + 1) dL_law_535 rfl (by omega) (by omega) ?_
  refine mm_aload_n 1 dL_law_536 rfl rfl ?_
  refine mm_iload_n 0 dL_law_537 rfl rfl ?_
  refine mm_iconst (v := 2) dL_law_538 rfl ?_
  refine mm_iaddN (i) (2) dL_law_539 ?_
  refine mm_at (pc' := 540) rfl ?_
  refine mm_ialdKN (i + 2) dL_law_540 rfl (by omega) (by omega) ?_
  refine mm_dV2i (dz := d - 1) dL_law_541 rfl mzX11_load ml_L_56 imX11_load (by omega) so_0 ⟨rfl, rfl⟩ (cl_load H hS (by omega)) (Nat.le_of_ble_eq_true rfl) hAM (fun w_ K hK => ?_)
  obtain ⟨hhi, he, hR⟩ := hK
  have e201 : K 201 = I 201 := hhi 201 (by decide)
  have e200 : K 200 = I 200 := hhi 200 (by decide)
  refine mm_at (pc' := 544) rfl ?_
  refine mm_aload_n 3 dL_law_544 rfl rfl ?_
  refine mm_aload_n 1 dL_law_545 rfl rfl ?_
  refine mm_iload_n 0 dL_law_546 rfl rfl ?_
  refine mm_iconst (v := 1) dL_law_547 rfl ?_
  refine mm_iaddN (i) (1) dL_law_548 ?_
  refine mm_at (pc' := 549) rfl ?_
  refine mm_ialdKN (i + 1) dL_law_549 rfl (by omega) (by omega) ?_
  refine mm_aload_n 1 dL_law_550 rfl rfl ?_
  refine mm_iload_n 0 dL_law_551 rfl rfl ?_
  refine mm_iconst (v := 2) dL_law_552 rfl ?_
  refine mm_iaddN (i) (2) dL_law_553 ?_
  refine mm_at (pc' := 554) rfl ?_
  refine mm_ialdKN (i + 2) dL_law_554 rfl (by omega) (by omega) ?_
  have ex : op_load l K (g.2.2.2.2.2 (i + 1)) (g.2.2.2.2.2 (i + 2)) = ((op_load l I (g.2.2.2.2.2 (i + 1)) (g.2.2.2.2.2 (i + 2))).1, mx K (op_load l I (g.2.2.2.2.2 (i + 1)) (g.2.2.2.2.2 (i + 2))).2) := by
    have q : op_load l (mx K I) (g.2.2.2.2.2 (i + 1)) (g.2.2.2.2.2 (i + 2)) = ((op_load l I (g.2.2.2.2.2 (i + 1)) (g.2.2.2.2.2 (i + 2))).1, mx K (op_load l I (g.2.2.2.2.2 (i + 1)) (g.2.2.2.2.2 (i + 2))).2) := x_op_load
    rw [← mx_eq hhi] at q
    exact q
  have hc : mm_Ci g zX12_load (d - 1) [.ref 200, .int (g.2.2.2.2.2 (i + 1)), .int (g.2.2.2.2.2 (i + 2))] sh_S K (op_load l I (g.2.2.2.2.2 (i + 1)) (g.2.2.2.2.2 (i + 2))).1 (mx K (op_load l I (g.2.2.2.2.2 (i + 1)) (g.2.2.2.2.2 (i + 2))).2) := by
    have q : mm_Ci g zX12_load (d - 1) [.ref 200, .int (g.2.2.2.2.2 (i + 1)), .int (g.2.2.2.2.2 (i + 2))] sh_S K (op_load l K (g.2.2.2.2.2 (i + 1)) (g.2.2.2.2.2 (i + 2))).1 (op_load l K (g.2.2.2.2.2 (i + 1)) (g.2.2.2.2.2 (i + 2))).2 := cm_load (by rw [e201]; exact hV.2.2.2.1.1) hV.2.2.2.2.1.2.1 (by omega)
    rw [ex] at q
    exact q
  refine mm_cV2i (dz := d - 1) dL_law_555 rfl mzX12_load ml_L_59 imX12_load (by omega) so_200 ⟨rfl, rfl⟩ hc (Nat.le_of_ble_eq_true rfl) hAM ?_
  refine mm_at (pc' := 558) rfl ?_
  exact mm_icmp_eq (tgt := 1394) dL_law_558 (by decide) (fun _ => hk _ (RC_mx hR)) (fun q => absurd he q)
set_option maxRecDepth 100000 in
theorem lw_base {g : mm_G} {d : Nat} {Al Mt : Nat × Nat} {I : mm_I} {i : Nat} {Q : Option Value → mm_Sh → mm_I → Prop} (H : RC I) (hAM : Al.1 ≤ Mt.1 ∧ Al.2 ≤ Mt.2) (hi : i + 6 ≤ g.2.2.2.2.1) (hL : g.2.2.2.2.1 ≤ 3072) (hd : 161 ≤ d) (hk : ∀ I2, RC I2 → mm_Ex g zL_law d Al Mt sh_S I2 1394 [(3, .int (nI i)), (0, .ref (mm_KB + 0)), (1, .ref 0), (2, .ref 200)] [] Q) : mm_Ex g zL_law d Al Mt sh_S I 563 [(3, .int (nI i)), (0, .ref (mm_KB + 0)), (1, .ref 0), (2, .ref 200)] [] Q := by
  obtain ⟨w, h, n, l, k, o, r, T, hS⟩ := H.1
  have hV := hS.1
  obtain ⟨la, lb, l1, l2, l3, l4⟩ := hV.2.2.2.2.2.1
  refine mm_aload_n 2 dL_law_563 rfl rfl ?_
  refine mm_aload_n 1 dL_law_564 rfl rfl ?_
  refine mm_iload_n 0 dL_law_565 rfl rfl ?_
  refine mm_iconst (v := 1) dL_law_566 rfl ?_
  refine mm_iaddN (i) (1) dL_law_567 ?_
  refine mm_at (pc' := 568) rfl ?_
  refine mm_ialdKN (i + 1) dL_law_568 rfl (by omega) (by omega) ?_
  refine mm_dV1i (dz := d - 1) dL_law_569 rfl mzX11_base ml_L_60 imX11_base (by omega) so_0 ⟨rfl, rfl⟩ (cl_base H hS (by omega)) (Nat.le_of_ble_eq_true rfl) hAM (fun w_ K hK => ?_)
  obtain ⟨hhi, he, hR⟩ := hK
  have e201 : K 201 = I 201 := hhi 201 (by decide)
  have e200 : K 200 = I 200 := hhi 200 (by decide)
  refine mm_at (pc' := 572) rfl ?_
  refine mm_aload_n 3 dL_law_572 rfl rfl ?_
  refine mm_aload_n 1 dL_law_573 rfl rfl ?_
  refine mm_iload_n 0 dL_law_574 rfl rfl ?_
  refine mm_iconst (v := 1) dL_law_575 rfl ?_
  refine mm_iaddN (i) (1) dL_law_576 ?_
  refine mm_at (pc' := 577) rfl ?_
  refine mm_ialdKN (i + 1) dL_law_577 rfl (by omega) (by omega) ?_
  have hc : mm_Ci g zX12_base (d - 1) [.ref 200, .int (g.2.2.2.2.2 (i + 1))] sh_S K (op_base I (g.2.2.2.2.2 (i + 1))) K := by
    have q : mm_Ci g zX12_base (d - 1) [.ref 200, .int (g.2.2.2.2.2 (i + 1))] sh_S K (op_base K (g.2.2.2.2.2 (i + 1))) K := cm_base (by rw [e201]; exact l1) (by rw [e201]; exact l2) l3 l4 (by omega)
    have ex : op_base K (g.2.2.2.2.2 (i + 1)) = op_base I (g.2.2.2.2.2 (i + 1)) := by
      have q : op_base (mx K I) (g.2.2.2.2.2 (i + 1)) = op_base I (g.2.2.2.2.2 (i + 1)) := x_op_base
      rw [← mx_eq hhi] at q
      exact q
    rw [ex] at q
    exact q
  refine mm_cV1i (dz := d - 1) dL_law_578 rfl mzX12_base ml_L_63 imX12_base (by omega) so_200 ⟨rfl, rfl⟩ hc (Nat.le_of_ble_eq_true rfl) hAM ?_
  refine mm_at (pc' := 581) rfl ?_
  have hRK : RC K := by
    have q := RC_mx hR
    rw [← mx_eq hhi] at q
    exact q
  exact mm_icmp_eq (tgt := 1394) dL_law_581 (by decide) (fun _ => hk _ hRK) (fun q => absurd he q)
set_option maxRecDepth 100000 in
theorem lw_machine {g : mm_G} {d : Nat} {Al Mt : Nat × Nat} {I : mm_I} {i : Nat} {Q : Option Value → mm_Sh → mm_I → Prop} (H : RC I) (hAM : Al.1 ≤ Mt.1 ∧ Al.2 ≤ Mt.2) (hi : i + 6 ≤ g.2.2.2.2.1) (hL : g.2.2.2.2.1 ≤ 3072) (hd : 161 ≤ d) (hk : ∀ I2, RC I2 → mm_Ex g zL_law d Al Mt sh_S I2 1394 [(3, .int (nI i)), (0, .ref (mm_KB + 0)), (1, .ref 0), (2, .ref 200)] [] Q) : mm_Ex g zL_law d Al Mt sh_S I 586 [(3, .int (nI i)), (0, .ref (mm_KB + 0)), (1, .ref 0), (2, .ref 200)] [] Q := by
  obtain ⟨w, h, n, l, k, o, r, T, hS⟩ := H.1
  have hV := hS.1
  refine mm_aload_n 2 dL_law_586 rfl rfl ?_
  refine mm_aload_n 1 dL_law_587 rfl rfl ?_
  refine mm_iload_n 0 dL_law_588 rfl rfl ?_
  refine mm_iconst (v := 1) dL_law_589 rfl ?_
  refine mm_iaddN (i) (1) dL_law_590 ?_
  refine mm_at (pc' := 591) rfl ?_
  refine mm_ialdKN (i + 1) dL_law_591 rfl (by omega) (by omega) ?_
  refine mm_aload_n 1 dL_law_592 rfl rfl ?_
  refine mm_iload_n 0 dL_law_593 rfl rfl ?_
  refine mm_iconst (v := 2) dL_law_594 rfl ?_
  refine mm_iaddN (i) (2) dL_law_595 ?_
  refine mm_at (pc' := 596) rfl ?_
  refine mm_ialdKN (i + 2) dL_law_596 rfl (by omega) (by omega) ?_
  refine mm_dV2i (dz := d - 1) dL_law_597 rfl mzX11_machine ml_L_64 imX11_machine (by omega) so_0 ⟨rfl, rfl⟩ (cl_machine H hS (by omega)) (Nat.le_of_ble_eq_true rfl) hAM (fun w_ K hK => ?_)
  obtain ⟨hhi, he, hR⟩ := hK
  have e201 : K 201 = I 201 := hhi 201 (by decide)
  have e200 : K 200 = I 200 := hhi 200 (by decide)
  refine mm_at (pc' := 600) rfl ?_
  refine mm_aload_n 3 dL_law_600 rfl rfl ?_
  refine mm_aload_n 1 dL_law_601 rfl rfl ?_
  refine mm_iload_n 0 dL_law_602 rfl rfl ?_
  refine mm_iconst (v := 1) dL_law_603 rfl ?_
  refine mm_iaddN (i) (1) dL_law_604 ?_
  refine mm_at (pc' := 605) rfl ?_
  refine mm_ialdKN (i + 1) dL_law_605 rfl (by omega) (by omega) ?_
  refine mm_aload_n 1 dL_law_606 rfl rfl ?_
  refine mm_iload_n 0 dL_law_607 rfl rfl ?_
  refine mm_iconst (v := 2) dL_law_608 rfl ?_
  refine mm_iaddN (i) (2) dL_law_609 ?_
  refine mm_at (pc' := 610) rfl ?_
  refine mm_ialdKN (i + 2) dL_law_610 rfl (by omega) (by omega) ?_
  have ex : op_machine w h n K (g.2.2.2.2.2 (i + 1)) (g.2.2.2.2.2 (i + 2)) = ((op_machine w h n I (g.2.2.2.2.2 (i + 1)) (g.2.2.2.2.2 (i + 2))).1, mx K (op_machine w h n I (g.2.2.2.2.2 (i + 1)) (g.2.2.2.2.2 (i + 2))).2) := by
    have q : op_machine w h n (mx K I) (g.2.2.2.2.2 (i + 1)) (g.2.2.2.2.2 (i + 2)) = ((op_machine w h n I (g.2.2.2.2.2 (i + 1)) (g.2.2.2.2.2 (i + 2))).1, mx K (op_machine w h n I (g.2.2.2.2.2 (i + 1)) (g.2.2.2.2.2 (i + 2))).2) := x_op_machine
    rw [← mx_eq hhi] at q
    exact q
  have hc : mm_Ci g zX12_machine (d - 1) [.ref 200, .int (g.2.2.2.2.2 (i + 1)), .int (g.2.2.2.2.2 (i + 2))] sh_S K (op_machine w h n I (g.2.2.2.2.2 (i + 1)) (g.2.2.2.2.2 (i + 2))).1 (mx K (op_machine w h n I (g.2.2.2.2.2 (i + 1)) (g.2.2.2.2.2 (i + 2))).2) := by
    have q : mm_Ci g zX12_machine (d - 1) [.ref 200, .int (g.2.2.2.2.2 (i + 1)), .int (g.2.2.2.2.2 (i + 2))] sh_S K (op_machine w h n K (g.2.2.2.2.2 (i + 1)) (g.2.2.2.2.2 (i + 2))).1 (op_machine w h n K (g.2.2.2.2.2 (i + 1)) (g.2.2.2.2.2 (i + 2))).2 := cm_machine (by rw [e201]; exact hS.1.1.1) (by rw [e201]; exact hV.2.2.2.1.2.1) hV.2.2.2.2.1.1 (by omega)
    rw [ex] at q
    exact q
  refine mm_cV2i (dz := d - 1) dL_law_611 rfl mzX12_machine ml_L_67 imX12_machine (by omega) so_200 ⟨rfl, rfl⟩ hc (Nat.le_of_ble_eq_true rfl) hAM ?_
  refine mm_at (pc' := 614) rfl ?_
  exact mm_icmp_eq (tgt := 1394) dL_law_614 (by decide) (fun _ => hk _ (RC_mx hR)) (fun q => absurd he q)
set_option maxRecDepth 100000 in
theorem lw_is {g : mm_G} {d : Nat} {Al Mt : Nat × Nat} {I : mm_I} {i : Nat} {Q : Option Value → mm_Sh → mm_I → Prop} (H : RC I) (hAM : Al.1 ≤ Mt.1 ∧ Al.2 ≤ Mt.2) (hi : i + 6 ≤ g.2.2.2.2.1) (hL : g.2.2.2.2.1 ≤ 3072) (hd : 161 ≤ d) (hk : ∀ I2, RC I2 → mm_Ex g zL_law d Al Mt sh_S I2 1394 [(3, .int (nI i)), (0, .ref (mm_KB + 0)), (1, .ref 0), (2, .ref 200)] [] Q) : mm_Ex g zL_law d Al Mt sh_S I 619 [(3, .int (nI i)), (0, .ref (mm_KB + 0)), (1, .ref 0), (2, .ref 200)] [] Q := by
  obtain ⟨w, h, n, l, k, o, r, T, hS⟩ := H.1
  have hV := hS.1
  refine mm_aload_n 2 dL_law_619 rfl rfl ?_
  refine mm_aload_n 1 dL_law_620 rfl rfl ?_
  refine mm_iload_n 0 dL_law_621 rfl rfl ?_
  refine mm_iconst (v := 1) dL_law_622 rfl ?_
  refine mm_iaddN (i) (1) dL_law_623 ?_
  refine mm_at (pc' := 624) rfl ?_
  refine mm_ialdKN (i + 1) dL_law_624 rfl (by omega) (by omega) ?_
  refine mm_aload_n 1 dL_law_625 rfl rfl ?_
  refine mm_iload_n 0 dL_law_626 rfl rfl ?_
  refine mm_iconst (v := 2) dL_law_627 rfl ?_
  refine mm_iaddN (i) (2) dL_law_628 ?_
  refine mm_at (pc' := 629) rfl ?_
  refine mm_ialdKN (i + 2) dL_law_629 rfl (by omega) (by omega) ?_
  refine mm_dV2i (dz := d - 1) dL_law_630 rfl mzX11_is ml_L_68 imX11_is (by omega) so_0 ⟨rfl, rfl⟩ (cl_is H hS (by omega)) (Nat.le_of_ble_eq_true rfl) hAM (fun w_ K hK => ?_)
  obtain ⟨hhi, he, hR⟩ := hK
  have e201 : K 201 = I 201 := hhi 201 (by decide)
  have e200 : K 200 = I 200 := hhi 200 (by decide)
  refine mm_at (pc' := 633) rfl ?_
  refine mm_aload_n 3 dL_law_633 rfl rfl ?_
  refine mm_aload_n 1 dL_law_634 rfl rfl ?_
  refine mm_iload_n 0 dL_law_635 rfl rfl ?_
  refine mm_iconst (v := 1) dL_law_636 rfl ?_
  refine mm_iaddN (i) (1) dL_law_637 ?_
  refine mm_at (pc' := 638) rfl ?_
  refine mm_ialdKN (i + 1) dL_law_638 rfl (by omega) (by omega) ?_
  refine mm_aload_n 1 dL_law_639 rfl rfl ?_
  refine mm_iload_n 0 dL_law_640 rfl rfl ?_
  refine mm_iconst (v := 2) dL_law_641 rfl ?_
  refine mm_iaddN (i) (2) dL_law_642 ?_
  refine mm_at (pc' := 643) rfl ?_
  refine mm_ialdKN (i + 2) dL_law_643 rfl (by omega) (by omega) ?_
  have hc : mm_Ci g zX12_is (d - 1) [.ref 200, .int (g.2.2.2.2.2 (i + 1)), .int (g.2.2.2.2.2 (i + 2))] sh_S K (op_is n I (g.2.2.2.2.2 (i + 1)) (g.2.2.2.2.2 (i + 2))) K := by
    have q : mm_Ci g zX12_is (d - 1) [.ref 200, .int (g.2.2.2.2.2 (i + 1)), .int (g.2.2.2.2.2 (i + 2))] sh_S K (op_is n K (g.2.2.2.2.2 (i + 1)) (g.2.2.2.2.2 (i + 2))) K := cm_is (by rw [e201]; exact hV.2.2.2.1.2.1) hV.2.2.2.2.1.1 (by omega)
    have ex : op_is n K (g.2.2.2.2.2 (i + 1)) (g.2.2.2.2.2 (i + 2)) = op_is n I (g.2.2.2.2.2 (i + 1)) (g.2.2.2.2.2 (i + 2)) := by
      have q : op_is n (mx K I) (g.2.2.2.2.2 (i + 1)) (g.2.2.2.2.2 (i + 2)) = op_is n I (g.2.2.2.2.2 (i + 1)) (g.2.2.2.2.2 (i + 2)) := x_op_is
      rw [← mx_eq hhi] at q
      exact q
    rw [ex] at q
    exact q
  refine mm_cV2i (dz := d - 1) dL_law_644 rfl mzX12_is ml_L_71 imX12_is (by omega) so_200 ⟨rfl, rfl⟩ hc (Nat.le_of_ble_eq_true rfl) hAM ?_
  refine mm_at (pc' := 647) rfl ?_
  have hRK : RC K := by
    have q := RC_mx hR
    rw [← mx_eq hhi] at q
    exact q
  exact mm_icmp_eq (tgt := 1394) dL_law_647 (by decide) (fun _ => hk _ hRK) (fun q => absurd he q)
set_option maxRecDepth 100000 in
theorem lw_tune {g : mm_G} {d : Nat} {Al Mt : Nat × Nat} {I : mm_I} {i : Nat} {Q : Option Value → mm_Sh → mm_I → Prop} (H : RC I) (hAM : Al.1 ≤ Mt.1 ∧ Al.2 ≤ Mt.2) (hi : i + 6 ≤ g.2.2.2.2.1) (hL : g.2.2.2.2.1 ≤ 3072) (hd : 161 ≤ d) (hk : ∀ I2, RC I2 → mm_Ex g zL_law d Al Mt sh_S I2 1394 [(3, .int (nI i)), (0, .ref (mm_KB + 0)), (1, .ref 0), (2, .ref 200)] [] Q) : mm_Ex g zL_law d Al Mt sh_S I 652 [(3, .int (nI i)), (0, .ref (mm_KB + 0)), (1, .ref 0), (2, .ref 200)] [] Q := by
  obtain ⟨w, h, n, l, k, o, r, T, hS⟩ := H.1
  have hV := hS.1
  refine mm_aload_n 2 dL_law_652 rfl rfl ?_
  refine mm_aload_n 1 dL_law_653 rfl rfl ?_
  refine mm_iload_n 0 dL_law_654 rfl rfl ?_
  refine mm_iconst (v := 1) dL_law_655 rfl ?_
  refine mm_iaddN (i) (1) dL_law_656 ?_
  refine mm_at (pc' := 657) rfl ?_
  refine mm_ialdKN (i + 1) dL_law_657 rfl (by omega) (by omega) ?_
  refine mm_aload_n 1 dL_law_658 rfl rfl ?_
  refine mm_iload_n 0 dL_law_659 rfl rfl ?_
  refine mm_iconst (v := 2) dL_law_660 rfl ?_
  refine mm_iaddN (i) (2) dL_law_661 ?_
  refine mm_at (pc' := 662) rfl ?_
  refine mm_ialdKN (i + 2) dL_law_662 rfl (by omega) (by omega) ?_
  refine mm_aload_n 1 dL_law_663 rfl rfl ?_
  refine mm_iload_n 0 dL_law_664 rfl rfl ?_
  refine mm_iconst (v := 3) dL_law_665 rfl ?_
  refine mm_iaddN (i) (3) dL_law_666 ?_
  refine mm_at (pc' := 667) rfl ?_
  refine mm_ialdKN (i + 3) dL_law_667 rfl (by omega) (by omega) ?_
  refine mm_dV3i (dz := d - 1) dL_law_668 rfl mzX11_tune ml_L_72 imX11_tune (by omega) so_0 ⟨rfl, rfl⟩ (cl_tune H hS (by omega)) (Nat.le_of_ble_eq_true rfl) hAM (fun w_ K hK => ?_)
  obtain ⟨hhi, he, hR⟩ := hK
  have e201 : K 201 = I 201 := hhi 201 (by decide)
  have e200 : K 200 = I 200 := hhi 200 (by decide)
  refine mm_at (pc' := 671) rfl ?_
  refine mm_aload_n 3 dL_law_671 rfl rfl ?_
  refine mm_aload_n 1 dL_law_672 rfl rfl ?_
  refine mm_iload_n 0 dL_law_673 rfl rfl ?_
  refine mm_iconst (v := 1) dL_law_674 rfl ?_
  refine mm_iaddN (i) (1) dL_law_675 ?_
  refine mm_at (pc' := 676) rfl ?_
  refine mm_ialdKN (i + 1) dL_law_676 rfl (by omega) (by omega) ?_
  refine mm_aload_n 1 dL_law_677 rfl rfl ?_
  refine mm_iload_n 0 dL_law_678 rfl rfl ?_
  refine mm_iconst (v := 2) dL_law_679 rfl ?_
  refine mm_iaddN (i) (2) dL_law_680 ?_
  refine mm_at (pc' := 681) rfl ?_
  refine mm_ialdKN (i + 2) dL_law_681 rfl (by omega) (by omega) ?_
  refine mm_aload_n 1 dL_law_682 rfl rfl ?_
  refine mm_iload_n 0 dL_law_683 rfl rfl ?_
  refine mm_iconst (v := 3) dL_law_684 rfl ?_
  refine mm_iaddN (i) (3) dL_law_685 ?_
  refine mm_at (pc' := 686) rfl ?_
  refine mm_ialdKN (i + 3) dL_law_686 rfl (by omega) (by omega) ?_
  have ex : op_tune n K (g.2.2.2.2.2 (i + 1)) (g.2.2.2.2.2 (i + 2)) (g.2.2.2.2.2 (i + 3)) = ((op_tune n I (g.2.2.2.2.2 (i + 1)) (g.2.2.2.2.2 (i + 2)) (g.2.2.2.2.2 (i + 3))).1, mx K (op_tune n I (g.2.2.2.2.2 (i + 1)) (g.2.2.2.2.2 (i + 2)) (g.2.2.2.2.2 (i + 3))).2) := by
    have q : op_tune n (mx K I) (g.2.2.2.2.2 (i + 1)) (g.2.2.2.2.2 (i + 2)) (g.2.2.2.2.2 (i + 3)) = ((op_tune n I (g.2.2.2.2.2 (i + 1)) (g.2.2.2.2.2 (i + 2)) (g.2.2.2.2.2 (i + 3))).1, mx K (op_tune n I (g.2.2.2.2.2 (i + 1)) (g.2.2.2.2.2 (i + 2)) (g.2.2.2.2.2 (i + 3))).2) := x_op_tune
    rw [← mx_eq hhi] at q
    exact q
  have hc : mm_Ci g zX12_tune (d - 1) [.ref 200, .int (g.2.2.2.2.2 (i + 1)), .int (g.2.2.2.2.2 (i + 2)), .int (g.2.2.2.2.2 (i + 3))] sh_S K (op_tune n I (g.2.2.2.2.2 (i + 1)) (g.2.2.2.2.2 (i + 2)) (g.2.2.2.2.2 (i + 3))).1 (mx K (op_tune n I (g.2.2.2.2.2 (i + 1)) (g.2.2.2.2.2 (i + 2)) (g.2.2.2.2.2 (i + 3))).2) := by
    have q : mm_Ci g zX12_tune (d - 1) [.ref 200, .int (g.2.2.2.2.2 (i + 1)), .int (g.2.2.2.2.2 (i + 2)), .int (g.2.2.2.2.2 (i + 3))] sh_S K (op_tune n K (g.2.2.2.2.2 (i + 1)) (g.2.2.2.2.2 (i + 2)) (g.2.2.2.2.2 (i + 3))).1 (op_tune n K (g.2.2.2.2.2 (i + 1)) (g.2.2.2.2.2 (i + 2)) (g.2.2.2.2.2 (i + 3))).2 := cm_tune (by rw [e201]; exact hV.2.2.2.1.2.1) hV.2.2.2.2.1.1 (by omega)
    rw [ex] at q
    exact q
  refine mm_cV3i (dz := d - 1) dL_law_687 rfl mzX12_tune ml_L_75 imX12_tune (by omega) so_200 ⟨rfl, rfl⟩ hc (Nat.le_of_ble_eq_true rfl) hAM ?_
  refine mm_at (pc' := 690) rfl ?_
  exact mm_icmp_eq (tgt := 1394) dL_law_690 (by decide) (fun _ => hk _ (RC_mx hR)) (fun q => absurd he q)
set_option maxRecDepth 100000 in
theorem lw_has {g : mm_G} {d : Nat} {Al Mt : Nat × Nat} {I : mm_I} {i : Nat} {Q : Option Value → mm_Sh → mm_I → Prop} (H : RC I) (hAM : Al.1 ≤ Mt.1 ∧ Al.2 ≤ Mt.2) (hi : i + 6 ≤ g.2.2.2.2.1) (hL : g.2.2.2.2.1 ≤ 3072) (hd : 161 ≤ d) (hk : ∀ I2, RC I2 → mm_Ex g zL_law d Al Mt sh_S I2 1394 [(3, .int (nI i)), (0, .ref (mm_KB + 0)), (1, .ref 0), (2, .ref 200)] [] Q) : mm_Ex g zL_law d Al Mt sh_S I 695 [(3, .int (nI i)), (0, .ref (mm_KB + 0)), (1, .ref 0), (2, .ref 200)] [] Q := by
  obtain ⟨w, h, n, l, k, o, r, T, hS⟩ := H.1
  have hV := hS.1
  refine mm_aload_n 2 dL_law_695 rfl rfl ?_
  refine mm_aload_n 1 dL_law_696 rfl rfl ?_
  refine mm_iload_n 0 dL_law_697 rfl rfl ?_
  refine mm_iconst (v := 1) dL_law_698 rfl ?_
  refine mm_iaddN (i) (1) dL_law_699 ?_
  refine mm_at (pc' := 700) rfl ?_
  refine mm_ialdKN (i + 1) dL_law_700 rfl (by omega) (by omega) ?_
  refine mm_aload_n 1 dL_law_701 rfl rfl ?_
  refine mm_iload_n 0 dL_law_702 rfl rfl ?_
  refine mm_iconst (v := 2) dL_law_703 rfl ?_
  refine mm_iaddN (i) (2) dL_law_704 ?_
  refine mm_at (pc' := 705) rfl ?_
  refine mm_ialdKN (i + 2) dL_law_705 rfl (by omega) (by omega) ?_
  refine mm_dV2i (dz := d - 1) dL_law_706 rfl mzX11_has ml_L_76 imX11_has (by omega) so_0 ⟨rfl, rfl⟩ (cl_has H hS (by omega)) (Nat.le_of_ble_eq_true rfl) hAM (fun w_ K hK => ?_)
  obtain ⟨hhi, he, hR⟩ := hK
  have e201 : K 201 = I 201 := hhi 201 (by decide)
  have e200 : K 200 = I 200 := hhi 200 (by decide)
  refine mm_at (pc' := 709) rfl ?_
  refine mm_aload_n 3 dL_law_709 rfl rfl ?_
  refine mm_aload_n 1 dL_law_710 rfl rfl ?_
  refine mm_iload_n 0 dL_law_711 rfl rfl ?_
  refine mm_iconst (v := 1) dL_law_712 rfl ?_
  refine mm_iaddN (i) (1) dL_law_713 ?_
  refine mm_at (pc' := 714) rfl ?_
  refine mm_ialdKN (i + 1) dL_law_714 rfl (by omega) (by omega) ?_
  refine mm_aload_n 1 dL_law_715 rfl rfl ?_
  refine mm_iload_n 0 dL_law_716 rfl rfl ?_
  refine mm_iconst (v := 2) dL_law_717 rfl ?_
  refine mm_iaddN (i) (2) dL_law_718 ?_
  refine mm_at (pc' := 719) rfl ?_
  refine mm_ialdKN (i + 2) dL_law_719 rfl (by omega) (by omega) ?_
  have hc : mm_Ci g zX12_has (d - 1) [.ref 200, .int (g.2.2.2.2.2 (i + 1)), .int (g.2.2.2.2.2 (i + 2))] sh_S K (op_has n I (g.2.2.2.2.2 (i + 1)) (g.2.2.2.2.2 (i + 2))) K := by
    have q : mm_Ci g zX12_has (d - 1) [.ref 200, .int (g.2.2.2.2.2 (i + 1)), .int (g.2.2.2.2.2 (i + 2))] sh_S K (op_has n K (g.2.2.2.2.2 (i + 1)) (g.2.2.2.2.2 (i + 2))) K := cm_has (by rw [e201]; exact hV.2.2.2.1.2.1) hV.2.2.2.2.1.1 (by omega)
    have ex : op_has n K (g.2.2.2.2.2 (i + 1)) (g.2.2.2.2.2 (i + 2)) = op_has n I (g.2.2.2.2.2 (i + 1)) (g.2.2.2.2.2 (i + 2)) := by
      have q : op_has n (mx K I) (g.2.2.2.2.2 (i + 1)) (g.2.2.2.2.2 (i + 2)) = op_has n I (g.2.2.2.2.2 (i + 1)) (g.2.2.2.2.2 (i + 2)) := x_op_has
      rw [← mx_eq hhi] at q
      exact q
    rw [ex] at q
    exact q
  refine mm_cV2i (dz := d - 1) dL_law_720 rfl mzX12_has ml_L_79 imX12_has (by omega) so_200 ⟨rfl, rfl⟩ hc (Nat.le_of_ble_eq_true rfl) hAM ?_
  refine mm_at (pc' := 723) rfl ?_
  have hRK : RC K := by
    have q := RC_mx hR
    rw [← mx_eq hhi] at q
    exact q
  exact mm_icmp_eq (tgt := 1394) dL_law_723 (by decide) (fun _ => hk _ hRK) (fun q => absurd he q)
set_option maxRecDepth 100000 in
theorem lw_feed {g : mm_G} {d : Nat} {Al Mt : Nat × Nat} {I : mm_I} {i : Nat} {Q : Option Value → mm_Sh → mm_I → Prop} (H : RC I) (hAM : Al.1 ≤ Mt.1 ∧ Al.2 ≤ Mt.2) (hi : i + 6 ≤ g.2.2.2.2.1) (hL : g.2.2.2.2.1 ≤ 3072) (hd : 161 ≤ d) (hk : ∀ I2, RC I2 → mm_Ex g zL_law d Al Mt sh_S I2 1394 [(3, .int (nI i)), (0, .ref (mm_KB + 0)), (1, .ref 0), (2, .ref 200)] [] Q) : mm_Ex g zL_law d Al Mt sh_S I 728 [(3, .int (nI i)), (0, .ref (mm_KB + 0)), (1, .ref 0), (2, .ref 200)] [] Q := by
  obtain ⟨w, h, n, l, k, o, r, T, hS⟩ := H.1
  have hV := hS.1
  obtain ⟨t, ht⟩ := H.2.2.1
  refine mm_aload_n 2 dL_law_728 rfl rfl ?_
  refine mm_aload_n 1 dL_law_729 rfl rfl ?_
  refine mm_iload_n 0 dL_law_730 rfl rfl ?_
  refine mm_iconst (v := 1) dL_law_731 rfl ?_
  refine mm_iaddN (i) (1) dL_law_732 ?_
  refine mm_at (pc' := 733) rfl ?_
  refine mm_ialdKN (i + 1) dL_law_733 rfl (by omega) (by omega) ?_
  refine mm_aload_n 1 dL_law_734 rfl rfl ?_
  refine mm_iload_n 0 dL_law_735 rfl rfl ?_
  refine mm_iconst (v := 2) dL_law_736 rfl ?_
  refine mm_iaddN (i) (2) dL_law_737 ?_
  refine mm_at (pc' := 738) rfl ?_
  refine mm_ialdKN (i + 2) dL_law_738 rfl (by omega) (by omega) ?_
  refine mm_aload_n 1 dL_law_739 rfl rfl ?_
  refine mm_iload_n 0 dL_law_740 rfl rfl ?_
  refine mm_iconst (v := 3) dL_law_741 rfl ?_
  refine mm_iaddN (i) (3) dL_law_742 ?_
  refine mm_at (pc' := 743) rfl ?_
  refine mm_ialdKN (i + 3) dL_law_743 rfl (by omega) (by omega) ?_
  refine mm_dV3i (dz := d - 1) dL_law_744 rfl mzX11_feed ml_L_80 imX11_feed (by omega) so_0 ⟨rfl, rfl⟩ (cl_feed H ht (by omega)) (Nat.le_of_ble_eq_true rfl) hAM (fun w_ K hK => ?_)
  obtain ⟨hhi, he, hR⟩ := hK
  have e201 : K 201 = I 201 := hhi 201 (by decide)
  have e200 : K 200 = I 200 := hhi 200 (by decide)
  refine mm_at (pc' := 747) rfl ?_
  refine mm_aload_n 3 dL_law_747 rfl rfl ?_
  refine mm_aload_n 1 dL_law_748 rfl rfl ?_
  refine mm_iload_n 0 dL_law_749 rfl rfl ?_
  refine mm_iconst (v := 1) dL_law_750 rfl ?_
  refine mm_iaddN (i) (1) dL_law_751 ?_
  refine mm_at (pc' := 752) rfl ?_
  refine mm_ialdKN (i + 1) dL_law_752 rfl (by omega) (by omega) ?_
  refine mm_aload_n 1 dL_law_753 rfl rfl ?_
  refine mm_iload_n 0 dL_law_754 rfl rfl ?_
  refine mm_iconst (v := 2) dL_law_755 rfl ?_
  refine mm_iaddN (i) (2) dL_law_756 ?_
  refine mm_at (pc' := 757) rfl ?_
  refine mm_ialdKN (i + 2) dL_law_757 rfl (by omega) (by omega) ?_
  refine mm_aload_n 1 dL_law_758 rfl rfl ?_
  refine mm_iload_n 0 dL_law_759 rfl rfl ?_
  refine mm_iconst (v := 3) dL_law_760 rfl ?_
  refine mm_iaddN (i) (3) dL_law_761 ?_
  refine mm_at (pc' := 762) rfl ?_
  refine mm_ialdKN (i + 3) dL_law_762 rfl (by omega) (by omega) ?_
  have ex : op_feed t K (g.2.2.2.2.2 (i + 1)) (g.2.2.2.2.2 (i + 2)) (g.2.2.2.2.2 (i + 3)) = ((op_feed t I (g.2.2.2.2.2 (i + 1)) (g.2.2.2.2.2 (i + 2)) (g.2.2.2.2.2 (i + 3))).1, mx K (op_feed t I (g.2.2.2.2.2 (i + 1)) (g.2.2.2.2.2 (i + 2)) (g.2.2.2.2.2 (i + 3))).2) := by
    have q : op_feed t (mx K I) (g.2.2.2.2.2 (i + 1)) (g.2.2.2.2.2 (i + 2)) (g.2.2.2.2.2 (i + 3)) = ((op_feed t I (g.2.2.2.2.2 (i + 1)) (g.2.2.2.2.2 (i + 2)) (g.2.2.2.2.2 (i + 3))).1, mx K (op_feed t I (g.2.2.2.2.2 (i + 1)) (g.2.2.2.2.2 (i + 2)) (g.2.2.2.2.2 (i + 3))).2) := x_op_feed
    rw [← mx_eq hhi] at q
    exact q
  have hc : mm_Ci g zX12_feed (d - 1) [.ref 200, .int (g.2.2.2.2.2 (i + 1)), .int (g.2.2.2.2.2 (i + 2)), .int (g.2.2.2.2.2 (i + 3))] sh_S K (op_feed t I (g.2.2.2.2.2 (i + 1)) (g.2.2.2.2.2 (i + 2)) (g.2.2.2.2.2 (i + 3))).1 (mx K (op_feed t I (g.2.2.2.2.2 (i + 1)) (g.2.2.2.2.2 (i + 2)) (g.2.2.2.2.2 (i + 3))).2) := by
    have q : mm_Ci g zX12_feed (d - 1) [.ref 200, .int (g.2.2.2.2.2 (i + 1)), .int (g.2.2.2.2.2 (i + 2)), .int (g.2.2.2.2.2 (i + 3))] sh_S K (op_feed t K (g.2.2.2.2.2 (i + 1)) (g.2.2.2.2.2 (i + 2)) (g.2.2.2.2.2 (i + 3))).1 (op_feed t K (g.2.2.2.2.2 (i + 1)) (g.2.2.2.2.2 (i + 2)) (g.2.2.2.2.2 (i + 3))).2 := cm_feed (by rw [e200]; exact ht.2.1) ht.2.2.2.1
    rw [ex] at q
    exact q
  refine mm_cV3i (dz := d - 1) dL_law_763 rfl mzX12_feed ml_L_83 imX12_feed (by omega) so_200 ⟨rfl, rfl⟩ hc (Nat.le_of_ble_eq_true rfl) hAM ?_
  refine mm_at (pc' := 766) rfl ?_
  exact mm_icmp_eq (tgt := 1394) dL_law_766 (by decide) (fun _ => hk _ (RC_mx hR)) (fun q => absurd he q)
set_option maxRecDepth 100000 in
theorem lw_trim {g : mm_G} {d : Nat} {Al Mt : Nat × Nat} {I : mm_I} {i : Nat} {Q : Option Value → mm_Sh → mm_I → Prop} (H : RC I) (hAM : Al.1 ≤ Mt.1 ∧ Al.2 ≤ Mt.2) (hi : i + 6 ≤ g.2.2.2.2.1) (hL : g.2.2.2.2.1 ≤ 3072) (hd : 161 ≤ d) (hk : ∀ I2, RC I2 → mm_Ex g zL_law d Al Mt sh_S I2 1394 [(3, .int (nI i)), (0, .ref (mm_KB + 0)), (1, .ref 0), (2, .ref 200)] [] Q) : mm_Ex g zL_law d Al Mt sh_S I 771 [(3, .int (nI i)), (0, .ref (mm_KB + 0)), (1, .ref 0), (2, .ref 200)] [] Q := by
  obtain ⟨w, h, n, l, k, o, r, T, hS⟩ := H.1
  have hV := hS.1
  obtain ⟨t, ht⟩ := H.2.2.1
  refine mm_aload_n 2 dL_law_771 rfl rfl ?_
  refine mm_aload_n 1 dL_law_772 rfl rfl ?_
  refine mm_iload_n 0 dL_law_773 rfl rfl ?_
  refine mm_iconst (v := 1) dL_law_774 rfl ?_
  refine mm_iaddN (i) (1) dL_law_775 ?_
  refine mm_at (pc' := 776) rfl ?_
  refine mm_ialdKN (i + 1) dL_law_776 rfl (by omega) (by omega) ?_
  refine mm_dV1i (dz := d - 1) dL_law_777 rfl mzX11_trim ml_L_84 imX11_trim (by omega) so_0 ⟨rfl, rfl⟩ (cl_trim H hS ht (by omega)) (Nat.le_of_ble_eq_true rfl) hAM (fun w_ K hK => ?_)
  obtain ⟨hhi, he, hR⟩ := hK
  have e201 : K 201 = I 201 := hhi 201 (by decide)
  have e200 : K 200 = I 200 := hhi 200 (by decide)
  refine mm_at (pc' := 780) rfl ?_
  refine mm_aload_n 3 dL_law_780 rfl rfl ?_
  refine mm_aload_n 1 dL_law_781 rfl rfl ?_
  refine mm_iload_n 0 dL_law_782 rfl rfl ?_
  refine mm_iconst (v := 1) dL_law_783 rfl ?_
  refine mm_iaddN (i) (1) dL_law_784 ?_
  refine mm_at (pc' := 785) rfl ?_
  refine mm_ialdKN (i + 1) dL_law_785 rfl (by omega) (by omega) ?_
  have ex : op_trim t K (g.2.2.2.2.2 (i + 1)) = ((op_trim t I (g.2.2.2.2.2 (i + 1))).1, mx K (op_trim t I (g.2.2.2.2.2 (i + 1))).2) := by
    have q : op_trim t (mx K I) (g.2.2.2.2.2 (i + 1)) = ((op_trim t I (g.2.2.2.2.2 (i + 1))).1, mx K (op_trim t I (g.2.2.2.2.2 (i + 1))).2) := x_op_trim
    rw [← mx_eq hhi] at q
    exact q
  have hc : mm_Ci g zX12_trim (d - 1) [.ref 200, .int (g.2.2.2.2.2 (i + 1))] sh_S K (op_trim t I (g.2.2.2.2.2 (i + 1))).1 (mx K (op_trim t I (g.2.2.2.2.2 (i + 1))).2) := by
    have q : mm_Ci g zX12_trim (d - 1) [.ref 200, .int (g.2.2.2.2.2 (i + 1))] sh_S K (op_trim t K (g.2.2.2.2.2 (i + 1))).1 (op_trim t K (g.2.2.2.2.2 (i + 1))).2 := cm_trim (by rw [e200]; exact ht.2.1) (by omega)
    rw [ex] at q
    exact q
  refine mm_cV1i (dz := d - 1) dL_law_786 rfl mzX12_trim ml_L_87 imX12_trim (by omega) so_200 ⟨rfl, rfl⟩ hc (Nat.le_of_ble_eq_true rfl) hAM ?_
  refine mm_at (pc' := 789) rfl ?_
  exact mm_icmp_eq (tgt := 1394) dL_law_789 (by decide) (fun _ => hk _ (RC_mx hR)) (fun q => absurd he q)
set_option maxRecDepth 100000 in
theorem lw_program {g : mm_G} {d : Nat} {Al Mt : Nat × Nat} {I : mm_I} {i : Nat} {Q : Option Value → mm_Sh → mm_I → Prop} (H : RC I) (hAM : Al.1 ≤ Mt.1 ∧ Al.2 ≤ Mt.2) (hi : i + 6 ≤ g.2.2.2.2.1) (hL : g.2.2.2.2.1 ≤ 3072) (hd : 161 ≤ d) (hk : ∀ I2, RC I2 → mm_Ex g zL_law d Al Mt sh_S I2 1394 [(3, .int (nI i)), (0, .ref (mm_KB + 0)), (1, .ref 0), (2, .ref 200)] [] Q) : mm_Ex g zL_law d Al Mt sh_S I 794 [(3, .int (nI i)), (0, .ref (mm_KB + 0)), (1, .ref 0), (2, .ref 200)] [] Q := by
  obtain ⟨w, h, n, l, k, o, r, T, hS⟩ := H.1
  have hV := hS.1
  obtain ⟨t, ht⟩ := H.2.2.1
  refine mm_aload_n 2 dL_law_794 rfl rfl ?_
  refine mm_aload_n 1 dL_law_795 rfl rfl ?_
  refine mm_iload_n 0 dL_law_796 rfl rfl ?_
  refine mm_iconst (v := 1) dL_law_797 rfl ?_
  refine mm_iaddN (i) (1) dL_law_798 ?_
  refine mm_at (pc' := 799) rfl ?_
  refine mm_ialdKN (i + 1) dL_law_799 rfl (by omega) (by omega) ?_
  refine mm_dV1i (dz := d - 1) dL_law_800 rfl mzX11_program ml_L_88 imX11_program (by omega) so_0 ⟨rfl, rfl⟩ (cl_program H hS ht (by omega)) (Nat.le_of_ble_eq_true rfl) hAM (fun w_ K hK => ?_)
  obtain ⟨hhi, he, hR⟩ := hK
  have e201 : K 201 = I 201 := hhi 201 (by decide)
  have e200 : K 200 = I 200 := hhi 200 (by decide)
  refine mm_at (pc' := 803) rfl ?_
  refine mm_aload_n 3 dL_law_803 rfl rfl ?_
  refine mm_aload_n 1 dL_law_804 rfl rfl ?_
  refine mm_iload_n 0 dL_law_805 rfl rfl ?_
  refine mm_iconst (v := 1) dL_law_806 rfl ?_
  refine mm_iaddN (i) (1) dL_law_807 ?_
  refine mm_at (pc' := 808) rfl ?_
  refine mm_ialdKN (i + 1) dL_law_808 rfl (by omega) (by omega) ?_
  have ex : op_program n t K (g.2.2.2.2.2 (i + 1)) = ((op_program n t I (g.2.2.2.2.2 (i + 1))).1, mx K (op_program n t I (g.2.2.2.2.2 (i + 1))).2) := by
    have q : op_program n t (mx K I) (g.2.2.2.2.2 (i + 1)) = ((op_program n t I (g.2.2.2.2.2 (i + 1))).1, mx K (op_program n t I (g.2.2.2.2.2 (i + 1))).2) := x_op_program
    rw [← mx_eq hhi] at q
    exact q
  have hc : mm_Ci g zX12_program (d - 1) [.ref 200, .int (g.2.2.2.2.2 (i + 1))] sh_S K (op_program n t I (g.2.2.2.2.2 (i + 1))).1 (mx K (op_program n t I (g.2.2.2.2.2 (i + 1))).2) := by
    have q : mm_Ci g zX12_program (d - 1) [.ref 200, .int (g.2.2.2.2.2 (i + 1))] sh_S K (op_program n t K (g.2.2.2.2.2 (i + 1))).1 (op_program n t K (g.2.2.2.2.2 (i + 1))).2 := cm_program (by rw [e201]; exact hV.2.2.2.1.2.1) hV.2.2.2.2.1.1 (by rw [e200]; exact ht.2.1) (by rw [hhi 203 (by decide)]; exact ht.2.2.2) (by omega)
    rw [ex] at q
    exact q
  refine mm_cV1i (dz := d - 1) dL_law_809 rfl mzX12_program ml_L_91 imX12_program (by omega) so_200 ⟨rfl, rfl⟩ hc (Nat.le_of_ble_eq_true rfl) hAM ?_
  refine mm_at (pc' := 812) rfl ?_
  exact mm_icmp_eq (tgt := 1394) dL_law_812 (by decide) (fun _ => hk _ (RC_mx hR)) (fun q => absurd he q)
set_option maxRecDepth 100000 in
theorem lw_send {g : mm_G} {d : Nat} {Al Mt : Nat × Nat} {I : mm_I} {i : Nat} {Q : Option Value → mm_Sh → mm_I → Prop} (H : RC I) (hAM : Al.1 ≤ Mt.1 ∧ Al.2 ≤ Mt.2) (hi : i + 6 ≤ g.2.2.2.2.1) (hL : g.2.2.2.2.1 ≤ 3072) (hd : 161 ≤ d) (hk : ∀ I2, RC I2 → mm_Ex g zL_law d Al Mt sh_S I2 1394 [(3, .int (nI i)), (0, .ref (mm_KB + 0)), (1, .ref 0), (2, .ref 200)] [] Q) : mm_Ex g zL_law d Al Mt sh_S I 817 [(3, .int (nI i)), (0, .ref (mm_KB + 0)), (1, .ref 0), (2, .ref 200)] [] Q := by
  obtain ⟨w, h, n, l, k, o, r, T, hS⟩ := H.1
  have hV := hS.1
  refine mm_aload_n 2 dL_law_817 rfl rfl ?_
  refine mm_aload_n 1 dL_law_818 rfl rfl ?_
  refine mm_iload_n 0 dL_law_819 rfl rfl ?_
  refine mm_iconst (v := 1) dL_law_820 rfl ?_
  refine mm_iaddN (i) (1) dL_law_821 ?_
  refine mm_at (pc' := 822) rfl ?_
  refine mm_ialdKN (i + 1) dL_law_822 rfl (by omega) (by omega) ?_
  refine mm_aload_n 1 dL_law_823 rfl rfl ?_
  refine mm_iload_n 0 dL_law_824 rfl rfl ?_
  refine mm_iconst (v := 2) dL_law_825 rfl ?_
  refine mm_iaddN (i) (2) dL_law_826 ?_
  refine mm_at (pc' := 827) rfl ?_
  refine mm_ialdKN (i + 2) dL_law_827 rfl (by omega) (by omega) ?_
  refine mm_dV2i (dz := d - 1) dL_law_828 rfl mzX11_send ml_L_92 imX11_send (by omega) so_0 ⟨rfl, rfl⟩ (cl_send H hS (by omega)) (Nat.le_of_ble_eq_true rfl) hAM (fun w_ K hK => ?_)
  obtain ⟨hhi, he, hR⟩ := hK
  have e201 : K 201 = I 201 := hhi 201 (by decide)
  have e200 : K 200 = I 200 := hhi 200 (by decide)
  refine mm_at (pc' := 831) rfl ?_
  refine mm_aload_n 3 dL_law_831 rfl rfl ?_
  refine mm_aload_n 1 dL_law_832 rfl rfl ?_
  refine mm_iload_n 0 dL_law_833 rfl rfl ?_
  refine mm_iconst (v := 1) dL_law_834 rfl ?_
  refine mm_iaddN (i) (1) dL_law_835 ?_
  refine mm_at (pc' := 836) rfl ?_
  refine mm_ialdKN (i + 1) dL_law_836 rfl (by omega) (by omega) ?_
  refine mm_aload_n 1 dL_law_837 rfl rfl ?_
  refine mm_iload_n 0 dL_law_838 rfl rfl ?_
  refine mm_iconst (v := 2) dL_law_839 rfl ?_
  refine mm_iaddN (i) (2) dL_law_840 ?_
  refine mm_at (pc' := 841) rfl ?_
  refine mm_ialdKN (i + 2) dL_law_841 rfl (by omega) (by omega) ?_
  have ex : op_send n o K (g.2.2.2.2.2 (i + 1)) (g.2.2.2.2.2 (i + 2)) = ((op_send n o I (g.2.2.2.2.2 (i + 1)) (g.2.2.2.2.2 (i + 2))).1, mx K (op_send n o I (g.2.2.2.2.2 (i + 1)) (g.2.2.2.2.2 (i + 2))).2) := by
    have q : op_send n o (mx K I) (g.2.2.2.2.2 (i + 1)) (g.2.2.2.2.2 (i + 2)) = ((op_send n o I (g.2.2.2.2.2 (i + 1)) (g.2.2.2.2.2 (i + 2))).1, mx K (op_send n o I (g.2.2.2.2.2 (i + 1)) (g.2.2.2.2.2 (i + 2))).2) := x_op_send
    rw [← mx_eq hhi] at q
    exact q
  have hc : mm_Ci g zX12_send (d - 1) [.ref 200, .int (g.2.2.2.2.2 (i + 1)), .int (g.2.2.2.2.2 (i + 2))] sh_S K (op_send n o I (g.2.2.2.2.2 (i + 1)) (g.2.2.2.2.2 (i + 2))).1 (mx K (op_send n o I (g.2.2.2.2.2 (i + 1)) (g.2.2.2.2.2 (i + 2))).2) := by
    have q : mm_Ci g zX12_send (d - 1) [.ref 200, .int (g.2.2.2.2.2 (i + 1)), .int (g.2.2.2.2.2 (i + 2))] sh_S K (op_send n o K (g.2.2.2.2.2 (i + 1)) (g.2.2.2.2.2 (i + 2))).1 (op_send n o K (g.2.2.2.2.2 (i + 1)) (g.2.2.2.2.2 (i + 2))).2 := cm_send (by rw [e201]; exact hV.2.2.2.1.2.1) hV.2.2.2.2.1.1 (by rw [e201]; exact hV.2.2.2.1.2.2.1) hV.2.2.2.2.1.2.2.2 (by omega)
    rw [ex] at q
    exact q
  refine mm_cV2i (dz := d - 1) dL_law_842 rfl mzX12_send ml_L_95 imX12_send (by omega) so_200 ⟨rfl, rfl⟩ hc (Nat.le_of_ble_eq_true rfl) hAM ?_
  refine mm_at (pc' := 845) rfl ?_
  exact mm_icmp_eq (tgt := 1394) dL_law_845 (by decide) (fun _ => hk _ (RC_mx hR)) (fun q => absurd he q)
set_option maxRecDepth 100000 in
theorem lw_order {g : mm_G} {d : Nat} {Al Mt : Nat × Nat} {I : mm_I} {i : Nat} {Q : Option Value → mm_Sh → mm_I → Prop} (H : RC I) (hAM : Al.1 ≤ Mt.1 ∧ Al.2 ≤ Mt.2) (hi : i + 6 ≤ g.2.2.2.2.1) (hL : g.2.2.2.2.1 ≤ 3072) (hd : 161 ≤ d) (hk : ∀ I2, RC I2 → mm_Ex g zL_law d Al Mt sh_S I2 1394 [(3, .int (nI i)), (0, .ref (mm_KB + 0)), (1, .ref 0), (2, .ref 200)] [] Q) : mm_Ex g zL_law d Al Mt sh_S I 850 [(3, .int (nI i)), (0, .ref (mm_KB + 0)), (1, .ref 0), (2, .ref 200)] [] Q := by
  obtain ⟨w, h, n, l, k, o, r, T, hS⟩ := H.1
  have hV := hS.1
  refine mm_aload_n 2 dL_law_850 rfl rfl ?_
  refine mm_aload_n 1 dL_law_851 rfl rfl ?_
  refine mm_iload_n 0 dL_law_852 rfl rfl ?_
  refine mm_iconst (v := 1) dL_law_853 rfl ?_
  refine mm_iaddN (i) (1) dL_law_854 ?_
  refine mm_at (pc' := 855) rfl ?_
  refine mm_ialdKN (i + 1) dL_law_855 rfl (by omega) (by omega) ?_
  refine mm_aload_n 1 dL_law_856 rfl rfl ?_
  refine mm_iload_n 0 dL_law_857 rfl rfl ?_
  refine mm_iconst (v := 2) dL_law_858 rfl ?_
  refine mm_iaddN (i) (2) dL_law_859 ?_
  refine mm_at (pc' := 860) rfl ?_
  refine mm_ialdKN (i + 2) dL_law_860 rfl (by omega) (by omega) ?_
  refine mm_dV2i (dz := d - 1) dL_law_861 rfl mzX11_order ml_L_96 imX11_order (by omega) so_0 ⟨rfl, rfl⟩ (cl_order H hS (by omega)) (Nat.le_of_ble_eq_true rfl) hAM (fun w_ K hK => ?_)
  obtain ⟨hhi, he, hR⟩ := hK
  have e201 : K 201 = I 201 := hhi 201 (by decide)
  have e200 : K 200 = I 200 := hhi 200 (by decide)
  refine mm_at (pc' := 864) rfl ?_
  refine mm_aload_n 3 dL_law_864 rfl rfl ?_
  refine mm_aload_n 1 dL_law_865 rfl rfl ?_
  refine mm_iload_n 0 dL_law_866 rfl rfl ?_
  refine mm_iconst (v := 1) dL_law_867 rfl ?_
  refine mm_iaddN (i) (1) dL_law_868 ?_
  refine mm_at (pc' := 869) rfl ?_
  refine mm_ialdKN (i + 1) dL_law_869 rfl (by omega) (by omega) ?_
  refine mm_aload_n 1 dL_law_870 rfl rfl ?_
  refine mm_iload_n 0 dL_law_871 rfl rfl ?_
  refine mm_iconst (v := 2) dL_law_872 rfl ?_
  refine mm_iaddN (i) (2) dL_law_873 ?_
  refine mm_at (pc' := 874) rfl ?_
  refine mm_ialdKN (i + 2) dL_law_874 rfl (by omega) (by omega) ?_
  have hc : mm_Ci g zX12_order (d - 1) [.ref 200, .int (g.2.2.2.2.2 (i + 1)), .int (g.2.2.2.2.2 (i + 2))] sh_S K (op_order o I (g.2.2.2.2.2 (i + 1)) (g.2.2.2.2.2 (i + 2))) K := by
    have q : mm_Ci g zX12_order (d - 1) [.ref 200, .int (g.2.2.2.2.2 (i + 1)), .int (g.2.2.2.2.2 (i + 2))] sh_S K (op_order o K (g.2.2.2.2.2 (i + 1)) (g.2.2.2.2.2 (i + 2))) K := cm_order (by rw [e201]; exact hV.2.2.2.1.2.2.1) hV.2.2.2.2.1.2.2.2 (by omega)
    have ex : op_order o K (g.2.2.2.2.2 (i + 1)) (g.2.2.2.2.2 (i + 2)) = op_order o I (g.2.2.2.2.2 (i + 1)) (g.2.2.2.2.2 (i + 2)) := by
      have q : op_order o (mx K I) (g.2.2.2.2.2 (i + 1)) (g.2.2.2.2.2 (i + 2)) = op_order o I (g.2.2.2.2.2 (i + 1)) (g.2.2.2.2.2 (i + 2)) := x_op_order
      rw [← mx_eq hhi] at q
      exact q
    rw [ex] at q
    exact q
  refine mm_cV2i (dz := d - 1) dL_law_875 rfl mzX12_order ml_L_99 imX12_order (by omega) so_200 ⟨rfl, rfl⟩ hc (Nat.le_of_ble_eq_true rfl) hAM ?_
  refine mm_at (pc' := 878) rfl ?_
  have hRK : RC K := by
    have q := RC_mx hR
    rw [← mx_eq hhi] at q
    exact q
  exact mm_icmp_eq (tgt := 1394) dL_law_878 (by decide) (fun _ => hk _ hRK) (fun q => absurd he q)
set_option maxRecDepth 100000 in
theorem lw_run {g : mm_G} {d : Nat} {Al Mt : Nat × Nat} {I : mm_I} {i : Nat} {Q : Option Value → mm_Sh → mm_I → Prop} (H : RC I) (hAM : Al.1 ≤ Mt.1 ∧ Al.2 ≤ Mt.2) (hi : i + 6 ≤ g.2.2.2.2.1) (hL : g.2.2.2.2.1 ≤ 3072) (hd : 161 ≤ d) (hk : ∀ I2, RC I2 → mm_Ex g zL_law d Al Mt sh_S I2 1394 [(3, .int (nI i)), (0, .ref (mm_KB + 0)), (1, .ref 0), (2, .ref 200)] [] Q) : mm_Ex g zL_law d Al Mt sh_S I 883 [(3, .int (nI i)), (0, .ref (mm_KB + 0)), (1, .ref 0), (2, .ref 200)] [] Q := by
  obtain ⟨w, h, n, l, k, o, r, T, hS⟩ := H.1
  have hV := hS.1
  refine mm_aload_n 2 dL_law_883 rfl rfl ?_
  refine mm_aload_n 1 dL_law_884 rfl rfl ?_
  refine mm_iload_n 0 dL_law_885 rfl rfl ?_
  refine mm_iconst (v := 1) dL_law_886 rfl ?_
  refine mm_iaddN (i) (1) dL_law_887 ?_
  refine mm_at (pc' := 888) rfl ?_
  refine mm_ialdKN (i + 1) dL_law_888 rfl (by omega) (by omega) ?_
  refine mm_dV1i (dz := d - 1) dL_law_889 rfl mzX11_run ml_L_100 imX11_run (by omega) so_0 ⟨rfl, rfl⟩ (cl_runs H hS (by omega)) (Nat.le_of_ble_eq_true rfl) hAM (fun w_ K hK => ?_)
  obtain ⟨hhi, he, hR⟩ := hK
  have e201 : K 201 = I 201 := hhi 201 (by decide)
  have e200 : K 200 = I 200 := hhi 200 (by decide)
  refine mm_at (pc' := 892) rfl ?_
  refine mm_aload_n 3 dL_law_892 rfl rfl ?_
  refine mm_aload_n 1 dL_law_893 rfl rfl ?_
  refine mm_iload_n 0 dL_law_894 rfl rfl ?_
  refine mm_iconst (v := 1) dL_law_895 rfl ?_
  refine mm_iaddN (i) (1) dL_law_896 ?_
  refine mm_at (pc' := 897) rfl ?_
  refine mm_ialdKN (i + 1) dL_law_897 rfl (by omega) (by omega) ?_
  have ex : op_run w h n l K (g.2.2.2.2.2 (i + 1)) = ((op_run w h n l I (g.2.2.2.2.2 (i + 1))).1, mx K (op_run w h n l I (g.2.2.2.2.2 (i + 1))).2) := by
    have q : op_run w h n l (mx K I) (g.2.2.2.2.2 (i + 1)) = ((op_run w h n l I (g.2.2.2.2.2 (i + 1))).1, mx K (op_run w h n l I (g.2.2.2.2.2 (i + 1))).2) := x_op_run
    rw [← mx_eq hhi] at q
    exact q
  have hc : mm_Ci g zX12_run (d - 1) [.ref 200, .int (g.2.2.2.2.2 (i + 1))] sh_S K (op_run w h n l I (g.2.2.2.2.2 (i + 1))).1 (mx K (op_run w h n l I (g.2.2.2.2.2 (i + 1))).2) := by
    have q : mm_Ci g zX12_run (d - 1) [.ref 200, .int (g.2.2.2.2.2 (i + 1))] sh_S K (op_run w h n l K (g.2.2.2.2.2 (i + 1))).1 (op_run w h n l K (g.2.2.2.2.2 (i + 1))).2 := cm_run2 (rn_tk (J := K) (by rw [e201]; exact hS.1)) (by omega)
    rw [ex] at q
    exact q
  refine mm_cV1i (dz := d - 1) dL_law_898 rfl mzX12_run ml_L_103 imX12_run (by omega) so_200 ⟨rfl, rfl⟩ hc (Nat.le_of_ble_eq_true rfl) hAM ?_
  refine mm_at (pc' := 901) rfl ?_
  exact mm_icmp_eq (tgt := 1394) dL_law_901 (by decide) (fun _ => hk _ (RC_mx hR)) (fun q => absurd he q)
set_option maxRecDepth 100000 in
theorem lw_land {g : mm_G} {d : Nat} {Al Mt : Nat × Nat} {I : mm_I} {i : Nat} {Q : Option Value → mm_Sh → mm_I → Prop} (H : RC I) (hAM : Al.1 ≤ Mt.1 ∧ Al.2 ≤ Mt.2) (hi : i + 6 ≤ g.2.2.2.2.1) (hL : g.2.2.2.2.1 ≤ 3072) (hd : 161 ≤ d) (hk : ∀ I2, RC I2 → mm_Ex g zL_law d Al Mt sh_S I2 1394 [(3, .int (nI i)), (0, .ref (mm_KB + 0)), (1, .ref 0), (2, .ref 200)] [] Q) : mm_Ex g zL_law d Al Mt sh_S I 906 [(3, .int (nI i)), (0, .ref (mm_KB + 0)), (1, .ref 0), (2, .ref 200)] [] Q := by
  obtain ⟨w, h, n, l, k, o, r, T, hS⟩ := H.1
  have hV := hS.1
  refine mm_aload_n 2 dL_law_906 rfl rfl ?_
  refine mm_aload_n 1 dL_law_907 rfl rfl ?_
  refine mm_iload_n 0 dL_law_908 rfl rfl ?_
  refine mm_iconst (v := 1) dL_law_909 rfl ?_
  refine mm_iaddN (i) (1) dL_law_910 ?_
  refine mm_at (pc' := 911) rfl ?_
  refine mm_ialdKN (i + 1) dL_law_911 rfl (by omega) (by omega) ?_
  refine mm_aload_n 1 dL_law_912 rfl rfl ?_
  refine mm_iload_n 0 dL_law_913 rfl rfl ?_
  refine mm_iconst (v := 2) dL_law_914 rfl ?_
  refine mm_iaddN (i) (2) dL_law_915 ?_
  refine mm_at (pc' := 916) rfl ?_
  refine mm_ialdKN (i + 2) dL_law_916 rfl (by omega) (by omega) ?_
  refine mm_dV2i (dz := d - 1) dL_law_917 rfl mzX11_land ml_L_104 imX11_land (by omega) so_0 ⟨rfl, rfl⟩ (cl_land H hS (by omega)) (Nat.le_of_ble_eq_true rfl) hAM (fun w_ K hK => ?_)
  obtain ⟨hhi, he, hR⟩ := hK
  have e201 : K 201 = I 201 := hhi 201 (by decide)
  have e200 : K 200 = I 200 := hhi 200 (by decide)
  refine mm_at (pc' := 920) rfl ?_
  refine mm_aload_n 3 dL_law_920 rfl rfl ?_
  refine mm_aload_n 1 dL_law_921 rfl rfl ?_
  refine mm_iload_n 0 dL_law_922 rfl rfl ?_
  refine mm_iconst (v := 1) dL_law_923 rfl ?_
  refine mm_iaddN (i) (1) dL_law_924 ?_
  refine mm_at (pc' := 925) rfl ?_
  refine mm_ialdKN (i + 1) dL_law_925 rfl (by omega) (by omega) ?_
  refine mm_aload_n 1 dL_law_926 rfl rfl ?_
  refine mm_iload_n 0 dL_law_927 rfl rfl ?_
  refine mm_iconst (v := 2) dL_law_928 rfl ?_
  refine mm_iaddN (i) (2) dL_law_929 ?_
  refine mm_at (pc' := 930) rfl ?_
  refine mm_ialdKN (i + 2) dL_law_930 rfl (by omega) (by omega) ?_
  have ex : op_land w h n K (g.2.2.2.2.2 (i + 1)) (g.2.2.2.2.2 (i + 2)) = ((op_land w h n I (g.2.2.2.2.2 (i + 1)) (g.2.2.2.2.2 (i + 2))).1, mx K (op_land w h n I (g.2.2.2.2.2 (i + 1)) (g.2.2.2.2.2 (i + 2))).2) := by
    have q : op_land w h n (mx K I) (g.2.2.2.2.2 (i + 1)) (g.2.2.2.2.2 (i + 2)) = ((op_land w h n I (g.2.2.2.2.2 (i + 1)) (g.2.2.2.2.2 (i + 2))).1, mx K (op_land w h n I (g.2.2.2.2.2 (i + 1)) (g.2.2.2.2.2 (i + 2))).2) := x_op_land
    rw [← mx_eq hhi] at q
    exact q
  have hc : mm_Ci g zX12_land (d - 1) [.ref 200, .int (g.2.2.2.2.2 (i + 1)), .int (g.2.2.2.2.2 (i + 2))] sh_S K (op_land w h n I (g.2.2.2.2.2 (i + 1)) (g.2.2.2.2.2 (i + 2))).1 (mx K (op_land w h n I (g.2.2.2.2.2 (i + 1)) (g.2.2.2.2.2 (i + 2))).2) := by
    have q : mm_Ci g zX12_land (d - 1) [.ref 200, .int (g.2.2.2.2.2 (i + 1)), .int (g.2.2.2.2.2 (i + 2))] sh_S K (op_land w h n K (g.2.2.2.2.2 (i + 1)) (g.2.2.2.2.2 (i + 2))).1 (op_land w h n K (g.2.2.2.2.2 (i + 1)) (g.2.2.2.2.2 (i + 2))).2 := cm_land (by rw [e201]; exact hS.1.1.1) (by rw [e201]; exact hV.2.2.2.1.2.1) hV.2.2.2.2.1.1 (by omega)
    rw [ex] at q
    exact q
  refine mm_cV2i (dz := d - 1) dL_law_931 rfl mzX12_land ml_L_107 imX12_land (by omega) so_200 ⟨rfl, rfl⟩ hc (Nat.le_of_ble_eq_true rfl) hAM ?_
  refine mm_at (pc' := 934) rfl ?_
  exact mm_icmp_eq (tgt := 1394) dL_law_934 (by decide) (fun _ => hk _ (RC_mx hR)) (fun q => absurd he q)
set_option maxRecDepth 100000 in
theorem lw_kilos {g : mm_G} {d : Nat} {Al Mt : Nat × Nat} {I : mm_I} {i : Nat} {Q : Option Value → mm_Sh → mm_I → Prop} (H : RC I) (hAM : Al.1 ≤ Mt.1 ∧ Al.2 ≤ Mt.2) (hi : i + 6 ≤ g.2.2.2.2.1) (hL : g.2.2.2.2.1 ≤ 3072) (hd : 161 ≤ d) (hk : ∀ I2, RC I2 → mm_Ex g zL_law d Al Mt sh_S I2 1394 [(3, .int (nI i)), (0, .ref (mm_KB + 0)), (1, .ref 0), (2, .ref 200)] [] Q) : mm_Ex g zL_law d Al Mt sh_S I 939 [(3, .int (nI i)), (0, .ref (mm_KB + 0)), (1, .ref 0), (2, .ref 200)] [] Q := by
  obtain ⟨w, h, n, l, k, o, r, T, hS⟩ := H.1
  have hV := hS.1
  refine mm_aload_n 2 dL_law_939 rfl rfl ?_
  refine mm_aload_n 1 dL_law_940 rfl rfl ?_
  refine mm_iload_n 0 dL_law_941 rfl rfl ?_
  refine mm_iconst (v := 1) dL_law_942 rfl ?_
  refine mm_iaddN (i) (1) dL_law_943 ?_
  refine mm_at (pc' := 944) rfl ?_
  refine mm_ialdKN (i + 1) dL_law_944 rfl (by omega) (by omega) ?_
  refine mm_dV1i (dz := d - 1) dL_law_945 rfl mzX11_kilos ml_L_108 imX11_kilos (by omega) so_0 ⟨rfl, rfl⟩ (cl_kilos H hS (by omega)) (Nat.le_of_ble_eq_true rfl) hAM (fun w_ K hK => ?_)
  obtain ⟨hhi, he, hR⟩ := hK
  have e201 : K 201 = I 201 := hhi 201 (by decide)
  have e200 : K 200 = I 200 := hhi 200 (by decide)
  refine mm_at (pc' := 948) rfl ?_
  refine mm_aload_n 3 dL_law_948 rfl rfl ?_
  refine mm_aload_n 1 dL_law_949 rfl rfl ?_
  refine mm_iload_n 0 dL_law_950 rfl rfl ?_
  refine mm_iconst (v := 1) dL_law_951 rfl ?_
  refine mm_iaddN (i) (1) dL_law_952 ?_
  refine mm_at (pc' := 953) rfl ?_
  refine mm_ialdKN (i + 1) dL_law_953 rfl (by omega) (by omega) ?_
  have hc : mm_Ci g zX12_kilos (d - 1) [.ref 200, .int (g.2.2.2.2.2 (i + 1))] sh_S K (op_kilos w h n I (g.2.2.2.2.2 (i + 1))) K := by
    have q : mm_Ci g zX12_kilos (d - 1) [.ref 200, .int (g.2.2.2.2.2 (i + 1))] sh_S K (op_kilos w h n K (g.2.2.2.2.2 (i + 1))) K := cm_kilos (by rw [e201]; exact hS.1.1.1) (by rw [e201]; exact hV.2.2.2.1.2.1) hV.2.2.2.2.1.1 (by omega)
    have ex : op_kilos w h n K (g.2.2.2.2.2 (i + 1)) = op_kilos w h n I (g.2.2.2.2.2 (i + 1)) := by
      have q : op_kilos w h n (mx K I) (g.2.2.2.2.2 (i + 1)) = op_kilos w h n I (g.2.2.2.2.2 (i + 1)) := x_op_kilos
      rw [← mx_eq hhi] at q
      exact q
    rw [ex] at q
    exact q
  refine mm_cV1i (dz := d - 1) dL_law_954 rfl mzX12_kilos ml_L_111 imX12_kilos (by omega) so_200 ⟨rfl, rfl⟩ hc (Nat.le_of_ble_eq_true rfl) hAM ?_
  refine mm_at (pc' := 957) rfl ?_
  have hRK : RC K := by
    have q := RC_mx hR
    rw [← mx_eq hhi] at q
    exact q
  exact mm_icmp_eq (tgt := 1394) dL_law_957 (by decide) (fun _ => hk _ hRK) (fun q => absurd he q)
set_option maxRecDepth 100000 in
theorem lw_night {g : mm_G} {d : Nat} {Al Mt : Nat × Nat} {I : mm_I} {i : Nat} {Q : Option Value → mm_Sh → mm_I → Prop} (H : RC I) (hAM : Al.1 ≤ Mt.1 ∧ Al.2 ≤ Mt.2) (hi : i + 6 ≤ g.2.2.2.2.1) (hL : g.2.2.2.2.1 ≤ 3072) (hd : 161 ≤ d) (hk : ∀ I2, RC I2 → mm_Ex g zL_law d Al Mt sh_S I2 1394 [(3, .int (nI i)), (0, .ref (mm_KB + 0)), (1, .ref 0), (2, .ref 200)] [] Q) : mm_Ex g zL_law d Al Mt sh_S I 962 [(3, .int (nI i)), (0, .ref (mm_KB + 0)), (1, .ref 0), (2, .ref 200)] [] Q := by
  obtain ⟨w, h, n, l, k, o, r, T, hS⟩ := H.1
  have hV := hS.1
  refine mm_aload_n 2 dL_law_962 rfl rfl ?_
  refine mm_aload_n 1 dL_law_963 rfl rfl ?_
  refine mm_iload_n 0 dL_law_964 rfl rfl ?_
  refine mm_iconst (v := 1) dL_law_965 rfl ?_
  refine mm_iaddN (i) (1) dL_law_966 ?_
  refine mm_at (pc' := 967) rfl ?_
  refine mm_ialdKN (i + 1) dL_law_967 rfl (by omega) (by omega) ?_
  refine mm_dV1i (dz := d - 1) dL_law_968 rfl mzX11_night ml_L_112 imX11_night (by omega) so_0 ⟨rfl, rfl⟩ (cl_night H hS (by omega)) (Nat.le_of_ble_eq_true rfl) hAM (fun w_ K hK => ?_)
  obtain ⟨hhi, he, hR⟩ := hK
  have e201 : K 201 = I 201 := hhi 201 (by decide)
  have e200 : K 200 = I 200 := hhi 200 (by decide)
  refine mm_at (pc' := 971) rfl ?_
  refine mm_aload_n 3 dL_law_971 rfl rfl ?_
  refine mm_aload_n 1 dL_law_972 rfl rfl ?_
  refine mm_iload_n 0 dL_law_973 rfl rfl ?_
  refine mm_iconst (v := 1) dL_law_974 rfl ?_
  refine mm_iaddN (i) (1) dL_law_975 ?_
  refine mm_at (pc' := 976) rfl ?_
  refine mm_ialdKN (i + 1) dL_law_976 rfl (by omega) (by omega) ?_
  have hc : mm_Ci g zX12_night (d - 1) [.ref 200, .int (g.2.2.2.2.2 (i + 1))] sh_S K (op_night l I (g.2.2.2.2.2 (i + 1))) K := by
    have q : mm_Ci g zX12_night (d - 1) [.ref 200, .int (g.2.2.2.2.2 (i + 1))] sh_S K (op_night l K (g.2.2.2.2.2 (i + 1))) K := cm_night (by rw [e201]; exact hV.2.2.2.1.1) hV.2.2.2.2.1.2.1 (by omega)
    have ex : op_night l K (g.2.2.2.2.2 (i + 1)) = op_night l I (g.2.2.2.2.2 (i + 1)) := by
      have q : op_night l (mx K I) (g.2.2.2.2.2 (i + 1)) = op_night l I (g.2.2.2.2.2 (i + 1)) := x_op_night
      rw [← mx_eq hhi] at q
      exact q
    rw [ex] at q
    exact q
  refine mm_cV1i (dz := d - 1) dL_law_977 rfl mzX12_night ml_L_115 imX12_night (by omega) so_200 ⟨rfl, rfl⟩ hc (Nat.le_of_ble_eq_true rfl) hAM ?_
  refine mm_at (pc' := 980) rfl ?_
  have hRK : RC K := by
    have q := RC_mx hR
    rw [← mx_eq hhi] at q
    exact q
  exact mm_icmp_eq (tgt := 1394) dL_law_980 (by decide) (fun _ => hk _ hRK) (fun q => absurd he q)
set_option maxRecDepth 100000 in
theorem lw_cut {g : mm_G} {d : Nat} {Al Mt : Nat × Nat} {I : mm_I} {i : Nat} {Q : Option Value → mm_Sh → mm_I → Prop} (H : RC I) (hAM : Al.1 ≤ Mt.1 ∧ Al.2 ≤ Mt.2) (hi : i + 6 ≤ g.2.2.2.2.1) (hL : g.2.2.2.2.1 ≤ 3072) (hd : 161 ≤ d) (hk : ∀ I2, RC I2 → mm_Ex g zL_law d Al Mt sh_S I2 1394 [(3, .int (nI i)), (0, .ref (mm_KB + 0)), (1, .ref 0), (2, .ref 200)] [] Q) : mm_Ex g zL_law d Al Mt sh_S I 985 [(3, .int (nI i)), (0, .ref (mm_KB + 0)), (1, .ref 0), (2, .ref 200)] [] Q := by
  obtain ⟨w, h, n, l, k, o, r, T, hS⟩ := H.1
  have hV := hS.1
  refine mm_aload_n 2 dL_law_985 rfl rfl ?_
  refine mm_aload_n 1 dL_law_986 rfl rfl ?_
  refine mm_iload_n 0 dL_law_987 rfl rfl ?_
  refine mm_iconst (v := 1) dL_law_988 rfl ?_
  refine mm_iaddN (i) (1) dL_law_989 ?_
  refine mm_at (pc' := 990) rfl ?_
  refine mm_ialdKN (i + 1) dL_law_990 rfl (by omega) (by omega) ?_
  refine mm_dV1i (dz := d - 1) dL_law_991 rfl mzX11_cut ml_L_116 imX11_cut (by omega) so_0 ⟨rfl, rfl⟩ (cl_cut H hS (by omega)) (Nat.le_of_ble_eq_true rfl) hAM (fun w_ K hK => ?_)
  obtain ⟨hhi, he, hR⟩ := hK
  have e201 : K 201 = I 201 := hhi 201 (by decide)
  have e200 : K 200 = I 200 := hhi 200 (by decide)
  refine mm_at (pc' := 994) rfl ?_
  refine mm_aload_n 3 dL_law_994 rfl rfl ?_
  refine mm_aload_n 1 dL_law_995 rfl rfl ?_
  refine mm_iload_n 0 dL_law_996 rfl rfl ?_
  refine mm_iconst (v := 1) dL_law_997 rfl ?_
  refine mm_iaddN (i) (1) dL_law_998 ?_
  refine mm_at (pc' := 999) rfl ?_
  refine mm_ialdKN (i + 1) dL_law_999 rfl (by omega) (by omega) ?_
  have hc : mm_Ci g zX12_cut (d - 1) [.ref 200, .int (g.2.2.2.2.2 (i + 1))] sh_S K (op_cut l I (g.2.2.2.2.2 (i + 1))) K := by
    have q : mm_Ci g zX12_cut (d - 1) [.ref 200, .int (g.2.2.2.2.2 (i + 1))] sh_S K (op_cut l K (g.2.2.2.2.2 (i + 1))) K := cm_cut (by rw [e201]; exact hV.2.2.2.1.1) hV.2.2.2.2.1.2.1 (by omega)
    have ex : op_cut l K (g.2.2.2.2.2 (i + 1)) = op_cut l I (g.2.2.2.2.2 (i + 1)) := by
      have q : op_cut l (mx K I) (g.2.2.2.2.2 (i + 1)) = op_cut l I (g.2.2.2.2.2 (i + 1)) := x_op_cut
      rw [← mx_eq hhi] at q
      exact q
    rw [ex] at q
    exact q
  refine mm_cV1i (dz := d - 1) dL_law_1000 rfl mzX12_cut ml_L_119 imX12_cut (by omega) so_200 ⟨rfl, rfl⟩ hc (Nat.le_of_ble_eq_true rfl) hAM ?_
  refine mm_at (pc' := 1003) rfl ?_
  have hRK : RC K := by
    have q := RC_mx hR
    rw [← mx_eq hhi] at q
    exact q
  exact mm_icmp_eq (tgt := 1394) dL_law_1003 (by decide) (fun _ => hk _ hRK) (fun q => absurd he q)
set_option maxRecDepth 100000 in
theorem lw_work {g : mm_G} {d : Nat} {Al Mt : Nat × Nat} {I : mm_I} {i : Nat} {Q : Option Value → mm_Sh → mm_I → Prop} (H : RC I) (hAM : Al.1 ≤ Mt.1 ∧ Al.2 ≤ Mt.2) (hi : i + 6 ≤ g.2.2.2.2.1) (hL : g.2.2.2.2.1 ≤ 3072) (hd : 161 ≤ d) (hk : ∀ I2, RC I2 → mm_Ex g zL_law d Al Mt sh_S I2 1394 [(3, .int (nI i)), (0, .ref (mm_KB + 0)), (1, .ref 0), (2, .ref 200)] [] Q) : mm_Ex g zL_law d Al Mt sh_S I 1008 [(3, .int (nI i)), (0, .ref (mm_KB + 0)), (1, .ref 0), (2, .ref 200)] [] Q := by
  obtain ⟨w, h, n, l, k, o, r, T, hS⟩ := H.1
  have hV := hS.1
  refine mm_aload_n 2 dL_law_1008 rfl rfl ?_
  refine mm_aload_n 1 dL_law_1009 rfl rfl ?_
  refine mm_iload_n 0 dL_law_1010 rfl rfl ?_
  refine mm_iconst (v := 1) dL_law_1011 rfl ?_
  refine mm_iaddN (i) (1) dL_law_1012 ?_
  refine mm_at (pc' := 1013) rfl ?_
  refine mm_ialdKN (i + 1) dL_law_1013 rfl (by omega) (by omega) ?_
  refine mm_aload_n 1 dL_law_1014 rfl rfl ?_
  refine mm_iload_n 0 dL_law_1015 rfl rfl ?_
  refine mm_iconst (v := 2) dL_law_1016 rfl ?_
  refine mm_iaddN (i) (2) dL_law_1017 ?_
  refine mm_at (pc' := 1018) rfl ?_
  refine mm_ialdKN (i + 2) dL_law_1018 rfl (by omega) (by omega) ?_
  refine mm_aload_n 1 dL_law_1019 rfl rfl ?_
  refine mm_iload_n 0 dL_law_1020 rfl rfl ?_
  refine mm_iconst (v := 3) dL_law_1021 rfl ?_
  refine mm_iaddN (i) (3) dL_law_1022 ?_
  refine mm_at (pc' := 1023) rfl ?_
  refine mm_ialdKN (i + 3) dL_law_1023 rfl (by omega) (by omega) ?_
  refine mm_aload_n 1 dL_law_1024 rfl rfl ?_
  refine mm_iload_n 0 dL_law_1025 rfl rfl ?_
  refine mm_iconst (v := 4) dL_law_1026 rfl ?_
  refine mm_iaddN (i) (4) dL_law_1027 ?_
  refine mm_at (pc' := 1028) rfl ?_
  refine mm_ialdKN (i + 4) dL_law_1028 rfl (by omega) (by omega) ?_
  refine mm_dV4i (dz := d - 1) dL_law_1029 rfl mzX11_work ml_L_120 imX11_work (by omega) so_0 ⟨rfl, rfl⟩ (cl_work H hS (by omega)) (Nat.le_of_ble_eq_true rfl) hAM (fun w_ K hK => ?_)
  obtain ⟨hhi, he, hR⟩ := hK
  have e201 : K 201 = I 201 := hhi 201 (by decide)
  have e200 : K 200 = I 200 := hhi 200 (by decide)
  refine mm_at (pc' := 1032) rfl ?_
  refine mm_aload_n 3 dL_law_1032 rfl rfl ?_
  refine mm_aload_n 1 dL_law_1033 rfl rfl ?_
  refine mm_iload_n 0 dL_law_1034 rfl rfl ?_
  refine mm_iconst (v := 1) dL_law_1035 rfl ?_
  refine mm_iaddN (i) (1) dL_law_1036 ?_
  refine mm_at (pc' := 1037) rfl ?_
  refine mm_ialdKN (i + 1) dL_law_1037 rfl (by omega) (by omega) ?_
  refine mm_aload_n 1 dL_law_1038 rfl rfl ?_
  refine mm_iload_n 0 dL_law_1039 rfl rfl ?_
  refine mm_iconst (v := 2) dL_law_1040 rfl ?_
  refine mm_iaddN (i) (2) dL_law_1041 ?_
  refine mm_at (pc' := 1042) rfl ?_
  refine mm_ialdKN (i + 2) dL_law_1042 rfl (by omega) (by omega) ?_
  refine mm_aload_n 1 dL_law_1043 rfl rfl ?_
  refine mm_iload_n 0 dL_law_1044 rfl rfl ?_
  refine mm_iconst (v := 3) dL_law_1045 rfl ?_
  refine mm_iaddN (i) (3) dL_law_1046 ?_
  refine mm_at (pc' := 1047) rfl ?_
  refine mm_ialdKN (i + 3) dL_law_1047 rfl (by omega) (by omega) ?_
  refine mm_aload_n 1 dL_law_1048 rfl rfl ?_
  refine mm_iload_n 0 dL_law_1049 rfl rfl ?_
  refine mm_iconst (v := 4) dL_law_1050 rfl ?_
  refine mm_iaddN (i) (4) dL_law_1051 ?_
  refine mm_at (pc' := 1052) rfl ?_
  refine mm_ialdKN (i + 4) dL_law_1052 rfl (by omega) (by omega) ?_
  have ex : op_work k K (g.2.2.2.2.2 (i + 1)) (g.2.2.2.2.2 (i + 2)) (g.2.2.2.2.2 (i + 3)) (g.2.2.2.2.2 (i + 4)) = ((op_work k I (g.2.2.2.2.2 (i + 1)) (g.2.2.2.2.2 (i + 2)) (g.2.2.2.2.2 (i + 3)) (g.2.2.2.2.2 (i + 4))).1, mx K (op_work k I (g.2.2.2.2.2 (i + 1)) (g.2.2.2.2.2 (i + 2)) (g.2.2.2.2.2 (i + 3)) (g.2.2.2.2.2 (i + 4))).2) := by
    have q : op_work k (mx K I) (g.2.2.2.2.2 (i + 1)) (g.2.2.2.2.2 (i + 2)) (g.2.2.2.2.2 (i + 3)) (g.2.2.2.2.2 (i + 4)) = ((op_work k I (g.2.2.2.2.2 (i + 1)) (g.2.2.2.2.2 (i + 2)) (g.2.2.2.2.2 (i + 3)) (g.2.2.2.2.2 (i + 4))).1, mx K (op_work k I (g.2.2.2.2.2 (i + 1)) (g.2.2.2.2.2 (i + 2)) (g.2.2.2.2.2 (i + 3)) (g.2.2.2.2.2 (i + 4))).2) := x_op_work
    rw [← mx_eq hhi] at q
    exact q
  have hc : mm_Ci g zX12_work (d - 1) [.ref 200, .int (g.2.2.2.2.2 (i + 1)), .int (g.2.2.2.2.2 (i + 2)), .int (g.2.2.2.2.2 (i + 3)), .int (g.2.2.2.2.2 (i + 4))] sh_S K (op_work k I (g.2.2.2.2.2 (i + 1)) (g.2.2.2.2.2 (i + 2)) (g.2.2.2.2.2 (i + 3)) (g.2.2.2.2.2 (i + 4))).1 (mx K (op_work k I (g.2.2.2.2.2 (i + 1)) (g.2.2.2.2.2 (i + 2)) (g.2.2.2.2.2 (i + 3)) (g.2.2.2.2.2 (i + 4))).2) := by
    have q : mm_Ci g zX12_work (d - 1) [.ref 200, .int (g.2.2.2.2.2 (i + 1)), .int (g.2.2.2.2.2 (i + 2)), .int (g.2.2.2.2.2 (i + 3)), .int (g.2.2.2.2.2 (i + 4))] sh_S K (op_work k K (g.2.2.2.2.2 (i + 1)) (g.2.2.2.2.2 (i + 2)) (g.2.2.2.2.2 (i + 3)) (g.2.2.2.2.2 (i + 4))).1 (op_work k K (g.2.2.2.2.2 (i + 1)) (g.2.2.2.2.2 (i + 2)) (g.2.2.2.2.2 (i + 3)) (g.2.2.2.2.2 (i + 4))).2 := cm_work (by rw [e201]; exact hV.2.2.2.1.2.2.2.2) hV.2.2.2.2.1.2.2.1 (by omega)
    rw [ex] at q
    exact q
  refine mm_cV4i (dz := d - 1) dL_law_1053 rfl mzX12_work ml_L_124 imX12_work (by omega) so_200 ⟨rfl, rfl⟩ hc (Nat.le_of_ble_eq_true rfl) hAM ?_
  refine mm_at (pc' := 1056) rfl ?_
  exact mm_icmp_eq (tgt := 1394) dL_law_1056 (by decide) (fun _ => hk _ (RC_mx hR)) (fun q => absurd he q)
set_option maxRecDepth 100000 in
theorem lw_clear {g : mm_G} {d : Nat} {Al Mt : Nat × Nat} {I : mm_I} {i : Nat} {Q : Option Value → mm_Sh → mm_I → Prop} (H : RC I) (hAM : Al.1 ≤ Mt.1 ∧ Al.2 ≤ Mt.2) (hi : i + 6 ≤ g.2.2.2.2.1) (hL : g.2.2.2.2.1 ≤ 3072) (hd : 161 ≤ d) (hk : ∀ I2, RC I2 → mm_Ex g zL_law d Al Mt sh_S I2 1394 [(3, .int (nI i)), (0, .ref (mm_KB + 0)), (1, .ref 0), (2, .ref 200)] [] Q) : mm_Ex g zL_law d Al Mt sh_S I 1061 [(3, .int (nI i)), (0, .ref (mm_KB + 0)), (1, .ref 0), (2, .ref 200)] [] Q := by
  obtain ⟨w, h, n, l, k, o, r, T, hS⟩ := H.1
  have hV := hS.1
  refine mm_aload_n 2 dL_law_1061 rfl rfl ?_
  refine mm_dV0i (dz := d - 1) dL_law_1062 rfl mzX11_clear ml_L_125 imX11_clear (by omega) so_0 ⟨rfl, rfl⟩ (cl_clear H hS (by omega)) (Nat.le_of_ble_eq_true rfl) hAM (fun w_ K hK => ?_)
  obtain ⟨hhi, he, hR⟩ := hK
  have e201 : K 201 = I 201 := hhi 201 (by decide)
  have e200 : K 200 = I 200 := hhi 200 (by decide)
  refine mm_at (pc' := 1065) rfl ?_
  refine mm_aload_n 3 dL_law_1065 rfl rfl ?_
  have ex : op_clear K = ((op_clear I).1, mx K (op_clear I).2) := by
    have q : op_clear (mx K I) = ((op_clear I).1, mx K (op_clear I).2) := x_op_clear
    rw [← mx_eq hhi] at q
    exact q
  have hc : mm_Ci g zX12_clear (d - 1) [.ref 200] sh_S K (op_clear I).1 (mx K (op_clear I).2) := by
    have q : mm_Ci g zX12_clear (d - 1) [.ref 200] sh_S K (op_clear K).1 (op_clear K).2 := cm_clear
    rw [ex] at q
    exact q
  refine mm_cV0i (dz := d - 1) dL_law_1066 rfl mzX12_clear ml_L_129 imX12_clear (by omega) so_200 ⟨rfl, rfl⟩ hc (Nat.le_of_ble_eq_true rfl) hAM ?_
  refine mm_at (pc' := 1069) rfl ?_
  exact mm_icmp_eq (tgt := 1394) dL_law_1069 (by decide) (fun _ => hk _ (RC_mx hR)) (fun q => absurd he q)
set_option maxRecDepth 100000 in
theorem lw_plan {g : mm_G} {d : Nat} {Al Mt : Nat × Nat} {I : mm_I} {i : Nat} {Q : Option Value → mm_Sh → mm_I → Prop} (H : RC I) (hAM : Al.1 ≤ Mt.1 ∧ Al.2 ≤ Mt.2) (hi : i + 6 ≤ g.2.2.2.2.1) (hL : g.2.2.2.2.1 ≤ 3072) (hd : 161 ≤ d) (hk : ∀ I2, RC I2 → mm_Ex g zL_law d Al Mt sh_S I2 1394 [(3, .int (nI i)), (0, .ref (mm_KB + 0)), (1, .ref 0), (2, .ref 200)] [] Q) : mm_Ex g zL_law d Al Mt sh_S I 1074 [(3, .int (nI i)), (0, .ref (mm_KB + 0)), (1, .ref 0), (2, .ref 200)] [] Q := by
  obtain ⟨w, h, n, l, k, o, r, T, hS⟩ := H.1
  have hV := hS.1
  refine mm_aload_n 2 dL_law_1074 rfl rfl ?_
  refine mm_aload_n 1 dL_law_1075 rfl rfl ?_
  refine mm_iload_n 0 dL_law_1076 rfl rfl ?_
  refine mm_iconst (v := 1) dL_law_1077 rfl ?_
  refine mm_iaddN (i) (1) dL_law_1078 ?_
  refine mm_at (pc' := 1079) rfl ?_
  refine mm_ialdKN (i + 1) dL_law_1079 rfl (by omega) (by omega) ?_
  refine mm_aload_n 1 dL_law_1080 rfl rfl ?_
  refine mm_iload_n 0 dL_law_1081 rfl rfl ?_
  refine mm_iconst (v := 2) dL_law_1082 rfl ?_
  refine mm_iaddN (i) (2) dL_law_1083 ?_
  refine mm_at (pc' := 1084) rfl ?_
  refine mm_ialdKN (i + 2) dL_law_1084 rfl (by omega) (by omega) ?_
  refine mm_dV2i (dz := d - 1) dL_law_1085 rfl mzX11_plan ml_L_130 imX11_plan (by omega) so_0 ⟨rfl, rfl⟩ (cl_plan H hS (by omega)) (Nat.le_of_ble_eq_true rfl) hAM (fun w_ K hK => ?_)
  obtain ⟨hhi, he, hR⟩ := hK
  have e201 : K 201 = I 201 := hhi 201 (by decide)
  have e200 : K 200 = I 200 := hhi 200 (by decide)
  refine mm_at (pc' := 1088) rfl ?_
  refine mm_aload_n 3 dL_law_1088 rfl rfl ?_
  refine mm_aload_n 1 dL_law_1089 rfl rfl ?_
  refine mm_iload_n 0 dL_law_1090 rfl rfl ?_
  refine mm_iconst (v := 1) dL_law_1091 rfl ?_
  refine mm_iaddN (i) (1) dL_law_1092 ?_
  refine mm_at (pc' := 1093) rfl ?_
  refine mm_ialdKN (i + 1) dL_law_1093 rfl (by omega) (by omega) ?_
  refine mm_aload_n 1 dL_law_1094 rfl rfl ?_
  refine mm_iload_n 0 dL_law_1095 rfl rfl ?_
  refine mm_iconst (v := 2) dL_law_1096 rfl ?_
  refine mm_iaddN (i) (2) dL_law_1097 ?_
  refine mm_at (pc' := 1098) rfl ?_
  refine mm_ialdKN (i + 2) dL_law_1098 rfl (by omega) (by omega) ?_
  have hc : mm_Di g zX12_plan (d - 1) [.ref 200, .int (g.2.2.2.2.2 (i + 1)), .int (g.2.2.2.2.2 (i + 2))] sh_S K (fun r_ J => r_ = op_plan l k I (g.2.2.2.2.2 (i + 1)) (g.2.2.2.2.2 (i + 2)) ∧ sk_H K J) := by
    have ex : op_plan l k K (g.2.2.2.2.2 (i + 1)) (g.2.2.2.2.2 (i + 2)) = op_plan l k I (g.2.2.2.2.2 (i + 1)) (g.2.2.2.2.2 (i + 2)) := by
      have q : op_plan l k (mx K I) (g.2.2.2.2.2 (i + 1)) (g.2.2.2.2.2 (i + 2)) = op_plan l k I (g.2.2.2.2.2 (i + 1)) (g.2.2.2.2.2 (i + 2)) := x_op_plan
      rw [← mx_eq hhi] at q
      exact q
    rw [← ex]
    exact cm_plan (by rw [e201]; exact hV.2.2.2.1.1) hV.2.2.2.2.1.2.1 (by rw [e201]; exact hV.2.2.2.1.2.2.2.2) hV.2.2.2.2.1.2.2.1 (by omega) (fun r_ J h1 h2 => ⟨rfl, r_, rfl, h1, h2⟩)
  refine mm_dV2i (dz := d - 1) dL_law_1099 rfl mzX12_plan ml_L_133 imX12_plan (by omega) so_200 ⟨rfl, rfl⟩ hc (Nat.le_of_ble_eq_true rfl) hAM (fun w2 J2 hJ2 => ?_)
  refine mm_at (pc' := 1102) rfl ?_
  have hRK : RC K := by
    have q := RC_mx hR
    rw [← mx_eq hhi] at q
    exact q
  have hRJ : RC J2 := RC_k hRK (fun a i h1 h2 h3 => hJ2.2 a i h1 h2 (fun q => ⟨(h3 q).1, (h3 q).2.1, (h3 q).2.2.1, (h3 q).2.2.2.1, (h3 q).2.2.2.2.1⟩))
  exact mm_icmp_eq (tgt := 1394) dL_law_1102 (by decide) (fun _ => hk _ hRJ) (fun q => absurd (he.trans hJ2.1.symm) q)
set_option maxRecDepth 100000 in
theorem lw_planned {g : mm_G} {d : Nat} {Al Mt : Nat × Nat} {I : mm_I} {i : Nat} {Q : Option Value → mm_Sh → mm_I → Prop} (H : RC I) (hAM : Al.1 ≤ Mt.1 ∧ Al.2 ≤ Mt.2) (hi : i + 6 ≤ g.2.2.2.2.1) (hL : g.2.2.2.2.1 ≤ 3072) (hd : 161 ≤ d) (hk : ∀ I2, RC I2 → mm_Ex g zL_law d Al Mt sh_S I2 1394 [(3, .int (nI i)), (0, .ref (mm_KB + 0)), (1, .ref 0), (2, .ref 200)] [] Q) : mm_Ex g zL_law d Al Mt sh_S I 1107 [(3, .int (nI i)), (0, .ref (mm_KB + 0)), (1, .ref 0), (2, .ref 200)] [] Q := by
  obtain ⟨w, h, n, l, k, o, r, T, hS⟩ := H.1
  have hV := hS.1
  refine mm_aload_n 2 dL_law_1107 rfl rfl ?_
  refine mm_aload_n 1 dL_law_1108 rfl rfl ?_
  refine mm_iload_n 0 dL_law_1109 rfl rfl ?_
  refine mm_iconst (v := 1) dL_law_1110 rfl ?_
  refine mm_iaddN (i) (1) dL_law_1111 ?_
  refine mm_at (pc' := 1112) rfl ?_
  refine mm_ialdKN (i + 1) dL_law_1112 rfl (by omega) (by omega) ?_
  refine mm_aload_n 1 dL_law_1113 rfl rfl ?_
  refine mm_iload_n 0 dL_law_1114 rfl rfl ?_
  refine mm_iconst (v := 2) dL_law_1115 rfl ?_
  refine mm_iaddN (i) (2) dL_law_1116 ?_
  refine mm_at (pc' := 1117) rfl ?_
  refine mm_ialdKN (i + 2) dL_law_1117 rfl (by omega) (by omega) ?_
  refine mm_aload_n 1 dL_law_1118 rfl rfl ?_
  refine mm_iload_n 0 dL_law_1119 rfl rfl ?_
  refine mm_iconst (v := 3) dL_law_1120 rfl ?_
  refine mm_iaddN (i) (3) dL_law_1121 ?_
  refine mm_at (pc' := 1122) rfl ?_
  refine mm_ialdKN (i + 3) dL_law_1122 rfl (by omega) (by omega) ?_
  refine mm_dV3i (dz := d - 1) dL_law_1123 rfl mzX11_planned ml_L_134 imX11_planned (by omega) so_0 ⟨rfl, rfl⟩ (cl_planned H hS (by omega)) (Nat.le_of_ble_eq_true rfl) hAM (fun w_ K hK => ?_)
  obtain ⟨hhi, he, hR⟩ := hK
  have e201 : K 201 = I 201 := hhi 201 (by decide)
  have e200 : K 200 = I 200 := hhi 200 (by decide)
  refine mm_at (pc' := 1126) rfl ?_
  refine mm_aload_n 3 dL_law_1126 rfl rfl ?_
  refine mm_aload_n 1 dL_law_1127 rfl rfl ?_
  refine mm_iload_n 0 dL_law_1128 rfl rfl ?_
  refine mm_iconst (v := 1) dL_law_1129 rfl ?_
  refine mm_iaddN (i) (1) dL_law_1130 ?_
  refine mm_at (pc' := 1131) rfl ?_
  refine mm_ialdKN (i + 1) dL_law_1131 rfl (by omega) (by omega) ?_
  refine mm_aload_n 1 dL_law_1132 rfl rfl ?_
  refine mm_iload_n 0 dL_law_1133 rfl rfl ?_
  refine mm_iconst (v := 2) dL_law_1134 rfl ?_
  refine mm_iaddN (i) (2) dL_law_1135 ?_
  refine mm_at (pc' := 1136) rfl ?_
  refine mm_ialdKN (i + 2) dL_law_1136 rfl (by omega) (by omega) ?_
  refine mm_aload_n 1 dL_law_1137 rfl rfl ?_
  refine mm_iload_n 0 dL_law_1138 rfl rfl ?_
  refine mm_iconst (v := 3) dL_law_1139 rfl ?_
  refine mm_iaddN (i) (3) dL_law_1140 ?_
  refine mm_at (pc' := 1141) rfl ?_
  refine mm_ialdKN (i + 3) dL_law_1141 rfl (by omega) (by omega) ?_
  have hc : mm_Di g zX12_planned (d - 1) [.ref 200, .int (g.2.2.2.2.2 (i + 1)), .int (g.2.2.2.2.2 (i + 2)), .int (g.2.2.2.2.2 (i + 3))] sh_S K (fun r_ J => r_ = op_planned l k I (g.2.2.2.2.2 (i + 1)) (g.2.2.2.2.2 (i + 2)) (g.2.2.2.2.2 (i + 3)) ∧ sk_H K J) := by
    have ex : op_planned l k K (g.2.2.2.2.2 (i + 1)) (g.2.2.2.2.2 (i + 2)) (g.2.2.2.2.2 (i + 3)) = op_planned l k I (g.2.2.2.2.2 (i + 1)) (g.2.2.2.2.2 (i + 2)) (g.2.2.2.2.2 (i + 3)) := by
      have q : op_planned l k (mx K I) (g.2.2.2.2.2 (i + 1)) (g.2.2.2.2.2 (i + 2)) (g.2.2.2.2.2 (i + 3)) = op_planned l k I (g.2.2.2.2.2 (i + 1)) (g.2.2.2.2.2 (i + 2)) (g.2.2.2.2.2 (i + 3)) := x_op_planned
      rw [← mx_eq hhi] at q
      exact q
    rw [← ex]
    exact cm_planned (by rw [e201]; exact hV.2.2.2.1.1) hV.2.2.2.2.1.2.1 (by rw [e201]; exact hV.2.2.2.1.2.2.2.2) hV.2.2.2.2.1.2.2.1 (by omega) (fun r_ J h1 h2 => ⟨rfl, r_, rfl, h1, h2⟩)
  refine mm_dV3i (dz := d - 1) dL_law_1142 rfl mzX12_planned ml_L_137 imX12_planned (by omega) so_200 ⟨rfl, rfl⟩ hc (Nat.le_of_ble_eq_true rfl) hAM (fun w2 J2 hJ2 => ?_)
  refine mm_at (pc' := 1145) rfl ?_
  have hRK : RC K := by
    have q := RC_mx hR
    rw [← mx_eq hhi] at q
    exact q
  have hRJ : RC J2 := RC_k hRK (fun a i h1 h2 h3 => hJ2.2 a i h1 h2 (fun q => ⟨(h3 q).1, (h3 q).2.1, (h3 q).2.2.1, (h3 q).2.2.2.1, (h3 q).2.2.2.2.1⟩))
  exact mm_icmp_eq (tgt := 1394) dL_law_1145 (by decide) (fun _ => hk _ hRJ) (fun q => absurd (he.trans hJ2.1.symm) q)
set_option maxRecDepth 100000 in
theorem lw_tell {g : mm_G} {d : Nat} {Al Mt : Nat × Nat} {I : mm_I} {i : Nat} {Q : Option Value → mm_Sh → mm_I → Prop} (H : RC I) (hAM : Al.1 ≤ Mt.1 ∧ Al.2 ≤ Mt.2) (hi : i + 6 ≤ g.2.2.2.2.1) (hL : g.2.2.2.2.1 ≤ 3072) (hd : 161 ≤ d) (hk : ∀ I2, RC I2 → mm_Ex g zL_law d Al Mt sh_S I2 1394 [(3, .int (nI i)), (0, .ref (mm_KB + 0)), (1, .ref 0), (2, .ref 200)] [] Q) : mm_Ex g zL_law d Al Mt sh_S I 1150 [(3, .int (nI i)), (0, .ref (mm_KB + 0)), (1, .ref 0), (2, .ref 200)] [] Q := by
  obtain ⟨w, h, n, l, k, o, r, T, hS⟩ := H.1
  have hV := hS.1
  obtain ⟨t, ht⟩ := H.2.2.2.1
  refine mm_aload_n 2 dL_law_1150 rfl rfl ?_
  refine mm_aload_n 1 dL_law_1151 rfl rfl ?_
  refine mm_iload_n 0 dL_law_1152 rfl rfl ?_
  refine mm_iconst (v := 1) dL_law_1153 rfl ?_
  refine mm_iaddN (i) (1) dL_law_1154 ?_
  refine mm_at (pc' := 1155) rfl ?_
  refine mm_ialdKN (i + 1) dL_law_1155 rfl (by omega) (by omega) ?_
  refine mm_dV1i (dz := d - 1) dL_law_1156 rfl mzX11_tell ml_L_138 imX11_tell (by omega) so_0 ⟨rfl, rfl⟩ (cl_tell H hS ht (by omega)) (Nat.le_of_ble_eq_true rfl) hAM (fun w_ K hK => ?_)
  obtain ⟨hhi, he, hR⟩ := hK
  have e201 : K 201 = I 201 := hhi 201 (by decide)
  have e200 : K 200 = I 200 := hhi 200 (by decide)
  refine mm_at (pc' := 1159) rfl ?_
  refine mm_aload_n 3 dL_law_1159 rfl rfl ?_
  refine mm_aload_n 1 dL_law_1160 rfl rfl ?_
  refine mm_iload_n 0 dL_law_1161 rfl rfl ?_
  refine mm_iconst (v := 1) dL_law_1162 rfl ?_
  refine mm_iaddN (i) (1) dL_law_1163 ?_
  refine mm_at (pc' := 1164) rfl ?_
  refine mm_ialdKN (i + 1) dL_law_1164 rfl (by omega) (by omega) ?_
  have ex : op_tell t K (g.2.2.2.2.2 (i + 1)) = ((op_tell t I (g.2.2.2.2.2 (i + 1))).1, mx K (op_tell t I (g.2.2.2.2.2 (i + 1))).2) := by
    have q : op_tell t (mx K I) (g.2.2.2.2.2 (i + 1)) = ((op_tell t I (g.2.2.2.2.2 (i + 1))).1, mx K (op_tell t I (g.2.2.2.2.2 (i + 1))).2) := x_op_tell
    rw [← mx_eq hhi] at q
    exact q
  have hc : mm_Ci g zX12_tell (d - 1) [.ref 200, .int (g.2.2.2.2.2 (i + 1))] sh_S K (op_tell t I (g.2.2.2.2.2 (i + 1))).1 (mx K (op_tell t I (g.2.2.2.2.2 (i + 1))).2) := by
    have q : mm_Ci g zX12_tell (d - 1) [.ref 200, .int (g.2.2.2.2.2 (i + 1))] sh_S K (op_tell t K (g.2.2.2.2.2 (i + 1))).1 (op_tell t K (g.2.2.2.2.2 (i + 1))).2 := cm_tell (by rw [e200]; exact ht.2.1) ht.2.2.1
    rw [ex] at q
    exact q
  refine mm_cV1i (dz := d - 1) dL_law_1165 rfl mzX12_tell ml_L_141 imX12_tell (by omega) so_200 ⟨rfl, rfl⟩ hc (Nat.le_of_ble_eq_true rfl) hAM ?_
  refine mm_at (pc' := 1168) rfl ?_
  exact mm_icmp_eq (tgt := 1394) dL_law_1168 (by decide) (fun _ => hk _ (RC_mx hR)) (fun q => absurd he q)
set_option maxRecDepth 100000 in
theorem lw_check {g : mm_G} {d : Nat} {Al Mt : Nat × Nat} {I : mm_I} {i : Nat} {Q : Option Value → mm_Sh → mm_I → Prop} (H : RC I) (hAM : Al.1 ≤ Mt.1 ∧ Al.2 ≤ Mt.2) (hi : i + 6 ≤ g.2.2.2.2.1) (hL : g.2.2.2.2.1 ≤ 3072) (hd : 161 ≤ d) (hk : ∀ I2, RC I2 → mm_Ex g zL_law d Al Mt sh_S I2 1394 [(3, .int (nI i)), (0, .ref (mm_KB + 0)), (1, .ref 0), (2, .ref 200)] [] Q) : mm_Ex g zL_law d Al Mt sh_S I 1173 [(3, .int (nI i)), (0, .ref (mm_KB + 0)), (1, .ref 0), (2, .ref 200)] [] Q := by
  obtain ⟨w, h, n, l, k, o, r, T, hS⟩ := H.1
  have hV := hS.1
  obtain ⟨t, ht⟩ := H.2.2.2.1
  refine mm_aload_n 2 dL_law_1173 rfl rfl ?_
  refine mm_aload_n 1 dL_law_1174 rfl rfl ?_
  refine mm_iload_n 0 dL_law_1175 rfl rfl ?_
  refine mm_iconst (v := 1) dL_law_1176 rfl ?_
  refine mm_iaddN (i) (1) dL_law_1177 ?_
  refine mm_at (pc' := 1178) rfl ?_
  refine mm_ialdKN (i + 1) dL_law_1178 rfl (by omega) (by omega) ?_
  refine mm_aload_n 1 dL_law_1179 rfl rfl ?_
  refine mm_iload_n 0 dL_law_1180 rfl rfl ?_
  refine mm_iconst (v := 2) dL_law_1181 rfl ?_
  refine mm_iaddN (i) (2) dL_law_1182 ?_
  refine mm_at (pc' := 1183) rfl ?_
  refine mm_ialdKN (i + 2) dL_law_1183 rfl (by omega) (by omega) ?_
  refine mm_dV2i (dz := d - 1) dL_law_1184 rfl mzX11_check ml_L_142 imX11_check (by omega) so_0 ⟨rfl, rfl⟩ (cl_check H hS ht (by omega)) (Nat.le_of_ble_eq_true rfl) hAM (fun w_ K hK => ?_)
  obtain ⟨hhi, he, hR⟩ := hK
  have e201 : K 201 = I 201 := hhi 201 (by decide)
  have e200 : K 200 = I 200 := hhi 200 (by decide)
  refine mm_at (pc' := 1187) rfl ?_
  refine mm_aload_n 3 dL_law_1187 rfl rfl ?_
  refine mm_aload_n 1 dL_law_1188 rfl rfl ?_
  refine mm_iload_n 0 dL_law_1189 rfl rfl ?_
  refine mm_iconst (v := 1) dL_law_1190 rfl ?_
  refine mm_iaddN (i) (1) dL_law_1191 ?_
  refine mm_at (pc' := 1192) rfl ?_
  refine mm_ialdKN (i + 1) dL_law_1192 rfl (by omega) (by omega) ?_
  refine mm_aload_n 1 dL_law_1193 rfl rfl ?_
  refine mm_iload_n 0 dL_law_1194 rfl rfl ?_
  refine mm_iconst (v := 2) dL_law_1195 rfl ?_
  refine mm_iaddN (i) (2) dL_law_1196 ?_
  refine mm_at (pc' := 1197) rfl ?_
  refine mm_ialdKN (i + 2) dL_law_1197 rfl (by omega) (by omega) ?_
  have hc : mm_Di g zX12_check (d - 1) [.ref 200, .int (g.2.2.2.2.2 (i + 1)), .int (g.2.2.2.2.2 (i + 2))] sh_S K (fun r_ J => r_ = op_check l k t I (g.2.2.2.2.2 (i + 1)) (g.2.2.2.2.2 (i + 2)) ∧ ck_F (mm_up K 200 5 0) J) := by
    have ex : op_check l k t K (g.2.2.2.2.2 (i + 1)) (g.2.2.2.2.2 (i + 2)) = op_check l k t I (g.2.2.2.2.2 (i + 1)) (g.2.2.2.2.2 (i + 2)) := by
      have q : op_check l k t (mx K I) (g.2.2.2.2.2 (i + 1)) (g.2.2.2.2.2 (i + 2)) = op_check l k t I (g.2.2.2.2.2 (i + 1)) (g.2.2.2.2.2 (i + 2)) := x_op_check
      rw [← mx_eq hhi] at q
      exact q
    rw [← ex]
    exact cm_check (by rw [e201]; exact hV.2.2.2.1.1) hV.2.2.2.2.1.2.1 (by rw [e201]; exact hV.2.2.2.1.2.2.2.2) hV.2.2.2.2.1.2.2.1 (by rw [e200]; exact ht.2.1) ht.2.2.1 (by omega) (fun r_ J h1 h2 => ⟨rfl, r_, rfl, h1, h2⟩)
  refine mm_dV2i (dz := d - 1) dL_law_1198 rfl mzX12_check ml_L_145 imX12_check (by omega) so_200 ⟨rfl, rfl⟩ hc (Nat.le_of_ble_eq_true rfl) hAM (fun w2 J2 hJ2 => ?_)
  refine mm_at (pc' := 1201) rfl ?_
  have hRK : RC (mm_up K 200 5 0) := by
    have q := RC_mx hR
    have e : mx K (mm_up I 200 5 0) = mm_up K 200 5 0 := by rw [← mx_upg (by decide), ← mx_eq hhi]
    rw [e] at q
    exact q
  have hRJ : RC J2 := RC_k hRK (fun a i h1 h2 h3 => hJ2.2 a i h1 h2 h3)
  exact mm_icmp_eq (tgt := 1394) dL_law_1201 (by decide) (fun _ => hk _ hRJ) (fun q => absurd (he.trans hJ2.1.symm) q)
set_option maxRecDepth 100000 in
theorem lw_keep {g : mm_G} {d : Nat} {Al Mt : Nat × Nat} {I : mm_I} {i : Nat} {Q : Option Value → mm_Sh → mm_I → Prop} (H : RC I) (hAM : Al.1 ≤ Mt.1 ∧ Al.2 ≤ Mt.2) (hi : i + 6 ≤ g.2.2.2.2.1) (hL : g.2.2.2.2.1 ≤ 3072) (hd : 161 ≤ d) (hk : ∀ I2, RC I2 → mm_Ex g zL_law d Al Mt sh_S I2 1394 [(3, .int (nI i)), (0, .ref (mm_KB + 0)), (1, .ref 0), (2, .ref 200)] [] Q) : mm_Ex g zL_law d Al Mt sh_S I 1206 [(3, .int (nI i)), (0, .ref (mm_KB + 0)), (1, .ref 0), (2, .ref 200)] [] Q := by
  obtain ⟨w, h, n, l, k, o, r, T, hS⟩ := H.1
  have hV := hS.1
  refine mm_aload_n 2 dL_law_1206 rfl rfl ?_
  refine mm_dV0i (dz := d - 1) dL_law_1207 rfl mzX11_keep ml_L_146 imX11_keep (by omega) so_0 ⟨rfl, rfl⟩ (cl_keep H hS (by omega)) (Nat.le_of_ble_eq_true rfl) hAM (fun w_ K hK => ?_)
  obtain ⟨hhi, he, hR⟩ := hK
  have e201 : K 201 = I 201 := hhi 201 (by decide)
  have e200 : K 200 = I 200 := hhi 200 (by decide)
  refine mm_at (pc' := 1210) rfl ?_
  refine mm_aload_n 3 dL_law_1210 rfl rfl ?_
  have ex : op_keep K = ((op_keep I).1, mx K (op_keep I).2) := by
    have q : op_keep (mx K I) = ((op_keep I).1, mx K (op_keep I).2) := x_op_keep
    rw [← mx_eq hhi] at q
    exact q
  have hc : mm_Ci g zX12_keep (d - 1) [.ref 200] sh_S K (op_keep I).1 (mx K (op_keep I).2) := by
    have q : mm_Ci g zX12_keep (d - 1) [.ref 200] sh_S K (op_keep K).1 (op_keep K).2 := ck_keep
    rw [ex] at q
    exact q
  refine mm_cV0i (dz := d - 1) dL_law_1211 rfl mzX12_keep ml_L_149 imX12_keep (by omega) so_200 ⟨rfl, rfl⟩ hc (Nat.le_of_ble_eq_true rfl) hAM ?_
  refine mm_at (pc' := 1214) rfl ?_
  exact mm_icmp_eq (tgt := 1394) dL_law_1214 (by decide) (fun _ => hk _ (RC_mx hR)) (fun q => absurd he q)
set_option maxRecDepth 100000 in
theorem lw_back {g : mm_G} {d : Nat} {Al Mt : Nat × Nat} {I : mm_I} {i : Nat} {Q : Option Value → mm_Sh → mm_I → Prop} (H : RC I) (hAM : Al.1 ≤ Mt.1 ∧ Al.2 ≤ Mt.2) (hi : i + 6 ≤ g.2.2.2.2.1) (hL : g.2.2.2.2.1 ≤ 3072) (hd : 161 ≤ d) (hk : ∀ I2, RC I2 → mm_Ex g zL_law d Al Mt sh_S I2 1394 [(3, .int (nI i)), (0, .ref (mm_KB + 0)), (1, .ref 0), (2, .ref 200)] [] Q) : mm_Ex g zL_law d Al Mt sh_S I 1219 [(3, .int (nI i)), (0, .ref (mm_KB + 0)), (1, .ref 0), (2, .ref 200)] [] Q := by
  obtain ⟨w, h, n, l, k, o, r, T, hS⟩ := H.1
  have hV := hS.1
  refine mm_aload_n 2 dL_law_1219 rfl rfl ?_
  refine mm_dV0i (dz := d - 1) dL_law_1220 rfl mzX11_back ml_L_150 imX11_back (by omega) so_0 ⟨rfl, rfl⟩ (cl_back H hS (by omega)) (Nat.le_of_ble_eq_true rfl) hAM (fun w_ K hK => ?_)
  obtain ⟨hhi, he, hR⟩ := hK
  have e201 : K 201 = I 201 := hhi 201 (by decide)
  have e200 : K 200 = I 200 := hhi 200 (by decide)
  refine mm_at (pc' := 1223) rfl ?_
  refine mm_aload_n 3 dL_law_1223 rfl rfl ?_
  have ex : op_back K = ((op_back I).1, mx K (op_back I).2) := by
    have q : op_back (mx K I) = ((op_back I).1, mx K (op_back I).2) := x_op_back
    rw [← mx_eq hhi] at q
    exact q
  have hc : mm_Ci g zX12_back (d - 1) [.ref 200] sh_S K (op_back I).1 (mx K (op_back I).2) := by
    have q : mm_Ci g zX12_back (d - 1) [.ref 200] sh_S K (op_back K).1 (op_back K).2 := cm_back
    rw [ex] at q
    exact q
  refine mm_cV0i (dz := d - 1) dL_law_1224 rfl mzX12_back ml_L_153 imX12_back (by omega) so_200 ⟨rfl, rfl⟩ hc (Nat.le_of_ble_eq_true rfl) hAM ?_
  refine mm_at (pc' := 1227) rfl ?_
  exact mm_icmp_eq (tgt := 1394) dL_law_1227 (by decide) (fun _ => hk _ (RC_mx hR)) (fun q => absurd he q)
set_option maxRecDepth 100000 in
theorem lw_sheet {g : mm_G} {d : Nat} {Al Mt : Nat × Nat} {I : mm_I} {i : Nat} {Q : Option Value → mm_Sh → mm_I → Prop} (H : RC I) (hAM : Al.1 ≤ Mt.1 ∧ Al.2 ≤ Mt.2) (hi : i + 6 ≤ g.2.2.2.2.1) (hL : g.2.2.2.2.1 ≤ 3072) (hd : 161 ≤ d) (hk : ∀ I2, RC I2 → mm_Ex g zL_law d Al Mt sh_S I2 1394 [(3, .int (nI i)), (0, .ref (mm_KB + 0)), (1, .ref 0), (2, .ref 200)] [] Q) : mm_Ex g zL_law d Al Mt sh_S I 1232 [(3, .int (nI i)), (0, .ref (mm_KB + 0)), (1, .ref 0), (2, .ref 200)] [] Q := by
  obtain ⟨w, h, n, l, k, o, r, T, hS⟩ := H.1
  have hV := hS.1
  refine mm_aload_n 2 dL_law_1232 rfl rfl ?_
  refine mm_aload_n 1 dL_law_1233 rfl rfl ?_
  refine mm_iload_n 0 dL_law_1234 rfl rfl ?_
  refine mm_iconst (v := 1) dL_law_1235 rfl ?_
  refine mm_iaddN (i) (1) dL_law_1236 ?_
  refine mm_at (pc' := 1237) rfl ?_
  refine mm_ialdKN (i + 1) dL_law_1237 rfl (by omega) (by omega) ?_
  refine mm_aload_n 1 dL_law_1238 rfl rfl ?_
  refine mm_iload_n 0 dL_law_1239 rfl rfl ?_
  refine mm_iconst (v := 2) dL_law_1240 rfl ?_
  refine mm_iaddN (i) (2) dL_law_1241 ?_
  refine mm_at (pc' := 1242) rfl ?_
  refine mm_ialdKN (i + 2) dL_law_1242 rfl (by omega) (by omega) ?_
  refine mm_dV2i (dz := d - 1) dL_law_1243 rfl mzX11_sheet ml_L_154 imX11_sheet (by omega) so_0 ⟨rfl, rfl⟩ (cl_sheet H (by omega)) (Nat.le_of_ble_eq_true rfl) hAM (fun w_ K hK => ?_)
  obtain ⟨hhi, he, hR⟩ := hK
  have e201 : K 201 = I 201 := hhi 201 (by decide)
  have e200 : K 200 = I 200 := hhi 200 (by decide)
  refine mm_at (pc' := 1246) rfl ?_
  refine mm_aload_n 3 dL_law_1246 rfl rfl ?_
  refine mm_aload_n 1 dL_law_1247 rfl rfl ?_
  refine mm_iload_n 0 dL_law_1248 rfl rfl ?_
  refine mm_iconst (v := 1) dL_law_1249 rfl ?_
  refine mm_iaddN (i) (1) dL_law_1250 ?_
  refine mm_at (pc' := 1251) rfl ?_
  refine mm_ialdKN (i + 1) dL_law_1251 rfl (by omega) (by omega) ?_
  refine mm_aload_n 1 dL_law_1252 rfl rfl ?_
  refine mm_iload_n 0 dL_law_1253 rfl rfl ?_
  refine mm_iconst (v := 2) dL_law_1254 rfl ?_
  refine mm_iaddN (i) (2) dL_law_1255 ?_
  refine mm_at (pc' := 1256) rfl ?_
  refine mm_ialdKN (i + 2) dL_law_1256 rfl (by omega) (by omega) ?_
  have ex : op_sheet K (g.2.2.2.2.2 (i + 1)) (g.2.2.2.2.2 (i + 2)) = ((op_sheet I (g.2.2.2.2.2 (i + 1)) (g.2.2.2.2.2 (i + 2))).1, mx K (op_sheet I (g.2.2.2.2.2 (i + 1)) (g.2.2.2.2.2 (i + 2))).2) := by
    have q : op_sheet (mx K I) (g.2.2.2.2.2 (i + 1)) (g.2.2.2.2.2 (i + 2)) = ((op_sheet I (g.2.2.2.2.2 (i + 1)) (g.2.2.2.2.2 (i + 2))).1, mx K (op_sheet I (g.2.2.2.2.2 (i + 1)) (g.2.2.2.2.2 (i + 2))).2) := x_op_sheet
    rw [← mx_eq hhi] at q
    exact q
  have hc : mm_Ci g zX12_sheet (d - 1) [.ref 200, .int (g.2.2.2.2.2 (i + 1)), .int (g.2.2.2.2.2 (i + 2))] sh_S K (op_sheet I (g.2.2.2.2.2 (i + 1)) (g.2.2.2.2.2 (i + 2))).1 (mx K (op_sheet I (g.2.2.2.2.2 (i + 1)) (g.2.2.2.2.2 (i + 2))).2) := by
    have q : mm_Ci g zX12_sheet (d - 1) [.ref 200, .int (g.2.2.2.2.2 (i + 1)), .int (g.2.2.2.2.2 (i + 2))] sh_S K (op_sheet K (g.2.2.2.2.2 (i + 1)) (g.2.2.2.2.2 (i + 2))).1 (op_sheet K (g.2.2.2.2.2 (i + 1)) (g.2.2.2.2.2 (i + 2))).2 := cm_sheet (by omega)
    rw [ex] at q
    exact q
  refine mm_cV2i (dz := d - 1) dL_law_1257 rfl mzX12_sheet ml_L_157 imX12_sheet (by omega) so_200 ⟨rfl, rfl⟩ hc (Nat.le_of_ble_eq_true rfl) hAM ?_
  refine mm_at (pc' := 1260) rfl ?_
  exact mm_icmp_eq (tgt := 1394) dL_law_1260 (by decide) (fun _ => hk _ (RC_mx hR)) (fun q => absurd he q)
set_option maxRecDepth 100000 in
theorem lw_mark {g : mm_G} {d : Nat} {Al Mt : Nat × Nat} {I : mm_I} {i : Nat} {Q : Option Value → mm_Sh → mm_I → Prop} (H : RC I) (hAM : Al.1 ≤ Mt.1 ∧ Al.2 ≤ Mt.2) (hi : i + 6 ≤ g.2.2.2.2.1) (hL : g.2.2.2.2.1 ≤ 3072) (hd : 161 ≤ d) (hk : ∀ I2, RC I2 → mm_Ex g zL_law d Al Mt sh_S I2 1394 [(3, .int (nI i)), (0, .ref (mm_KB + 0)), (1, .ref 0), (2, .ref 200)] [] Q) : mm_Ex g zL_law d Al Mt sh_S I 1265 [(3, .int (nI i)), (0, .ref (mm_KB + 0)), (1, .ref 0), (2, .ref 200)] [] Q := by
  obtain ⟨w, h, n, l, k, o, r, T, hS⟩ := H.1
  have hV := hS.1
  refine mm_aload_n 2 dL_law_1265 rfl rfl ?_
  refine mm_aload_n 1 dL_law_1266 rfl rfl ?_
  refine mm_iload_n 0 dL_law_1267 rfl rfl ?_
  refine mm_iconst (v := 1) dL_law_1268 rfl ?_
  refine mm_iaddN (i) (1) dL_law_1269 ?_
  refine mm_at (pc' := 1270) rfl ?_
  refine mm_ialdKN (i + 1) dL_law_1270 rfl (by omega) (by omega) ?_
  refine mm_aload_n 1 dL_law_1271 rfl rfl ?_
  refine mm_iload_n 0 dL_law_1272 rfl rfl ?_
  refine mm_iconst (v := 2) dL_law_1273 rfl ?_
  refine mm_iaddN (i) (2) dL_law_1274 ?_
  refine mm_at (pc' := 1275) rfl ?_
  refine mm_ialdKN (i + 2) dL_law_1275 rfl (by omega) (by omega) ?_
  refine mm_aload_n 1 dL_law_1276 rfl rfl ?_
  refine mm_iload_n 0 dL_law_1277 rfl rfl ?_
  refine mm_iconst (v := 3) dL_law_1278 rfl ?_
  refine mm_iaddN (i) (3) dL_law_1279 ?_
  refine mm_at (pc' := 1280) rfl ?_
  refine mm_ialdKN (i + 3) dL_law_1280 rfl (by omega) (by omega) ?_
  refine mm_dV3i (dz := d - 1) dL_law_1281 rfl mzX11_mark ml_L_158 imX11_mark (by omega) so_0 ⟨rfl, rfl⟩ (cl_mark H (by omega)) (Nat.le_of_ble_eq_true rfl) hAM (fun w_ K hK => ?_)
  obtain ⟨hhi, he, hR⟩ := hK
  have e201 : K 201 = I 201 := hhi 201 (by decide)
  have e200 : K 200 = I 200 := hhi 200 (by decide)
  refine mm_at (pc' := 1284) rfl ?_
  refine mm_aload_n 3 dL_law_1284 rfl rfl ?_
  refine mm_aload_n 1 dL_law_1285 rfl rfl ?_
  refine mm_iload_n 0 dL_law_1286 rfl rfl ?_
  refine mm_iconst (v := 1) dL_law_1287 rfl ?_
  refine mm_iaddN (i) (1) dL_law_1288 ?_
  refine mm_at (pc' := 1289) rfl ?_
  refine mm_ialdKN (i + 1) dL_law_1289 rfl (by omega) (by omega) ?_
  refine mm_aload_n 1 dL_law_1290 rfl rfl ?_
  refine mm_iload_n 0 dL_law_1291 rfl rfl ?_
  refine mm_iconst (v := 2) dL_law_1292 rfl ?_
  refine mm_iaddN (i) (2) dL_law_1293 ?_
  refine mm_at (pc' := 1294) rfl ?_
  refine mm_ialdKN (i + 2) dL_law_1294 rfl (by omega) (by omega) ?_
  refine mm_aload_n 1 dL_law_1295 rfl rfl ?_
  refine mm_iload_n 0 dL_law_1296 rfl rfl ?_
  refine mm_iconst (v := 3) dL_law_1297 rfl ?_
  refine mm_iaddN (i) (3) dL_law_1298 ?_
  refine mm_at (pc' := 1299) rfl ?_
  refine mm_ialdKN (i + 3) dL_law_1299 rfl (by omega) (by omega) ?_
  have ex : op_mark K (g.2.2.2.2.2 (i + 1)) (g.2.2.2.2.2 (i + 2)) (g.2.2.2.2.2 (i + 3)) = ((op_mark I (g.2.2.2.2.2 (i + 1)) (g.2.2.2.2.2 (i + 2)) (g.2.2.2.2.2 (i + 3))).1, mx K (op_mark I (g.2.2.2.2.2 (i + 1)) (g.2.2.2.2.2 (i + 2)) (g.2.2.2.2.2 (i + 3))).2) := by
    have q : op_mark (mx K I) (g.2.2.2.2.2 (i + 1)) (g.2.2.2.2.2 (i + 2)) (g.2.2.2.2.2 (i + 3)) = ((op_mark I (g.2.2.2.2.2 (i + 1)) (g.2.2.2.2.2 (i + 2)) (g.2.2.2.2.2 (i + 3))).1, mx K (op_mark I (g.2.2.2.2.2 (i + 1)) (g.2.2.2.2.2 (i + 2)) (g.2.2.2.2.2 (i + 3))).2) := x_op_mark
    rw [← mx_eq hhi] at q
    exact q
  have hc : mm_Ci g zX12_mark (d - 1) [.ref 200, .int (g.2.2.2.2.2 (i + 1)), .int (g.2.2.2.2.2 (i + 2)), .int (g.2.2.2.2.2 (i + 3))] sh_S K (op_mark I (g.2.2.2.2.2 (i + 1)) (g.2.2.2.2.2 (i + 2)) (g.2.2.2.2.2 (i + 3))).1 (mx K (op_mark I (g.2.2.2.2.2 (i + 1)) (g.2.2.2.2.2 (i + 2)) (g.2.2.2.2.2 (i + 3))).2) := by
    have q : mm_Ci g zX12_mark (d - 1) [.ref 200, .int (g.2.2.2.2.2 (i + 1)), .int (g.2.2.2.2.2 (i + 2)), .int (g.2.2.2.2.2 (i + 3))] sh_S K (op_mark K (g.2.2.2.2.2 (i + 1)) (g.2.2.2.2.2 (i + 2)) (g.2.2.2.2.2 (i + 3))).1 (op_mark K (g.2.2.2.2.2 (i + 1)) (g.2.2.2.2.2 (i + 2)) (g.2.2.2.2.2 (i + 3))).2 := cm_mark (pl_c H.2.2.2.2.2 (hhi 205 (by decide))) (by omega)
    rw [ex] at q
    exact q
  refine mm_cV3i (dz := d - 1) dL_law_1300 rfl mzX12_mark ml_L_161 imX12_mark (by omega) so_200 ⟨rfl, rfl⟩ hc (Nat.le_of_ble_eq_true rfl) hAM ?_
  refine mm_at (pc' := 1303) rfl ?_
  exact mm_icmp_eq (tgt := 1394) dL_law_1303 (by decide) (fun _ => hk _ (RC_mx hR)) (fun q => absurd he q)
set_option maxRecDepth 100000 in
theorem lw_copy {g : mm_G} {d : Nat} {Al Mt : Nat × Nat} {I : mm_I} {i : Nat} {Q : Option Value → mm_Sh → mm_I → Prop} (H : RC I) (hAM : Al.1 ≤ Mt.1 ∧ Al.2 ≤ Mt.2) (hi : i + 6 ≤ g.2.2.2.2.1) (hL : g.2.2.2.2.1 ≤ 3072) (hd : 161 ≤ d) (hk : ∀ I2, RC I2 → mm_Ex g zL_law d Al Mt sh_S I2 1394 [(3, .int (nI i)), (0, .ref (mm_KB + 0)), (1, .ref 0), (2, .ref 200)] [] Q) : mm_Ex g zL_law d Al Mt sh_S I 1308 [(3, .int (nI i)), (0, .ref (mm_KB + 0)), (1, .ref 0), (2, .ref 200)] [] Q := by
  obtain ⟨w, h, n, l, k, o, r, T, hS⟩ := H.1
  have hV := hS.1
  refine mm_aload_n 2 dL_law_1308 rfl rfl ?_
  refine mm_aload_n 1 dL_law_1309 rfl rfl ?_
  refine mm_iload_n 0 dL_law_1310 rfl rfl ?_
  refine mm_iconst (v := 1) dL_law_1311 rfl ?_
  refine mm_iaddN (i) (1) dL_law_1312 ?_
  refine mm_at (pc' := 1313) rfl ?_
  refine mm_ialdKN (i + 1) dL_law_1313 rfl (by omega) (by omega) ?_
  refine mm_aload_n 1 dL_law_1314 rfl rfl ?_
  refine mm_iload_n 0 dL_law_1315 rfl rfl ?_
  refine mm_iconst (v := 2) dL_law_1316 rfl ?_
  refine mm_iaddN (i) (2) dL_law_1317 ?_
  refine mm_at (pc' := 1318) rfl ?_
  refine mm_ialdKN (i + 2) dL_law_1318 rfl (by omega) (by omega) ?_
  refine mm_aload_n 1 dL_law_1319 rfl rfl ?_
  refine mm_iload_n 0 dL_law_1320 rfl rfl ?_
  refine mm_iconst (v := 3) dL_law_1321 rfl ?_
  refine mm_iaddN (i) (3) dL_law_1322 ?_
  refine mm_at (pc' := 1323) rfl ?_
  refine mm_ialdKN (i + 3) dL_law_1323 rfl (by omega) (by omega) ?_
  refine mm_aload_n 1 dL_law_1324 rfl rfl ?_
  refine mm_iload_n 0 dL_law_1325 rfl rfl ?_
  refine mm_iconst (v := 4) dL_law_1326 rfl ?_
  refine mm_iaddN (i) (4) dL_law_1327 ?_
  refine mm_at (pc' := 1328) rfl ?_
  refine mm_ialdKN (i + 4) dL_law_1328 rfl (by omega) (by omega) ?_
  refine mm_aload_n 1 dL_law_1329 rfl rfl ?_
  refine mm_iload_n 0 dL_law_1330 rfl rfl ?_
  refine mm_iconst (v := 5) dL_law_1331 rfl ?_
  refine mm_iaddN (i) (5) dL_law_1332 ?_
  refine mm_at (pc' := 1333) rfl ?_
  refine mm_ialdKN (i + 5) dL_law_1333 rfl (by omega) (by omega) ?_
  refine mm_dV5i (dz := d - 1) dL_law_1334 rfl mzX11_copy ml_L_162 imX11_copy (by omega) so_0 ⟨rfl, rfl⟩ (cl_copy H (by omega)) (Nat.le_of_ble_eq_true rfl) hAM (fun w_ K hK => ?_)
  obtain ⟨hhi, he, hR⟩ := hK
  have e201 : K 201 = I 201 := hhi 201 (by decide)
  have e200 : K 200 = I 200 := hhi 200 (by decide)
  refine mm_at (pc' := 1337) rfl ?_
  refine mm_aload_n 3 dL_law_1337 rfl rfl ?_
  refine mm_aload_n 1 dL_law_1338 rfl rfl ?_
  refine mm_iload_n 0 dL_law_1339 rfl rfl ?_
  refine mm_iconst (v := 1) dL_law_1340 rfl ?_
  refine mm_iaddN (i) (1) dL_law_1341 ?_
  refine mm_at (pc' := 1342) rfl ?_
  refine mm_ialdKN (i + 1) dL_law_1342 rfl (by omega) (by omega) ?_
  refine mm_aload_n 1 dL_law_1343 rfl rfl ?_
  refine mm_iload_n 0 dL_law_1344 rfl rfl ?_
  refine mm_iconst (v := 2) dL_law_1345 rfl ?_
  refine mm_iaddN (i) (2) dL_law_1346 ?_
  refine mm_at (pc' := 1347) rfl ?_
  refine mm_ialdKN (i + 2) dL_law_1347 rfl (by omega) (by omega) ?_
  refine mm_aload_n 1 dL_law_1348 rfl rfl ?_
  refine mm_iload_n 0 dL_law_1349 rfl rfl ?_
  refine mm_iconst (v := 3) dL_law_1350 rfl ?_
  refine mm_iaddN (i) (3) dL_law_1351 ?_
  refine mm_at (pc' := 1352) rfl ?_
  refine mm_ialdKN (i + 3) dL_law_1352 rfl (by omega) (by omega) ?_
  refine mm_aload_n 1 dL_law_1353 rfl rfl ?_
  refine mm_iload_n 0 dL_law_1354 rfl rfl ?_
  refine mm_iconst (v := 4) dL_law_1355 rfl ?_
  refine mm_iaddN (i) (4) dL_law_1356 ?_
  refine mm_at (pc' := 1357) rfl ?_
  refine mm_ialdKN (i + 4) dL_law_1357 rfl (by omega) (by omega) ?_
  refine mm_aload_n 1 dL_law_1358 rfl rfl ?_
  refine mm_iload_n 0 dL_law_1359 rfl rfl ?_
  refine mm_iconst (v := 5) dL_law_1360 rfl ?_
  refine mm_iaddN (i) (5) dL_law_1361 ?_
  refine mm_at (pc' := 1362) rfl ?_
  refine mm_ialdKN (i + 5) dL_law_1362 rfl (by omega) (by omega) ?_
  have ex : op_copy K (g.2.2.2.2.2 (i + 1)) (g.2.2.2.2.2 (i + 2)) (g.2.2.2.2.2 (i + 3)) (g.2.2.2.2.2 (i + 4)) (g.2.2.2.2.2 (i + 5)) = ((op_copy I (g.2.2.2.2.2 (i + 1)) (g.2.2.2.2.2 (i + 2)) (g.2.2.2.2.2 (i + 3)) (g.2.2.2.2.2 (i + 4)) (g.2.2.2.2.2 (i + 5))).1, mx K (op_copy I (g.2.2.2.2.2 (i + 1)) (g.2.2.2.2.2 (i + 2)) (g.2.2.2.2.2 (i + 3)) (g.2.2.2.2.2 (i + 4)) (g.2.2.2.2.2 (i + 5))).2) := by
    have q : op_copy (mx K I) (g.2.2.2.2.2 (i + 1)) (g.2.2.2.2.2 (i + 2)) (g.2.2.2.2.2 (i + 3)) (g.2.2.2.2.2 (i + 4)) (g.2.2.2.2.2 (i + 5)) = ((op_copy I (g.2.2.2.2.2 (i + 1)) (g.2.2.2.2.2 (i + 2)) (g.2.2.2.2.2 (i + 3)) (g.2.2.2.2.2 (i + 4)) (g.2.2.2.2.2 (i + 5))).1, mx K (op_copy I (g.2.2.2.2.2 (i + 1)) (g.2.2.2.2.2 (i + 2)) (g.2.2.2.2.2 (i + 3)) (g.2.2.2.2.2 (i + 4)) (g.2.2.2.2.2 (i + 5))).2) := x_op_copy
    rw [← mx_eq hhi] at q
    exact q
  have hc : mm_Ci g zX12_copy (d - 1) [.ref 200, .int (g.2.2.2.2.2 (i + 1)), .int (g.2.2.2.2.2 (i + 2)), .int (g.2.2.2.2.2 (i + 3)), .int (g.2.2.2.2.2 (i + 4)), .int (g.2.2.2.2.2 (i + 5))] sh_S K (op_copy I (g.2.2.2.2.2 (i + 1)) (g.2.2.2.2.2 (i + 2)) (g.2.2.2.2.2 (i + 3)) (g.2.2.2.2.2 (i + 4)) (g.2.2.2.2.2 (i + 5))).1 (mx K (op_copy I (g.2.2.2.2.2 (i + 1)) (g.2.2.2.2.2 (i + 2)) (g.2.2.2.2.2 (i + 3)) (g.2.2.2.2.2 (i + 4)) (g.2.2.2.2.2 (i + 5))).2) := by
    have q : mm_Ci g zX12_copy (d - 1) [.ref 200, .int (g.2.2.2.2.2 (i + 1)), .int (g.2.2.2.2.2 (i + 2)), .int (g.2.2.2.2.2 (i + 3)), .int (g.2.2.2.2.2 (i + 4)), .int (g.2.2.2.2.2 (i + 5))] sh_S K (op_copy K (g.2.2.2.2.2 (i + 1)) (g.2.2.2.2.2 (i + 2)) (g.2.2.2.2.2 (i + 3)) (g.2.2.2.2.2 (i + 4)) (g.2.2.2.2.2 (i + 5))).1 (op_copy K (g.2.2.2.2.2 (i + 1)) (g.2.2.2.2.2 (i + 2)) (g.2.2.2.2.2 (i + 3)) (g.2.2.2.2.2 (i + 4)) (g.2.2.2.2.2 (i + 5))).2 := cm_copy (pl_c H.2.2.2.2.2 (hhi 205 (by decide))) (by omega)
    rw [ex] at q
    exact q
  refine mm_cV5i (dz := d - 1) dL_law_1363 rfl mzX12_copy ml_L_166 imX12_copy (by omega) so_200 ⟨rfl, rfl⟩ hc (Nat.le_of_ble_eq_true rfl) hAM ?_
  refine mm_at (pc' := 1366) rfl ?_
  exact mm_icmp_eq (tgt := 1394) dL_law_1366 (by decide) (fun _ => hk _ (RC_mx hR)) (fun q => absurd he q)
set_option maxRecDepth 100000 in
theorem lw_count {g : mm_G} {d : Nat} {Al Mt : Nat × Nat} {I : mm_I} {i : Nat} {Q : Option Value → mm_Sh → mm_I → Prop} (H : RC I) (hAM : Al.1 ≤ Mt.1 ∧ Al.2 ≤ Mt.2) (hi : i + 6 ≤ g.2.2.2.2.1) (hL : g.2.2.2.2.1 ≤ 3072) (hd : 161 ≤ d) (hk : ∀ I2, RC I2 → mm_Ex g zL_law d Al Mt sh_S I2 1394 [(3, .int (nI i)), (0, .ref (mm_KB + 0)), (1, .ref 0), (2, .ref 200)] [] Q) : mm_Ex g zL_law d Al Mt sh_S I 1371 [(3, .int (nI i)), (0, .ref (mm_KB + 0)), (1, .ref 0), (2, .ref 200)] [] Q := by
  obtain ⟨w, h, n, l, k, o, r, T, hS⟩ := H.1
  have hV := hS.1
  refine mm_aload_n 2 dL_law_1371 rfl rfl ?_
  refine mm_aload_n 1 dL_law_1372 rfl rfl ?_
  refine mm_iload_n 0 dL_law_1373 rfl rfl ?_
  refine mm_iconst (v := 1) dL_law_1374 rfl ?_
  refine mm_iaddN (i) (1) dL_law_1375 ?_
  refine mm_at (pc' := 1376) rfl ?_
  refine mm_ialdKN (i + 1) dL_law_1376 rfl (by omega) (by omega) ?_
  refine mm_dV1i (dz := d - 1) dL_law_1377 rfl mzX11_count ml_L_167 imX11_count (by omega) so_0 ⟨rfl, rfl⟩ (cl_count H hS (by omega)) (Nat.le_of_ble_eq_true rfl) hAM (fun w_ K hK => ?_)
  obtain ⟨hhi, he, hR⟩ := hK
  have e201 : K 201 = I 201 := hhi 201 (by decide)
  have e200 : K 200 = I 200 := hhi 200 (by decide)
  refine mm_at (pc' := 1380) rfl ?_
  refine mm_aload_n 3 dL_law_1380 rfl rfl ?_
  refine mm_aload_n 1 dL_law_1381 rfl rfl ?_
  refine mm_iload_n 0 dL_law_1382 rfl rfl ?_
  refine mm_iconst (v := 1) dL_law_1383 rfl ?_
  refine mm_iaddN (i) (1) dL_law_1384 ?_
  refine mm_at (pc' := 1385) rfl ?_
  refine mm_ialdKN (i + 1) dL_law_1385 rfl (by omega) (by omega) ?_
  have hc : mm_Ci g zX12_count (d - 1) [.ref 200, .int (g.2.2.2.2.2 (i + 1))] sh_S K (op_count w h I (g.2.2.2.2.2 (i + 1))) K := by
    have q : mm_Ci g zX12_count (d - 1) [.ref 200, .int (g.2.2.2.2.2 (i + 1))] sh_S K (op_count w h K (g.2.2.2.2.2 (i + 1))) K := cm_count (by rw [e201]; exact hS.1.1.1) (by omega)
    have ex : op_count w h K (g.2.2.2.2.2 (i + 1)) = op_count w h I (g.2.2.2.2.2 (i + 1)) := by
      have q : op_count w h (mx K I) (g.2.2.2.2.2 (i + 1)) = op_count w h I (g.2.2.2.2.2 (i + 1)) := x_op_count
      rw [← mx_eq hhi] at q
      exact q
    rw [ex] at q
    exact q
  refine mm_cV1i (dz := d - 1) dL_law_1386 rfl mzX12_count ml_L_170 imX12_count (by omega) so_200 ⟨rfl, rfl⟩ hc (Nat.le_of_ble_eq_true rfl) hAM ?_
  refine mm_at (pc' := 1389) rfl ?_
  have hRK : RC K := by
    have q := RC_mx hR
    rw [← mx_eq hhi] at q
    exact q
  exact mm_icmp_eq (tgt := 1394) dL_law_1389 (by decide) (fun _ => hk _ hRK) (fun q => absurd he q)
set_option maxRecDepth 100000 in
set_option maxHeartbeats 1000000 in
theorem lw_loop {g : mm_G} {d : Nat} {Al Mt : Nat × Nat} {Q : Option Value → mm_Sh → mm_I → Prop} (hAM : Al.1 ≤ Mt.1 ∧ Al.2 ≤ Mt.2) (hL : g.2.2.2.2.1 ≤ 3072) (hd : 161 ≤ d) (hq : ∀ I, Q (some (.int 1)) sh_S I) : ∀ (mf i : Nat) (I : mm_I), i ≤ 3078 → 3100 - i < mf → RC I → mm_Ex g zL_law d Al Mt sh_S I 18 [(3, .int (nI i)), (0, .ref (mm_KB + 0)), (1, .ref 0), (2, .ref 200)] [] Q := by
  intro mf
  induction mf with
  | zero => intro i I _ hmz; exact absurd hmz (Nat.not_lt_zero _)
  | succ mf ih =>
    intro i I hi3 hmz H
    have K : ∀ I2, i + 6 ≤ g.2.2.2.2.1 → RC I2 → mm_Ex g zL_law d Al Mt sh_S I2 1394 [(3, .int (nI i)), (0, .ref (mm_KB + 0)), (1, .ref 0), (2, .ref 200)] [] Q := by
      intro I2 hi H2
      refine mm_iincN (ls' := [(3, .int (nI (i + 6))), (0, .ref (mm_KB + 0)), (1, .ref 0), (2, .ref 200)]) 0 (i) 6 dL_law_1394 rfl rfl (by decide) rfl ?_
      refine mm_goto (tgt := 18) dL_law_1397 (by decide) ?_
      exact ih (i + 6) I2 (by omega) (by omega) H2
    have KE : ∀ I2, mm_Ex g zL_law d Al Mt sh_S I2 1400 [(3, .int (nI i)), (0, .ref (mm_KB + 0)), (1, .ref 0), (2, .ref 200)] [] Q := by
      intro I2
      refine mm_iconst (v := 1) dL_law_1400 rfl ?_
      exact mm_zret dL_law_1401 rfl (by decide) hAM (hq I2)
    refine mm_iload_n 0 dL_law_18 rfl rfl ?_
    refine mm_aload_n 1 dL_law_19 rfl rfl ?_
    refine mm_alenK (j := 0) dL_law_20 rfl ?_
    refine mm_bipush (v := 6) dL_law_21 rfl ?_
    refine mm_isub dL_law_23 ?_
    refine mm_icmp_gt (tgt := 1400) dL_law_24 (by decide) (fun _ => KE I) (fun c24 => ?_)
    have hi : i + 6 ≤ g.2.2.2.2.1 := by
      by_cases z : 6 ≤ g.2.2.2.2.1
      · rw [show (6 : Int32) = nI 6 from rfl, pk_sub z] at c24
        have := Nat.not_lt.mp (fun q => c24 ((nI_ltI (by omega) (by omega)).mpr q))
        omega
      · exfalso
        apply c24
        have hz : ∀ x : Nat, x < 6 → nI x - 6 < 0 := by decide
        exact Int32.lt_of_lt_of_le (hz _ (by omega)) (nI_pos' (by omega))
    refine mm_aload_n 1 dL_law_27 rfl rfl ?_
    refine mm_iload_n 0 dL_law_28 rfl rfl ?_
    refine mm_ialdKN (i) dL_law_29 rfl (by omega) (by omega) ?_
    refine mm_bipush (v := 63) dL_law_30 rfl ?_
    refine mm_iand dL_law_32 ?_
    refine mm_at (pc' := 33) rfl ?_
    by_cases c_0 : (g.2.2.2.2.2 i &&& 63 : Int32) = 0
    · exact mm_tabIn (0) (tgt := 200) dL_law_33 c_0 (by decide) (by decide) rfl (by decide) (lw_ground H hAM hi hL hd (fun I2 H2 => K I2 hi H2))
    by_cases c_1 : (g.2.2.2.2.2 i &&& 63 : Int32) = 1
    · exact mm_tabIn (1) (tgt := 233) dL_law_33 c_1 (by decide) (by decide) rfl (by decide) (lw_cell H hAM hi hL hd (fun I2 H2 => K I2 hi H2))
    by_cases c_2 : (g.2.2.2.2.2 i &&& 63 : Int32) = 2
    · exact mm_tabIn (2) (tgt := 266) dL_law_33 c_2 (by decide) (by decide) rfl (by decide) (lw_put H hAM hi hL hd (fun I2 H2 => K I2 hi H2))
    by_cases c_3 : (g.2.2.2.2.2 i &&& 63 : Int32) = 3
    · exact mm_tabIn (3) (tgt := 309) dL_law_33 c_3 (by decide) (by decide) rfl (by decide) (lw_told H hAM hi hL hd (fun I2 H2 => K I2 hi H2))
    by_cases c_4 : (g.2.2.2.2.2 i &&& 63 : Int32) = 4
    · exact mm_tabIn (4) (tgt := 342) dL_law_33 c_4 (by decide) (by decide) rfl (by decide) (lw_isOf H hAM hi hL hd (fun I2 H2 => K I2 hi H2))
    by_cases c_5 : (g.2.2.2.2.2 i &&& 63 : Int32) = 5
    · exact mm_tabIn (5) (tgt := 375) dL_law_33 c_5 (by decide) (by decide) rfl (by decide) (lw_map H hAM hi hL hd (fun I2 H2 => K I2 hi H2))
    by_cases c_6 : (g.2.2.2.2.2 i &&& 63 : Int32) = 6
    · exact mm_tabIn (6) (tgt := 408) dL_law_33 c_6 (by decide) (by decide) rfl (by decide) (lw_lay H hAM hi hL hd (fun I2 H2 => K I2 hi H2))
    by_cases c_7 : (g.2.2.2.2.2 i &&& 63 : Int32) = 7
    · exact mm_tabIn (7) (tgt := 431) dL_law_33 c_7 (by decide) (by decide) rfl (by decide) (lw_steps H hAM hi hL hd (fun I2 H2 => K I2 hi H2))
    by_cases c_8 : (g.2.2.2.2.2 i &&& 63 : Int32) = 8
    · exact mm_tabIn (8) (tgt := 464) dL_law_33 c_8 (by decide) (by decide) rfl (by decide) (lw_store H hAM hi hL hd (fun I2 H2 => K I2 hi H2))
    by_cases c_9 : (g.2.2.2.2.2 i &&& 63 : Int32) = 9
    · exact mm_tabIn (9) (tgt := 497) dL_law_33 c_9 (by decide) (by decide) rfl (by decide) (lw_rule H hAM hi hL hd (fun I2 H2 => K I2 hi H2))
    by_cases c_10 : (g.2.2.2.2.2 i &&& 63 : Int32) = 10
    · exact mm_tabIn (10) (tgt := 530) dL_law_33 c_10 (by decide) (by decide) rfl (by decide) (lw_load H hAM hi hL hd (fun I2 H2 => K I2 hi H2))
    by_cases c_11 : (g.2.2.2.2.2 i &&& 63 : Int32) = 11
    · exact mm_tabIn (11) (tgt := 563) dL_law_33 c_11 (by decide) (by decide) rfl (by decide) (lw_base H hAM hi hL hd (fun I2 H2 => K I2 hi H2))
    by_cases c_12 : (g.2.2.2.2.2 i &&& 63 : Int32) = 12
    · exact mm_tabIn (12) (tgt := 586) dL_law_33 c_12 (by decide) (by decide) rfl (by decide) (lw_machine H hAM hi hL hd (fun I2 H2 => K I2 hi H2))
    by_cases c_13 : (g.2.2.2.2.2 i &&& 63 : Int32) = 13
    · exact mm_tabIn (13) (tgt := 619) dL_law_33 c_13 (by decide) (by decide) rfl (by decide) (lw_is H hAM hi hL hd (fun I2 H2 => K I2 hi H2))
    by_cases c_14 : (g.2.2.2.2.2 i &&& 63 : Int32) = 14
    · exact mm_tabIn (14) (tgt := 652) dL_law_33 c_14 (by decide) (by decide) rfl (by decide) (lw_tune H hAM hi hL hd (fun I2 H2 => K I2 hi H2))
    by_cases c_15 : (g.2.2.2.2.2 i &&& 63 : Int32) = 15
    · exact mm_tabIn (15) (tgt := 695) dL_law_33 c_15 (by decide) (by decide) rfl (by decide) (lw_has H hAM hi hL hd (fun I2 H2 => K I2 hi H2))
    by_cases c_16 : (g.2.2.2.2.2 i &&& 63 : Int32) = 16
    · exact mm_tabIn (16) (tgt := 728) dL_law_33 c_16 (by decide) (by decide) rfl (by decide) (lw_feed H hAM hi hL hd (fun I2 H2 => K I2 hi H2))
    by_cases c_17 : (g.2.2.2.2.2 i &&& 63 : Int32) = 17
    · exact mm_tabIn (17) (tgt := 771) dL_law_33 c_17 (by decide) (by decide) rfl (by decide) (lw_trim H hAM hi hL hd (fun I2 H2 => K I2 hi H2))
    by_cases c_18 : (g.2.2.2.2.2 i &&& 63 : Int32) = 18
    · exact mm_tabIn (18) (tgt := 794) dL_law_33 c_18 (by decide) (by decide) rfl (by decide) (lw_program H hAM hi hL hd (fun I2 H2 => K I2 hi H2))
    by_cases c_19 : (g.2.2.2.2.2 i &&& 63 : Int32) = 19
    · exact mm_tabIn (19) (tgt := 817) dL_law_33 c_19 (by decide) (by decide) rfl (by decide) (lw_send H hAM hi hL hd (fun I2 H2 => K I2 hi H2))
    by_cases c_20 : (g.2.2.2.2.2 i &&& 63 : Int32) = 20
    · exact mm_tabIn (20) (tgt := 850) dL_law_33 c_20 (by decide) (by decide) rfl (by decide) (lw_order H hAM hi hL hd (fun I2 H2 => K I2 hi H2))
    by_cases c_21 : (g.2.2.2.2.2 i &&& 63 : Int32) = 21
    · exact mm_tabIn (21) (tgt := 883) dL_law_33 c_21 (by decide) (by decide) rfl (by decide) (lw_run H hAM hi hL hd (fun I2 H2 => K I2 hi H2))
    by_cases c_22 : (g.2.2.2.2.2 i &&& 63 : Int32) = 22
    · exact mm_tabIn (22) (tgt := 906) dL_law_33 c_22 (by decide) (by decide) rfl (by decide) (lw_land H hAM hi hL hd (fun I2 H2 => K I2 hi H2))
    by_cases c_23 : (g.2.2.2.2.2 i &&& 63 : Int32) = 23
    · exact mm_tabIn (23) (tgt := 939) dL_law_33 c_23 (by decide) (by decide) rfl (by decide) (lw_kilos H hAM hi hL hd (fun I2 H2 => K I2 hi H2))
    by_cases c_24 : (g.2.2.2.2.2 i &&& 63 : Int32) = 24
    · exact mm_tabIn (24) (tgt := 962) dL_law_33 c_24 (by decide) (by decide) rfl (by decide) (lw_night H hAM hi hL hd (fun I2 H2 => K I2 hi H2))
    by_cases c_25 : (g.2.2.2.2.2 i &&& 63 : Int32) = 25
    · exact mm_tabIn (25) (tgt := 985) dL_law_33 c_25 (by decide) (by decide) rfl (by decide) (lw_cut H hAM hi hL hd (fun I2 H2 => K I2 hi H2))
    by_cases c_26 : (g.2.2.2.2.2 i &&& 63 : Int32) = 26
    · exact mm_tabIn (26) (tgt := 1008) dL_law_33 c_26 (by decide) (by decide) rfl (by decide) (lw_work H hAM hi hL hd (fun I2 H2 => K I2 hi H2))
    by_cases c_27 : (g.2.2.2.2.2 i &&& 63 : Int32) = 27
    · exact mm_tabIn (27) (tgt := 1061) dL_law_33 c_27 (by decide) (by decide) rfl (by decide) (lw_clear H hAM hi hL hd (fun I2 H2 => K I2 hi H2))
    by_cases c_28 : (g.2.2.2.2.2 i &&& 63 : Int32) = 28
    · exact mm_tabIn (28) (tgt := 1074) dL_law_33 c_28 (by decide) (by decide) rfl (by decide) (lw_plan H hAM hi hL hd (fun I2 H2 => K I2 hi H2))
    by_cases c_29 : (g.2.2.2.2.2 i &&& 63 : Int32) = 29
    · exact mm_tabIn (29) (tgt := 1107) dL_law_33 c_29 (by decide) (by decide) rfl (by decide) (lw_planned H hAM hi hL hd (fun I2 H2 => K I2 hi H2))
    by_cases c_30 : (g.2.2.2.2.2 i &&& 63 : Int32) = 30
    · exact mm_tabIn (30) (tgt := 1150) dL_law_33 c_30 (by decide) (by decide) rfl (by decide) (lw_tell H hAM hi hL hd (fun I2 H2 => K I2 hi H2))
    by_cases c_31 : (g.2.2.2.2.2 i &&& 63 : Int32) = 31
    · exact mm_tabIn (31) (tgt := 1173) dL_law_33 c_31 (by decide) (by decide) rfl (by decide) (lw_check H hAM hi hL hd (fun I2 H2 => K I2 hi H2))
    by_cases c_32 : (g.2.2.2.2.2 i &&& 63 : Int32) = 32
    · exact mm_tabIn (32) (tgt := 1206) dL_law_33 c_32 (by decide) (by decide) rfl (by decide) (lw_keep H hAM hi hL hd (fun I2 H2 => K I2 hi H2))
    by_cases c_33 : (g.2.2.2.2.2 i &&& 63 : Int32) = 33
    · exact mm_tabIn (33) (tgt := 1219) dL_law_33 c_33 (by decide) (by decide) rfl (by decide) (lw_back H hAM hi hL hd (fun I2 H2 => K I2 hi H2))
    by_cases c_34 : (g.2.2.2.2.2 i &&& 63 : Int32) = 34
    · exact mm_tabIn (34) (tgt := 1232) dL_law_33 c_34 (by decide) (by decide) rfl (by decide) (lw_sheet H hAM hi hL hd (fun I2 H2 => K I2 hi H2))
    by_cases c_35 : (g.2.2.2.2.2 i &&& 63 : Int32) = 35
    · exact mm_tabIn (35) (tgt := 1265) dL_law_33 c_35 (by decide) (by decide) rfl (by decide) (lw_mark H hAM hi hL hd (fun I2 H2 => K I2 hi H2))
    by_cases c_36 : (g.2.2.2.2.2 i &&& 63 : Int32) = 36
    · exact mm_tabIn (36) (tgt := 1308) dL_law_33 c_36 (by decide) (by decide) rfl (by decide) (lw_copy H hAM hi hL hd (fun I2 H2 => K I2 hi H2))
    by_cases c_37 : (g.2.2.2.2.2 i &&& 63 : Int32) = 37
    · exact mm_tabIn (37) (tgt := 1371) dL_law_33 c_37 (by decide) (by decide) rfl (by decide) (lw_count H hAM hi hL hd (fun I2 H2 => K I2 hi H2))
    refine mm_tabOut 0 38 (tgt := 1394) dL_law_33 (by decide) (by decide) (fun q hq38 => ?_) (by decide) (K I hi H)
    rcases show q = 0 ∨ q = 1 ∨ q = 2 ∨ q = 3 ∨ q = 4 ∨ q = 5 ∨ q = 6 ∨ q = 7 ∨ q = 8 ∨ q = 9 ∨ q = 10 ∨ q = 11 ∨ q = 12 ∨ q = 13 ∨ q = 14 ∨ q = 15 ∨ q = 16 ∨ q = 17 ∨ q = 18 ∨ q = 19 ∨ q = 20 ∨ q = 21 ∨ q = 22 ∨ q = 23 ∨ q = 24 ∨ q = 25 ∨ q = 26 ∨ q = 27 ∨ q = 28 ∨ q = 29 ∨ q = 30 ∨ q = 31 ∨ q = 32 ∨ q = 33 ∨ q = 34 ∨ q = 35 ∨ q = 36 ∨ q = 37 by omega with z | z | z | z | z | z | z | z | z | z | z | z | z | z | z | z | z | z | z | z | z | z | z | z | z | z | z | z | z | z | z | z | z | z | z | z | z | z <;> subst z
    · exact c_0
    · exact c_1
    · exact c_2
    · exact c_3
    · exact c_4
    · exact c_5
    · exact c_6
    · exact c_7
    · exact c_8
    · exact c_9
    · exact c_10
    · exact c_11
    · exact c_12
    · exact c_13
    · exact c_14
    · exact c_15
    · exact c_16
    · exact c_17
    · exact c_18
    · exact c_19
    · exact c_20
    · exact c_21
    · exact c_22
    · exact c_23
    · exact c_24
    · exact c_25
    · exact c_26
    · exact c_27
    · exact c_28
    · exact c_29
    · exact c_30
    · exact c_31
    · exact c_32
    · exact c_33
    · exact c_34
    · exact c_35
    · exact c_36
    · exact c_37
