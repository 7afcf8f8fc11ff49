/-! THE LAW: the calls, one by one -/
set_option maxHeartbeats 4000000 in
set_option maxRecDepth 100000 in
theorem lc_0 {l : Launch} {X : Cx} {V : Vx} {Q : State → Prop} {I : Nat → Nat → Int32} {L : Nat → Nat → Int64} {g : Sg} {b Ln i : Nat} {xs : Nat → Int32} (C : CX l X V RL cL_law 4 wsL_law 20 106 7121 ret) (hz : V.2.2.2.2.2 = false) (hX : va_X b Ln xs X.2.2.2.2.1 X.2.2.2.2.1.heap) (hbl : b < X.2.2.2.2.1.heap.size) (hB : V.2.2.1 = X.2.2.2.2.1.heap.size) (hL : Ln ≤ 3072) (hi : i + 6 ≤ Ln) (hC : AbC I L g) (hM : AbM I L g) (ok : okG g)
    (NX : ∀ I' L' g', AbC I' L' g' → AbM I' L' g' → okG g' → J X V Q 4 106 106 7121 1136 [(0, .ref b), (1, .ref (ad V 0)), (2, .ref (ad V 85)), (3, .int (nI i))] [] (mm V I' L')) : J X V Q 4 106 106 7121 188 [(0, .ref b), (1, .ref (ad V 0)), (2, .ref (ad V 85)), (3, .int (nI i))] [] (mm V I L) := by
  obtain ⟨o1, hx1⟩ := AG_ex (xs (i + 1))
  refine J.aload_n C dL_law_188 rfl ?_
  refine J.aload_n C dL_law_189 rfl ?_
  refine J.iload_n C dL_law_190 rfl ?_
  refine J.iconst C dL_law_191 (v := (nI 1)) (by decide) ?_
  first | refine J.iadd_n C dL_law_192 ?_ | refine J.iadd C dL_law_192 ?_
  refine J.sld C hX hbl hB rfl (by omega) hL dL_law_193 ?_
  refine J.cVGi (q := (RX5, TX5, 11)) (ci := 5) C (ok_X5_lanes l V  _ _ hx1 hz hC ok) gL_law_X5_lanes rfl mfX5_lanes rfl (by decide) (by decide) (by first | decide | omega) rfl rfl rfl rfl (Nat.le_of_ble_eq_true rfl) dL_law_194 (Nat.le_refl _) (Nat.le_refl _) (fun r194 I194 L194 h194 => ?_)
  obtain ⟨rfl, hC1, hfr, hfl⟩ := h194
  have hM1 := AbM_cg hM hfr hfl
  refine J.aload_n C dL_law_197 rfl ?_
  refine J.aload_n C dL_law_198 rfl ?_
  refine J.iload_n C dL_law_199 rfl ?_
  refine J.iconst C dL_law_200 (v := (nI 1)) (by decide) ?_
  first | refine J.iadd_n C dL_law_201 ?_ | refine J.iadd C dL_law_201 ?_
  refine J.sld C hX hbl hB rfl (by omega) hL dL_law_202 ?_
  refine J.cVGi (q := (RX6, TX6, 25)) (ci := 6) C (ok_X6_lanes l V  _ _ hx1 hM1 ok) gL_law_X6_lanes rfl mfX6_lanes rfl (by decide) (by decide) (by first | decide | omega) rfl rfl rfl rfl (Nat.le_of_ble_eq_true rfl) dL_law_203 (Nat.le_refl _) (Nat.le_refl _) (fun r203 I203 L203 h203 => ?_)
  obtain ⟨rfl, hM2, hfr2, hfl2⟩ := h203
  have hC2 := AbC_cg hC1 hfr2 hfl2
  refine J.icmp_eq C dL_law_206 (tgt := 1136) (by decide) (fun _ => ?_) (fun c206 => absurd c206 (fun q => q rfl))
  exact NX _ _ _ hC2 hM2 (kG_lanes ok)
set_option maxHeartbeats 4000000 in
set_option maxRecDepth 100000 in
theorem lc_1 {l : Launch} {X : Cx} {V : Vx} {Q : State → Prop} {I : Nat → Nat → Int32} {L : Nat → Nat → Int64} {g : Sg} {b Ln i : Nat} {xs : Nat → Int32} (C : CX l X V RL cL_law 4 wsL_law 20 106 7121 ret) (hz : V.2.2.2.2.2 = false) (hX : va_X b Ln xs X.2.2.2.2.1 X.2.2.2.2.1.heap) (hbl : b < X.2.2.2.2.1.heap.size) (hB : V.2.2.1 = X.2.2.2.2.1.heap.size) (hL : Ln ≤ 3072) (hi : i + 6 ≤ Ln) (hC : AbC I L g) (hM : AbM I L g) (ok : okG g)
    (NX : ∀ I' L' g', AbC I' L' g' → AbM I' L' g' → okG g' → J X V Q 4 106 106 7121 1136 [(0, .ref b), (1, .ref (ad V 0)), (2, .ref (ad V 85)), (3, .int (nI i))] [] (mm V I' L')) : J X V Q 4 106 106 7121 211 [(0, .ref b), (1, .ref (ad V 0)), (2, .ref (ad V 85)), (3, .int (nI i))] [] (mm V I L) := by
  obtain ⟨o1, hx1⟩ := AG_ex (xs (i + 1))
  obtain ⟨o2, hx2⟩ := AG_ex (xs (i + 2))
  obtain ⟨o3, hx3⟩ := AG_ex (xs (i + 3))
  refine J.aload_n C dL_law_211 rfl ?_
  refine J.aload_n C dL_law_212 rfl ?_
  refine J.iload_n C dL_law_213 rfl ?_
  refine J.iconst C dL_law_214 (v := (nI 1)) (by decide) ?_
  first | refine J.iadd_n C dL_law_215 ?_ | refine J.iadd C dL_law_215 ?_
  refine J.sld C hX hbl hB rfl (by omega) hL dL_law_216 ?_
  refine J.aload_n C dL_law_217 rfl ?_
  refine J.iload_n C dL_law_218 rfl ?_
  refine J.iconst C dL_law_219 (v := (nI 2)) (by decide) ?_
  first | refine J.iadd_n C dL_law_220 ?_ | refine J.iadd C dL_law_220 ?_
  refine J.sld C hX hbl hB rfl (by omega) hL dL_law_221 ?_
  refine J.aload_n C dL_law_222 rfl ?_
  refine J.iload_n C dL_law_223 rfl ?_
  refine J.iconst C dL_law_224 (v := (nI 3)) (by decide) ?_
  first | refine J.iadd_n C dL_law_225 ?_ | refine J.iadd C dL_law_225 ?_
  refine J.sld C hX hbl hB rfl (by omega) hL dL_law_226 ?_
  refine J.cVGi (q := (RX5, TX5, 11)) (ci := 5) C (ok_X5_comparer l V  _ _ hx1 hx2 hx3 hz hC ok) gL_law_X5_comparer rfl mfX5_comparer rfl (by decide) (by decide) (by first | decide | omega) rfl rfl rfl rfl (Nat.le_of_ble_eq_true rfl) dL_law_227 (Nat.le_refl _) (Nat.le_refl _) (fun r227 I227 L227 h227 => ?_)
  obtain ⟨rfl, hC1, hfr, hfl⟩ := h227
  have hM1 := AbM_cg hM hfr hfl
  refine J.aload_n C dL_law_230 rfl ?_
  refine J.aload_n C dL_law_231 rfl ?_
  refine J.iload_n C dL_law_232 rfl ?_
  refine J.iconst C dL_law_233 (v := (nI 1)) (by decide) ?_
  first | refine J.iadd_n C dL_law_234 ?_ | refine J.iadd C dL_law_234 ?_
  refine J.sld C hX hbl hB rfl (by omega) hL dL_law_235 ?_
  refine J.aload_n C dL_law_236 rfl ?_
  refine J.iload_n C dL_law_237 rfl ?_
  refine J.iconst C dL_law_238 (v := (nI 2)) (by decide) ?_
  first | refine J.iadd_n C dL_law_239 ?_ | refine J.iadd C dL_law_239 ?_
  refine J.sld C hX hbl hB rfl (by omega) hL dL_law_240 ?_
  refine J.aload_n C dL_law_241 rfl ?_
  refine J.iload_n C dL_law_242 rfl ?_
  refine J.iconst C dL_law_243 (v := (nI 3)) (by decide) ?_
  first | refine J.iadd_n C dL_law_244 ?_ | refine J.iadd C dL_law_244 ?_
  refine J.sld C hX hbl hB rfl (by omega) hL dL_law_245 ?_
  refine J.cVGi (q := (RX6, TX6, 25)) (ci := 6) C (ok_X6_comparer l V  _ _ hx1 hx2 hx3 hM1 ok) gL_law_X6_comparer rfl mfX6_comparer rfl (by decide) (by decide) (by first | decide | omega) rfl rfl rfl rfl (Nat.le_of_ble_eq_true rfl) dL_law_246 (Nat.le_refl _) (Nat.le_refl _) (fun r246 I246 L246 h246 => ?_)
  obtain ⟨rfl, hM2, hfr2, hfl2⟩ := h246
  have hC2 := AbC_cg hC1 hfr2 hfl2
  refine J.icmp_eq C dL_law_249 (tgt := 1136) (by decide) (fun _ => ?_) (fun c249 => absurd c249 (fun q => q rfl))
  exact NX _ _ _ hC2 hM2 (kG_comparer ok)
set_option maxHeartbeats 4000000 in
set_option maxRecDepth 100000 in
theorem lc_2 {l : Launch} {X : Cx} {V : Vx} {Q : State → Prop} {I : Nat → Nat → Int32} {L : Nat → Nat → Int64} {g : Sg} {b Ln i : Nat} {xs : Nat → Int32} (C : CX l X V RL cL_law 4 wsL_law 20 106 7121 ret) (hz : V.2.2.2.2.2 = false) (hX : va_X b Ln xs X.2.2.2.2.1 X.2.2.2.2.1.heap) (hbl : b < X.2.2.2.2.1.heap.size) (hB : V.2.2.1 = X.2.2.2.2.1.heap.size) (hL : Ln ≤ 3072) (hi : i + 6 ≤ Ln) (hC : AbC I L g) (hM : AbM I L g) (ok : okG g)
    (NX : ∀ I' L' g', AbC I' L' g' → AbM I' L' g' → okG g' → J X V Q 4 106 106 7121 1136 [(0, .ref b), (1, .ref (ad V 0)), (2, .ref (ad V 85)), (3, .int (nI i))] [] (mm V I' L')) : J X V Q 4 106 106 7121 254 [(0, .ref b), (1, .ref (ad V 0)), (2, .ref (ad V 85)), (3, .int (nI i))] [] (mm V I L) := by
  obtain ⟨o1, hx1⟩ := AG_ex (xs (i + 1))
  refine J.aload_n C dL_law_254 rfl ?_
  refine J.aload_n C dL_law_255 rfl ?_
  refine J.iload_n C dL_law_256 rfl ?_
  refine J.iconst C dL_law_257 (v := (nI 1)) (by decide) ?_
  first | refine J.iadd_n C dL_law_258 ?_ | refine J.iadd C dL_law_258 ?_
  refine J.sld C hX hbl hB rfl (by omega) hL dL_law_259 ?_
  refine J.cVGi (q := (RX5, TX5, 11)) (ci := 5) C (ok_X5_cut l V  _ _ hx1 hz hC ok) gL_law_X5_cut rfl mfX5_cut rfl (by decide) (by decide) (by first | decide | omega) rfl rfl rfl rfl (Nat.le_of_ble_eq_true rfl) dL_law_260 (Nat.le_refl _) (Nat.le_refl _) (fun r260 I260 L260 h260 => ?_)
  obtain ⟨rfl, hC1, hfr, hfl⟩ := h260
  have hM1 := AbM_cg hM hfr hfl
  refine J.aload_n C dL_law_263 rfl ?_
  refine J.aload_n C dL_law_264 rfl ?_
  refine J.iload_n C dL_law_265 rfl ?_
  refine J.iconst C dL_law_266 (v := (nI 1)) (by decide) ?_
  first | refine J.iadd_n C dL_law_267 ?_ | refine J.iadd C dL_law_267 ?_
  refine J.sld C hX hbl hB rfl (by omega) hL dL_law_268 ?_
  refine J.cVGi (q := (RX6, TX6, 25)) (ci := 6) C (ok_X6_cut l V  _ _ hx1 hM1 ok) gL_law_X6_cut rfl mfX6_cut rfl (by decide) (by decide) (by first | decide | omega) rfl rfl rfl rfl (Nat.le_of_ble_eq_true rfl) dL_law_269 (Nat.le_refl _) (Nat.le_refl _) (fun r269 I269 L269 h269 => ?_)
  obtain ⟨rfl, hM2, hfr2, hfl2⟩ := h269
  have hC2 := AbC_cg hC1 hfr2 hfl2
  refine J.icmp_eq C dL_law_272 (tgt := 1136) (by decide) (fun _ => ?_) (fun c272 => absurd c272 (fun q => q rfl))
  exact NX _ _ _ hC2 hM2 (kG_cut ok)
set_option maxHeartbeats 4000000 in
set_option maxRecDepth 100000 in
theorem lc_3 {l : Launch} {X : Cx} {V : Vx} {Q : State → Prop} {I : Nat → Nat → Int32} {L : Nat → Nat → Int64} {g : Sg} {b Ln i : Nat} {xs : Nat → Int32} (C : CX l X V RL cL_law 4 wsL_law 20 106 7121 ret) (hz : V.2.2.2.2.2 = false) (hX : va_X b Ln xs X.2.2.2.2.1 X.2.2.2.2.1.heap) (hbl : b < X.2.2.2.2.1.heap.size) (hB : V.2.2.1 = X.2.2.2.2.1.heap.size) (hL : Ln ≤ 3072) (hi : i + 6 ≤ Ln) (hC : AbC I L g) (hM : AbM I L g) (ok : okG g)
    (NX : ∀ I' L' g', AbC I' L' g' → AbM I' L' g' → okG g' → J X V Q 4 106 106 7121 1136 [(0, .ref b), (1, .ref (ad V 0)), (2, .ref (ad V 85)), (3, .int (nI i))] [] (mm V I' L')) : J X V Q 4 106 106 7121 277 [(0, .ref b), (1, .ref (ad V 0)), (2, .ref (ad V 85)), (3, .int (nI i))] [] (mm V I L) := by
  obtain ⟨o1, hx1⟩ := AG_ex (xs (i + 1))
  obtain ⟨o2, hx2⟩ := AG_ex (xs (i + 2))
  refine J.aload_n C dL_law_277 rfl ?_
  refine J.aload_n C dL_law_278 rfl ?_
  refine J.iload_n C dL_law_279 rfl ?_
  refine J.iconst C dL_law_280 (v := (nI 1)) (by decide) ?_
  first | refine J.iadd_n C dL_law_281 ?_ | refine J.iadd C dL_law_281 ?_
  refine J.sld C hX hbl hB rfl (by omega) hL dL_law_282 ?_
  refine J.aload_n C dL_law_283 rfl ?_
  refine J.iload_n C dL_law_284 rfl ?_
  refine J.iconst C dL_law_285 (v := (nI 2)) (by decide) ?_
  first | refine J.iadd_n C dL_law_286 ?_ | refine J.iadd C dL_law_286 ?_
  refine J.sld C hX hbl hB rfl (by omega) hL dL_law_287 ?_
  refine J.cVGi (q := (RX5, TX5, 11)) (ci := 5) C (ok_X5_change l V  _ _ hx1 hx2 hz hC ok) gL_law_X5_change rfl mfX5_change rfl (by decide) (by decide) (by first | decide | omega) rfl rfl rfl rfl (Nat.le_of_ble_eq_true rfl) dL_law_288 (Nat.le_refl _) (Nat.le_refl _) (fun r288 I288 L288 h288 => ?_)
  obtain ⟨rfl, hC1, hfr, hfl⟩ := h288
  have hM1 := AbM_cg hM hfr hfl
  refine J.aload_n C dL_law_291 rfl ?_
  refine J.aload_n C dL_law_292 rfl ?_
  refine J.iload_n C dL_law_293 rfl ?_
  refine J.iconst C dL_law_294 (v := (nI 1)) (by decide) ?_
  first | refine J.iadd_n C dL_law_295 ?_ | refine J.iadd C dL_law_295 ?_
  refine J.sld C hX hbl hB rfl (by omega) hL dL_law_296 ?_
  refine J.aload_n C dL_law_297 rfl ?_
  refine J.iload_n C dL_law_298 rfl ?_
  refine J.iconst C dL_law_299 (v := (nI 2)) (by decide) ?_
  first | refine J.iadd_n C dL_law_300 ?_ | refine J.iadd C dL_law_300 ?_
  refine J.sld C hX hbl hB rfl (by omega) hL dL_law_301 ?_
  refine J.cVGi (q := (RX6, TX6, 25)) (ci := 6) C (ok_X6_change l V  _ _ hx1 hx2 hM1 ok) gL_law_X6_change rfl mfX6_change rfl (by decide) (by decide) (by first | decide | omega) rfl rfl rfl rfl (Nat.le_of_ble_eq_true rfl) dL_law_302 (Nat.le_refl _) (Nat.le_refl _) (fun r302 I302 L302 h302 => ?_)
  obtain ⟨rfl, hM2, hfr2, hfl2⟩ := h302
  have hC2 := AbC_cg hC1 hfr2 hfl2
  refine J.icmp_eq C dL_law_305 (tgt := 1136) (by decide) (fun _ => ?_) (fun c305 => absurd c305 (fun q => q rfl))
  exact NX _ _ _ hC2 hM2 (kG_change ok)
set_option maxHeartbeats 4000000 in
set_option maxRecDepth 100000 in
theorem lc_4 {l : Launch} {X : Cx} {V : Vx} {Q : State → Prop} {I : Nat → Nat → Int32} {L : Nat → Nat → Int64} {g : Sg} {b Ln i : Nat} {xs : Nat → Int32} (C : CX l X V RL cL_law 4 wsL_law 20 106 7121 ret) (hz : V.2.2.2.2.2 = false) (hX : va_X b Ln xs X.2.2.2.2.1 X.2.2.2.2.1.heap) (hbl : b < X.2.2.2.2.1.heap.size) (hB : V.2.2.1 = X.2.2.2.2.1.heap.size) (hL : Ln ≤ 3072) (hi : i + 6 ≤ Ln) (hC : AbC I L g) (hM : AbM I L g) (ok : okG g)
    (NX : ∀ I' L' g', AbC I' L' g' → AbM I' L' g' → okG g' → J X V Q 4 106 106 7121 1136 [(0, .ref b), (1, .ref (ad V 0)), (2, .ref (ad V 85)), (3, .int (nI i))] [] (mm V I' L')) : J X V Q 4 106 106 7121 310 [(0, .ref b), (1, .ref (ad V 0)), (2, .ref (ad V 85)), (3, .int (nI i))] [] (mm V I L) := by
  obtain ⟨o1, hx1⟩ := AG_ex (xs (i + 1))
  by_cases hq : xs (i + 2) = 0
  · refine J.aload_n C dL_law_310 rfl ?_
    refine J.aload_n C dL_law_311 rfl ?_
    refine J.iload_n C dL_law_312 rfl ?_
    refine J.iconst C dL_law_313 (v := (nI 1)) (by decide) ?_
    first | refine J.iadd_n C dL_law_314 ?_ | refine J.iadd C dL_law_314 ?_
    refine J.sld C hX hbl hB rfl (by omega) hL dL_law_315 ?_
    refine J.aload_n C dL_law_316 rfl ?_
    refine J.iload_n C dL_law_317 rfl ?_
    refine J.iconst C dL_law_318 (v := (nI 2)) (by decide) ?_
    first | refine J.iadd_n C dL_law_319 ?_ | refine J.iadd C dL_law_319 ?_
    refine J.sld C hX hbl hB rfl (by omega) hL dL_law_320 ?_
    refine J.if_eq C dL_law_321 (tgt := 328) (by decide) (fun _ => ?_) (fun c321 => absurd c321 (fun q => q hq))
    refine J.iconst C dL_law_328 (v := (nI 0)) (by decide) ?_
    refine J.cVGi (q := (RX5, TX5, 11)) (ci := 5) C (ok_X5_turnSwitch l V false _ _ hx1 hz hC ok) gL_law_X5_turnSwitch rfl mfX5_turnSwitch rfl (by decide) (by decide) (by first | decide | omega) rfl rfl rfl rfl (Nat.le_of_ble_eq_true rfl) dL_law_329 (Nat.le_refl _) (Nat.le_refl _) (fun r329 I329 L329 h329 => ?_)
    obtain ⟨rfl, hC1, hfr, hfl⟩ := h329
    have hM1 := AbM_cg hM hfr hfl
    refine J.aload_n C dL_law_332 rfl ?_
    refine J.aload_n C dL_law_333 rfl ?_
    refine J.iload_n C dL_law_334 rfl ?_
    refine J.iconst C dL_law_335 (v := (nI 1)) (by decide) ?_
    first | refine J.iadd_n C dL_law_336 ?_ | refine J.iadd C dL_law_336 ?_
    refine J.sld C hX hbl hB rfl (by omega) hL dL_law_337 ?_
    refine J.aload_n C dL_law_338 rfl ?_
    refine J.iload_n C dL_law_339 rfl ?_
    refine J.iconst C dL_law_340 (v := (nI 2)) (by decide) ?_
    first | refine J.iadd_n C dL_law_341 ?_ | refine J.iadd C dL_law_341 ?_
    refine J.sld C hX hbl hB rfl (by omega) hL dL_law_342 ?_
    refine J.if_eq C dL_law_343 (tgt := 350) (by decide) (fun _ => ?_) (fun c343 => absurd c343 (fun q => q hq))
    refine J.iconst C dL_law_350 (v := (nI 0)) (by decide) ?_
    refine J.cVGi (q := (RX6, TX6, 25)) (ci := 6) C (ok_X6_turnSwitch l V false _ _ hx1 hM1 ok) gL_law_X6_turnSwitch rfl mfX6_turnSwitch rfl (by decide) (by decide) (by first | decide | omega) rfl rfl rfl rfl (Nat.le_of_ble_eq_true rfl) dL_law_351 (Nat.le_refl _) (Nat.le_refl _) (fun r351 I351 L351 h351 => ?_)
    obtain ⟨rfl, hM2, hfr2, hfl2⟩ := h351
    have hC2 := AbC_cg hC1 hfr2 hfl2
    refine J.icmp_eq C dL_law_354 (tgt := 1136) (by decide) (fun _ => ?_) (fun c354 => absurd c354 (fun q => q rfl))
    exact NX _ _ _ hC2 hM2 (kG_turnSwitch ok)
  · refine J.aload_n C dL_law_310 rfl ?_
    refine J.aload_n C dL_law_311 rfl ?_
    refine J.iload_n C dL_law_312 rfl ?_
    refine J.iconst C dL_law_313 (v := (nI 1)) (by decide) ?_
    first | refine J.iadd_n C dL_law_314 ?_ | refine J.iadd C dL_law_314 ?_
    refine J.sld C hX hbl hB rfl (by omega) hL dL_law_315 ?_
    refine J.aload_n C dL_law_316 rfl ?_
    refine J.iload_n C dL_law_317 rfl ?_
    refine J.iconst C dL_law_318 (v := (nI 2)) (by decide) ?_
    first | refine J.iadd_n C dL_law_319 ?_ | refine J.iadd C dL_law_319 ?_
    refine J.sld C hX hbl hB rfl (by omega) hL dL_law_320 ?_
    refine J.if_eq C dL_law_321 (tgt := 328) (by decide) (fun c321 => absurd c321 hq) (fun _ => ?_)
    refine J.iconst C dL_law_324 (v := (nI 1)) (by decide) ?_
    refine J.goto C dL_law_325 (tgt := 329) (by decide) ?_
    refine J.cVGi (q := (RX5, TX5, 11)) (ci := 5) C (ok_X5_turnSwitch l V true _ _ hx1 hz hC ok) gL_law_X5_turnSwitch rfl mfX5_turnSwitch rfl (by decide) (by decide) (by first | decide | omega) rfl rfl rfl rfl (Nat.le_of_ble_eq_true rfl) dL_law_329 (Nat.le_refl _) (Nat.le_refl _) (fun r329 I329 L329 h329 => ?_)
    obtain ⟨rfl, hC1, hfr, hfl⟩ := h329
    have hM1 := AbM_cg hM hfr hfl
    refine J.aload_n C dL_law_332 rfl ?_
    refine J.aload_n C dL_law_333 rfl ?_
    refine J.iload_n C dL_law_334 rfl ?_
    refine J.iconst C dL_law_335 (v := (nI 1)) (by decide) ?_
    first | refine J.iadd_n C dL_law_336 ?_ | refine J.iadd C dL_law_336 ?_
    refine J.sld C hX hbl hB rfl (by omega) hL dL_law_337 ?_
    refine J.aload_n C dL_law_338 rfl ?_
    refine J.iload_n C dL_law_339 rfl ?_
    refine J.iconst C dL_law_340 (v := (nI 2)) (by decide) ?_
    first | refine J.iadd_n C dL_law_341 ?_ | refine J.iadd C dL_law_341 ?_
    refine J.sld C hX hbl hB rfl (by omega) hL dL_law_342 ?_
    refine J.if_eq C dL_law_343 (tgt := 350) (by decide) (fun c343 => absurd c343 hq) (fun _ => ?_)
    refine J.iconst C dL_law_346 (v := (nI 1)) (by decide) ?_
    refine J.goto C dL_law_347 (tgt := 351) (by decide) ?_
    refine J.cVGi (q := (RX6, TX6, 25)) (ci := 6) C (ok_X6_turnSwitch l V true _ _ hx1 hM1 ok) gL_law_X6_turnSwitch rfl mfX6_turnSwitch rfl (by decide) (by decide) (by first | decide | omega) rfl rfl rfl rfl (Nat.le_of_ble_eq_true rfl) dL_law_351 (Nat.le_refl _) (Nat.le_refl _) (fun r351 I351 L351 h351 => ?_)
    obtain ⟨rfl, hM2, hfr2, hfl2⟩ := h351
    have hC2 := AbC_cg hC1 hfr2 hfl2
    refine J.icmp_eq C dL_law_354 (tgt := 1136) (by decide) (fun _ => ?_) (fun c354 => absurd c354 (fun q => q rfl))
    exact NX _ _ _ hC2 hM2 (kG_turnSwitch ok)
set_option maxHeartbeats 4000000 in
set_option maxRecDepth 100000 in
theorem lc_5 {l : Launch} {X : Cx} {V : Vx} {Q : State → Prop} {I : Nat → Nat → Int32} {L : Nat → Nat → Int64} {g : Sg} {b Ln i : Nat} {xs : Nat → Int32} (C : CX l X V RL cL_law 4 wsL_law 20 106 7121 ret) (hz : V.2.2.2.2.2 = false) (hX : va_X b Ln xs X.2.2.2.2.1 X.2.2.2.2.1.heap) (hbl : b < X.2.2.2.2.1.heap.size) (hB : V.2.2.1 = X.2.2.2.2.1.heap.size) (hL : Ln ≤ 3072) (hi : i + 6 ≤ Ln) (hC : AbC I L g) (hM : AbM I L g) (ok : okG g)
    (NX : ∀ I' L' g', AbC I' L' g' → AbM I' L' g' → okG g' → J X V Q 4 106 106 7121 1136 [(0, .ref b), (1, .ref (ad V 0)), (2, .ref (ad V 85)), (3, .int (nI i))] [] (mm V I' L')) : J X V Q 4 106 106 7121 359 [(0, .ref b), (1, .ref (ad V 0)), (2, .ref (ad V 85)), (3, .int (nI i))] [] (mm V I L) := by
  obtain ⟨o1, hx1⟩ := AG_ex (xs (i + 1))
  obtain ⟨o2, hx2⟩ := AG_ex (xs (i + 2))
  refine J.aload_n C dL_law_359 rfl ?_
  refine J.aload_n C dL_law_360 rfl ?_
  refine J.iload_n C dL_law_361 rfl ?_
  refine J.iconst C dL_law_362 (v := (nI 1)) (by decide) ?_
  first | refine J.iadd_n C dL_law_363 ?_ | refine J.iadd C dL_law_363 ?_
  refine J.sld C hX hbl hB rfl (by omega) hL dL_law_364 ?_
  refine J.aload_n C dL_law_365 rfl ?_
  refine J.iload_n C dL_law_366 rfl ?_
  refine J.iconst C dL_law_367 (v := (nI 2)) (by decide) ?_
  first | refine J.iadd_n C dL_law_368 ?_ | refine J.iadd C dL_law_368 ?_
  refine J.sld C hX hbl hB rfl (by omega) hL dL_law_369 ?_
  refine J.cVGi (q := (RX5, TX5, 11)) (ci := 5) C (ok_X5_as l V  _ _ hx1 hx2 hz hC ok) gL_law_X5_as rfl mfX5_as rfl (by decide) (by decide) (by first | decide | omega) rfl rfl rfl rfl (Nat.le_of_ble_eq_true rfl) dL_law_370 (Nat.le_refl _) (Nat.le_refl _) (fun r370 I370 L370 h370 => ?_)
  obtain ⟨rfl, hC1, hfr, hfl⟩ := h370
  have hM1 := AbM_cg hM hfr hfl
  refine J.aload_n C dL_law_373 rfl ?_
  refine J.aload_n C dL_law_374 rfl ?_
  refine J.iload_n C dL_law_375 rfl ?_
  refine J.iconst C dL_law_376 (v := (nI 1)) (by decide) ?_
  first | refine J.iadd_n C dL_law_377 ?_ | refine J.iadd C dL_law_377 ?_
  refine J.sld C hX hbl hB rfl (by omega) hL dL_law_378 ?_
  refine J.aload_n C dL_law_379 rfl ?_
  refine J.iload_n C dL_law_380 rfl ?_
  refine J.iconst C dL_law_381 (v := (nI 2)) (by decide) ?_
  first | refine J.iadd_n C dL_law_382 ?_ | refine J.iadd C dL_law_382 ?_
  refine J.sld C hX hbl hB rfl (by omega) hL dL_law_383 ?_
  refine J.cVGi (q := (RX6, TX6, 25)) (ci := 6) C (ok_X6_as l V  _ _ hx1 hx2 hM1 ok) gL_law_X6_as rfl mfX6_as rfl (by decide) (by decide) (by first | decide | omega) rfl rfl rfl rfl (Nat.le_of_ble_eq_true rfl) dL_law_384 (Nat.le_refl _) (Nat.le_refl _) (fun r384 I384 L384 h384 => ?_)
  obtain ⟨rfl, hM2, hfr2, hfl2⟩ := h384
  have hC2 := AbC_cg hC1 hfr2 hfl2
  refine J.icmp_eq C dL_law_387 (tgt := 1136) (by decide) (fun _ => ?_) (fun c387 => absurd c387 (fun q => q rfl))
  exact NX _ _ _ hC2 hM2 (kG_as ok)
set_option maxHeartbeats 4000000 in
set_option maxRecDepth 100000 in
theorem lc_6 {l : Launch} {X : Cx} {V : Vx} {Q : State → Prop} {I : Nat → Nat → Int32} {L : Nat → Nat → Int64} {g : Sg} {b Ln i : Nat} {xs : Nat → Int32} (C : CX l X V RL cL_law 4 wsL_law 20 106 7121 ret) (hz : V.2.2.2.2.2 = false) (hX : va_X b Ln xs X.2.2.2.2.1 X.2.2.2.2.1.heap) (hbl : b < X.2.2.2.2.1.heap.size) (hB : V.2.2.1 = X.2.2.2.2.1.heap.size) (hL : Ln ≤ 3072) (hi : i + 6 ≤ Ln) (hC : AbC I L g) (hM : AbM I L g) (ok : okG g)
    (NX : ∀ I' L' g', AbC I' L' g' → AbM I' L' g' → okG g' → J X V Q 4 106 106 7121 1136 [(0, .ref b), (1, .ref (ad V 0)), (2, .ref (ad V 85)), (3, .int (nI i))] [] (mm V I' L')) : J X V Q 4 106 106 7121 392 [(0, .ref b), (1, .ref (ad V 0)), (2, .ref (ad V 85)), (3, .int (nI i))] [] (mm V I L) := by
  obtain ⟨o1, hx1⟩ := AG_ex (xs (i + 1))
  obtain ⟨o2, hx2⟩ := AG_ex (xs (i + 2))
  refine J.aload_n C dL_law_392 rfl ?_
  refine J.aload_n C dL_law_393 rfl ?_
  refine J.iload_n C dL_law_394 rfl ?_
  refine J.iconst C dL_law_395 (v := (nI 1)) (by decide) ?_
  first | refine J.iadd_n C dL_law_396 ?_ | refine J.iadd C dL_law_396 ?_
  refine J.sld C hX hbl hB rfl (by omega) hL dL_law_397 ?_
  refine J.aload_n C dL_law_398 rfl ?_
  refine J.iload_n C dL_law_399 rfl ?_
  refine J.iconst C dL_law_400 (v := (nI 2)) (by decide) ?_
  first | refine J.iadd_n C dL_law_401 ?_ | refine J.iadd C dL_law_401 ?_
  refine J.sld C hX hbl hB rfl (by omega) hL dL_law_402 ?_
  refine J.cVGi (q := (RX5, TX5, 11)) (ci := 5) C (ok_X5_of l V  _ _ hx1 hx2 hz hC ok) gL_law_X5_of rfl mfX5_of rfl (by decide) (by decide) (by first | decide | omega) rfl rfl rfl rfl (Nat.le_of_ble_eq_true rfl) dL_law_403 (Nat.le_refl _) (Nat.le_refl _) (fun r403 I403 L403 h403 => ?_)
  obtain ⟨rfl, hC1, hfr, hfl⟩ := h403
  have hM1 := AbM_cg hM hfr hfl
  refine J.aload_n C dL_law_406 rfl ?_
  refine J.aload_n C dL_law_407 rfl ?_
  refine J.iload_n C dL_law_408 rfl ?_
  refine J.iconst C dL_law_409 (v := (nI 1)) (by decide) ?_
  first | refine J.iadd_n C dL_law_410 ?_ | refine J.iadd C dL_law_410 ?_
  refine J.sld C hX hbl hB rfl (by omega) hL dL_law_411 ?_
  refine J.aload_n C dL_law_412 rfl ?_
  refine J.iload_n C dL_law_413 rfl ?_
  refine J.iconst C dL_law_414 (v := (nI 2)) (by decide) ?_
  first | refine J.iadd_n C dL_law_415 ?_ | refine J.iadd C dL_law_415 ?_
  refine J.sld C hX hbl hB rfl (by omega) hL dL_law_416 ?_
  refine J.cVGi (q := (RX6, TX6, 25)) (ci := 6) C (ok_X6_of l V  _ _ hx1 hx2 hM1 ok) gL_law_X6_of rfl mfX6_of rfl (by decide) (by decide) (by first | decide | omega) rfl rfl rfl rfl (Nat.le_of_ble_eq_true rfl) dL_law_417 (Nat.le_refl _) (Nat.le_refl _) (fun r417 I417 L417 h417 => ?_)
  obtain ⟨rfl, hM2, hfr2, hfl2⟩ := h417
  have hC2 := AbC_cg hC1 hfr2 hfl2
  refine J.icmp_eq C dL_law_420 (tgt := 1136) (by decide) (fun _ => ?_) (fun c420 => absurd c420 (fun q => q rfl))
  exact NX _ _ _ hC2 hM2 (kG_of ok)
