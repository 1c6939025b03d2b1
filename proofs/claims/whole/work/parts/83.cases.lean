theorem lg_cmp_refl (r : Int64) : lg_cmp r r = 0 := by simp [lg_cmp]
set_option maxHeartbeats 4000000 in
theorem law_0 {g : it_G} {l : Launch} {kc ks i : Nat} {κ : it_KK} {S : it_SS} {P : Option Value → it_KK → it_SS → Prop} (hL : g.2.2.2.2.1 ≤ 3584) (hi : i + 6 < g.2.2.2.2.1) (h1k : 1000 ≤ kc) (hkc : kc + 3 ≤ 600000) (hks : ks + 165 ≤ 7302249) (hI : Inv κ S) (kk : ∀ (κ' : it_KK) (S' : it_SS), Inv κ' S' → it_Ev g l 80 it_m_L (kc + 3) (ks + 165) 1528 (it_LL i) [] κ' S' P) : it_Ev g l 80 it_m_L kc ks 200 (it_LL i) [] κ S P := by
  refine ev_aload_n d_L_law_200 rfl ?_
  refine ev_aload_nO d_L_law_201 rfl ?_
  refine ev_iload_n d_L_law_202 rfl ?_
  refine ev_iconst (v := 1) d_L_law_203 (by decide) ?_
  refine ev_iadd d_L_law_204 ?_
  refine ev_sld d_L_law_205 (sc_in (j := 1) (by omega) hL) ?_
  refine ev_callV (ci := 5) (b := 0) (M' := it_m_X5_count) (As := [.int (g.2.2.2.2.2 (nI i + 1).toNatClampNeg)]) d_L_law_206 ml_IcedTooSoonLaw_13 hI.1.1.1 hI.1.1.2.1 ⟨_, rfl, rfl⟩ rfl rfl (Nat.le_of_ble_eq_true rfl) (by decide) (by show kc + 0 ≤ 600000; omega) (by show ks + 0 ≤ 7302249; omega) (L_X5_count hI.1 (q_count (g.2.2.2.2.2 (nI i + 1).toNatClampNeg) S hI)) (fun h => absurd h (by show ¬ (kc + 0 < 1000); omega)) ?_
  rintro _ _ S1 ⟨rfl, r, rfl, h1⟩
  have wm1 := hI.2.1
  refine ev_aload_n d_L_law_209 rfl ?_
  refine ev_aload_nO d_L_law_210 rfl ?_
  refine ev_iload_n d_L_law_211 rfl ?_
  refine ev_iconst (v := 1) d_L_law_212 (by decide) ?_
  refine ev_iadd d_L_law_213 ?_
  refine ev_sld d_L_law_214 (sc_in (j := 1) (by omega) hL) ?_
  refine ev_callV (ci := 6) (b := 45) (M' := it_m_X6_count) (As := [.int (g.2.2.2.2.2 (nI i + 1).toNatClampNeg)]) d_L_law_215 ml_IcedTooSoonLaw_17 wm1.1.1 wm1.1.2.1 ⟨_, rfl, rfl⟩ rfl rfl (Nat.le_of_ble_eq_true rfl) (by decide) (by show kc + 0 + 0 ≤ 600000; omega) (by show ks + 0 + 0 ≤ 7302249; omega) (L_X6_count wm1 h1) (fun h => absurd h (by show ¬ (kc + 0 + 0 < 1000); omega)) ?_
  rintro _ _ S2 ⟨rfl, r', rfl, e, hI2⟩
  subst e
  refine ev_icmp_eq (tgt := 1528) d_L_law_218 (by decide) (fun _ => ?_) (fun hc => absurd rfl hc)
  exact ev_widen (by show kc + 0 + 0 ≤ kc + 3; omega) (by show ks + 0 + 0 ≤ ks + 165; omega) (by omega) (kk _ _ hI2)
set_option maxHeartbeats 4000000 in
theorem law_1 {g : it_G} {l : Launch} {kc ks i : Nat} {κ : it_KK} {S : it_SS} {P : Option Value → it_KK → it_SS → Prop} (hL : g.2.2.2.2.1 ≤ 3584) (hi : i + 6 < g.2.2.2.2.1) (h1k : 1000 ≤ kc) (hkc : kc + 3 ≤ 600000) (hks : ks + 165 ≤ 7302249) (hI : Inv κ S) (kk : ∀ (κ' : it_KK) (S' : it_SS), Inv κ' S' → it_Ev g l 80 it_m_L (kc + 3) (ks + 165) 1528 (it_LL i) [] κ' S' P) : it_Ev g l 80 it_m_L kc ks 223 (it_LL i) [] κ S P := by
  refine ev_aload_n d_L_law_223 rfl ?_
  refine ev_aload_nO d_L_law_224 rfl ?_
  refine ev_iload_n d_L_law_225 rfl ?_
  refine ev_iconst (v := 1) d_L_law_226 (by decide) ?_
  refine ev_iadd d_L_law_227 ?_
  refine ev_sld d_L_law_228 (sc_in (j := 1) (by omega) hL) ?_
  refine ev_callV (ci := 5) (b := 0) (M' := it_m_X5_dawn) (As := [.int (g.2.2.2.2.2 (nI i + 1).toNatClampNeg)]) d_L_law_229 ml_IcedTooSoonLaw_18 hI.1.1.1 hI.1.1.2.1 ⟨_, rfl, rfl⟩ rfl rfl (Nat.le_of_ble_eq_true rfl) (by decide) (by show kc + 0 ≤ 600000; omega) (by show ks + 0 ≤ 7302249; omega) (L_X5_dawn hI.1 (q_dawn (g.2.2.2.2.2 (nI i + 1).toNatClampNeg) S hI)) (fun h => absurd h (by show ¬ (kc + 0 < 1000); omega)) ?_
  rintro _ _ S1 ⟨rfl, r, rfl, h1⟩
  have wm1 := hI.2.1
  refine ev_aload_n d_L_law_232 rfl ?_
  refine ev_aload_nO d_L_law_233 rfl ?_
  refine ev_iload_n d_L_law_234 rfl ?_
  refine ev_iconst (v := 1) d_L_law_235 (by decide) ?_
  refine ev_iadd d_L_law_236 ?_
  refine ev_sld d_L_law_237 (sc_in (j := 1) (by omega) hL) ?_
  refine ev_callV (ci := 6) (b := 45) (M' := it_m_X6_dawn) (As := [.int (g.2.2.2.2.2 (nI i + 1).toNatClampNeg)]) d_L_law_238 ml_IcedTooSoonLaw_21 wm1.1.1 wm1.1.2.1 ⟨_, rfl, rfl⟩ rfl rfl (Nat.le_of_ble_eq_true rfl) (by decide) (by show kc + 0 + 0 ≤ 600000; omega) (by show ks + 0 + 0 ≤ 7302249; omega) (L_X6_dawn wm1 h1) (fun h => absurd h (by show ¬ (kc + 0 + 0 < 1000); omega)) ?_
  rintro _ _ S2 ⟨rfl, r', rfl, e, hI2⟩
  subst e
  refine ev_icmp_eq (tgt := 1528) d_L_law_241 (by decide) (fun _ => ?_) (fun hc => absurd rfl hc)
  exact ev_widen (by show kc + 0 + 0 ≤ kc + 3; omega) (by show ks + 0 + 0 ≤ ks + 165; omega) (by omega) (kk _ _ hI2)
set_option maxHeartbeats 4000000 in
theorem law_2 {g : it_G} {l : Launch} {kc ks i : Nat} {κ : it_KK} {S : it_SS} {P : Option Value → it_KK → it_SS → Prop} (hL : g.2.2.2.2.1 ≤ 3584) (hi : i + 6 < g.2.2.2.2.1) (h1k : 1000 ≤ kc) (hkc : kc + 3 ≤ 600000) (hks : ks + 165 ≤ 7302249) (hI : Inv κ S) (kk : ∀ (κ' : it_KK) (S' : it_SS), Inv κ' S' → it_Ev g l 80 it_m_L (kc + 3) (ks + 165) 1528 (it_LL i) [] κ' S' P) : it_Ev g l 80 it_m_L kc ks 246 (it_LL i) [] κ S P := by
  refine ev_aload_n d_L_law_246 rfl ?_
  refine ev_aload_nO d_L_law_247 rfl ?_
  refine ev_iload_n d_L_law_248 rfl ?_
  refine ev_iconst (v := 1) d_L_law_249 (by decide) ?_
  refine ev_iadd d_L_law_250 ?_
  refine ev_sld d_L_law_251 (sc_in (j := 1) (by omega) hL) ?_
  refine ev_aload_nO d_L_law_252 rfl ?_
  refine ev_iload_n d_L_law_253 rfl ?_
  refine ev_iconst (v := 2) d_L_law_254 (by decide) ?_
  refine ev_iadd d_L_law_255 ?_
  refine ev_sld d_L_law_256 (sc_in (j := 2) (by omega) hL) ?_
  refine ev_aload_nO d_L_law_257 rfl ?_
  refine ev_iload_n d_L_law_258 rfl ?_
  refine ev_iconst (v := 3) d_L_law_259 (by decide) ?_
  refine ev_iadd d_L_law_260 ?_
  refine ev_sld d_L_law_261 (sc_in (j := 3) (by omega) hL) ?_
  refine ev_aload_nO d_L_law_262 rfl ?_
  refine ev_iload_n d_L_law_263 rfl ?_
  refine ev_iconst (v := 4) d_L_law_264 (by decide) ?_
  refine ev_iadd d_L_law_265 ?_
  refine ev_sld d_L_law_266 (sc_in (j := 4) (by omega) hL) ?_
  refine ev_aload_nO d_L_law_267 rfl ?_
  refine ev_iload_n d_L_law_268 rfl ?_
  refine ev_iconst (v := 5) d_L_law_269 (by decide) ?_
  refine ev_iadd d_L_law_270 ?_
  refine ev_sld d_L_law_271 (sc_in (j := 5) (by omega) hL) ?_
  refine ev_aload_nO d_L_law_272 rfl ?_
  refine ev_iload_n d_L_law_273 rfl ?_
  refine ev_bipush (v := 6) d_L_law_274 (by decide) ?_
  refine ev_iadd d_L_law_276 ?_
  refine ev_sld d_L_law_277 (sc_in (j := 6) (by omega) hL) ?_
  refine ev_callV (ci := 5) (b := 0) (M' := it_m_X5_feed) (As := [.int (g.2.2.2.2.2 (nI i + 1).toNatClampNeg), .int (g.2.2.2.2.2 (nI i + 2).toNatClampNeg), .int (g.2.2.2.2.2 (nI i + 3).toNatClampNeg), .int (g.2.2.2.2.2 (nI i + 4).toNatClampNeg), .int (g.2.2.2.2.2 (nI i + 5).toNatClampNeg), .int (g.2.2.2.2.2 (nI i + 6).toNatClampNeg)]) d_L_law_278 ml_IcedTooSoonLaw_22 hI.1.1.1 hI.1.1.2.1 ⟨_, rfl, rfl⟩ rfl rfl (Nat.le_of_ble_eq_true rfl) (by decide) (by show kc + 0 ≤ 600000; omega) (by show ks + 0 ≤ 7302249; omega) (L_X5_feed hI.1 (q_feed (g.2.2.2.2.2 (nI i + 1).toNatClampNeg) (g.2.2.2.2.2 (nI i + 2).toNatClampNeg) (g.2.2.2.2.2 (nI i + 3).toNatClampNeg) (g.2.2.2.2.2 (nI i + 4).toNatClampNeg) (g.2.2.2.2.2 (nI i + 5).toNatClampNeg) (g.2.2.2.2.2 (nI i + 6).toNatClampNeg) S hI)) (fun h => absurd h (by show ¬ (kc + 0 < 1000); omega)) ?_
  rintro _ _ S1 ⟨rfl, r, rfl, h1⟩
  have wm1 := hI.2.1
  refine ev_aload_n d_L_law_281 rfl ?_
  refine ev_aload_nO d_L_law_282 rfl ?_
  refine ev_iload_n d_L_law_283 rfl ?_
  refine ev_iconst (v := 1) d_L_law_284 (by decide) ?_
  refine ev_iadd d_L_law_285 ?_
  refine ev_sld d_L_law_286 (sc_in (j := 1) (by omega) hL) ?_
  refine ev_aload_nO d_L_law_287 rfl ?_
  refine ev_iload_n d_L_law_288 rfl ?_
  refine ev_iconst (v := 2) d_L_law_289 (by decide) ?_
  refine ev_iadd d_L_law_290 ?_
  refine ev_sld d_L_law_291 (sc_in (j := 2) (by omega) hL) ?_
  refine ev_aload_nO d_L_law_292 rfl ?_
  refine ev_iload_n d_L_law_293 rfl ?_
  refine ev_iconst (v := 3) d_L_law_294 (by decide) ?_
  refine ev_iadd d_L_law_295 ?_
  refine ev_sld d_L_law_296 (sc_in (j := 3) (by omega) hL) ?_
  refine ev_aload_nO d_L_law_297 rfl ?_
  refine ev_iload_n d_L_law_298 rfl ?_
  refine ev_iconst (v := 4) d_L_law_299 (by decide) ?_
  refine ev_iadd d_L_law_300 ?_
  refine ev_sld d_L_law_301 (sc_in (j := 4) (by omega) hL) ?_
  refine ev_aload_nO d_L_law_302 rfl ?_
  refine ev_iload_n d_L_law_303 rfl ?_
  refine ev_iconst (v := 5) d_L_law_304 (by decide) ?_
  refine ev_iadd d_L_law_305 ?_
  refine ev_sld d_L_law_306 (sc_in (j := 5) (by omega) hL) ?_
  refine ev_aload_nO d_L_law_307 rfl ?_
  refine ev_iload_n d_L_law_308 rfl ?_
  refine ev_bipush (v := 6) d_L_law_309 (by decide) ?_
  refine ev_iadd d_L_law_311 ?_
  refine ev_sld d_L_law_312 (sc_in (j := 6) (by omega) hL) ?_
  refine ev_callV (ci := 6) (b := 45) (M' := it_m_X6_feed) (As := [.int (g.2.2.2.2.2 (nI i + 1).toNatClampNeg), .int (g.2.2.2.2.2 (nI i + 2).toNatClampNeg), .int (g.2.2.2.2.2 (nI i + 3).toNatClampNeg), .int (g.2.2.2.2.2 (nI i + 4).toNatClampNeg), .int (g.2.2.2.2.2 (nI i + 5).toNatClampNeg), .int (g.2.2.2.2.2 (nI i + 6).toNatClampNeg)]) d_L_law_313 ml_IcedTooSoonLaw_26 wm1.1.1 wm1.1.2.1 ⟨_, rfl, rfl⟩ rfl rfl (Nat.le_of_ble_eq_true rfl) (by decide) (by show kc + 0 + 0 ≤ 600000; omega) (by show ks + 0 + 0 ≤ 7302249; omega) (L_X6_feed wm1 h1) (fun h => absurd h (by show ¬ (kc + 0 + 0 < 1000); omega)) ?_
  rintro _ _ S2 ⟨rfl, r', rfl, e, hI2⟩
  subst e
  refine ev_icmp_eq (tgt := 1528) d_L_law_316 (by decide) (fun _ => ?_) (fun hc => absurd rfl hc)
  exact ev_widen (by show kc + 0 + 0 ≤ kc + 3; omega) (by show ks + 0 + 0 ≤ ks + 165; omega) (by omega) (kk _ _ hI2)
set_option maxHeartbeats 4000000 in
theorem law_3 {g : it_G} {l : Launch} {kc ks i : Nat} {κ : it_KK} {S : it_SS} {P : Option Value → it_KK → it_SS → Prop} (hL : g.2.2.2.2.1 ≤ 3584) (hi : i + 6 < g.2.2.2.2.1) (h1k : 1000 ≤ kc) (hkc : kc + 3 ≤ 600000) (hks : ks + 165 ≤ 7302249) (hI : Inv κ S) (kk : ∀ (κ' : it_KK) (S' : it_SS), Inv κ' S' → it_Ev g l 80 it_m_L (kc + 3) (ks + 165) 1528 (it_LL i) [] κ' S' P) : it_Ev g l 80 it_m_L kc ks 321 (it_LL i) [] κ S P := by
  refine ev_aload_n d_L_law_321 rfl ?_
  refine ev_callV (ci := 5) (b := 0) (M' := it_m_X5_text) (As := []) d_L_law_322 ml_IcedTooSoonLaw_27 hI.1.1.1 hI.1.1.2.1 ⟨_, rfl, rfl⟩ rfl rfl (Nat.le_of_ble_eq_true rfl) (by decide) (by show kc + 3 ≤ 600000; omega) (by show ks + 165 ≤ 7302249; omega) (q_text hI) (fun h => absurd h (by show ¬ (kc + 3 < 1000); omega)) ?_
  rintro _ κ1 S1 ⟨r, rfl, wm1, h1⟩
  refine ev_aload_n d_L_law_325 rfl ?_
  refine ev_callV (ci := 6) (b := 45) (M' := it_m_X6_text) (As := []) d_L_law_326 ml_IcedTooSoonLaw_31 wm1.1.1 wm1.1.2.1 ⟨_, rfl, rfl⟩ rfl rfl (Nat.le_of_ble_eq_true rfl) (by decide) (by show kc + 3 + 0 ≤ 600000; omega) (by show ks + 165 + 0 ≤ 7302249; omega) (L_X6_text wm1 h1) (fun h => absurd h (by show ¬ (kc + 3 + 0 < 1000); omega)) ?_
  rintro _ _ S2 ⟨rfl, r', rfl, e, hI2⟩
  subst e
  refine ev_icmp_eq (tgt := 1528) d_L_law_329 (by decide) (fun _ => ?_) (fun hc => absurd rfl hc)
  exact kk _ _ hI2
set_option maxHeartbeats 4000000 in
theorem law_4 {g : it_G} {l : Launch} {kc ks i : Nat} {κ : it_KK} {S : it_SS} {P : Option Value → it_KK → it_SS → Prop} (hL : g.2.2.2.2.1 ≤ 3584) (hi : i + 6 < g.2.2.2.2.1) (h1k : 1000 ≤ kc) (hkc : kc + 3 ≤ 600000) (hks : ks + 165 ≤ 7302249) (hI : Inv κ S) (kk : ∀ (κ' : it_KK) (S' : it_SS), Inv κ' S' → it_Ev g l 80 it_m_L (kc + 3) (ks + 165) 1528 (it_LL i) [] κ' S' P) : it_Ev g l 80 it_m_L kc ks 334 (it_LL i) [] κ S P := by
  refine ev_aload_n d_L_law_334 rfl ?_
  refine ev_aload_nO d_L_law_335 rfl ?_
  refine ev_iload_n d_L_law_336 rfl ?_
  refine ev_iconst (v := 1) d_L_law_337 (by decide) ?_
  refine ev_iadd d_L_law_338 ?_
  refine ev_sld d_L_law_339 (sc_in (j := 1) (by omega) hL) ?_
  refine ev_callV (ci := 5) (b := 0) (M' := it_m_X5_force) (As := [.int (g.2.2.2.2.2 (nI i + 1).toNatClampNeg)]) d_L_law_340 ml_IcedTooSoonLaw_32 hI.1.1.1 hI.1.1.2.1 ⟨_, rfl, rfl⟩ rfl rfl (Nat.le_of_ble_eq_true rfl) (by decide) (by show kc + 0 ≤ 600000; omega) (by show ks + 0 ≤ 7302249; omega) (L_X5_force hI.1 (q_force (g.2.2.2.2.2 (nI i + 1).toNatClampNeg) S hI)) (fun h => absurd h (by show ¬ (kc + 0 < 1000); omega)) ?_
  rintro _ _ S1 ⟨rfl, r, rfl, h1⟩
  have wm1 := hI.2.1
  refine ev_aload_n d_L_law_343 rfl ?_
  refine ev_aload_nO d_L_law_344 rfl ?_
  refine ev_iload_n d_L_law_345 rfl ?_
  refine ev_iconst (v := 1) d_L_law_346 (by decide) ?_
  refine ev_iadd d_L_law_347 ?_
  refine ev_sld d_L_law_348 (sc_in (j := 1) (by omega) hL) ?_
  refine ev_callV (ci := 6) (b := 45) (M' := it_m_X6_force) (As := [.int (g.2.2.2.2.2 (nI i + 1).toNatClampNeg)]) d_L_law_349 ml_IcedTooSoonLaw_35 wm1.1.1 wm1.1.2.1 ⟨_, rfl, rfl⟩ rfl rfl (Nat.le_of_ble_eq_true rfl) (by decide) (by show kc + 0 + 0 ≤ 600000; omega) (by show ks + 0 + 0 ≤ 7302249; omega) (L_X6_force wm1 h1) (fun h => absurd h (by show ¬ (kc + 0 + 0 < 1000); omega)) ?_
  rintro _ _ S2 ⟨rfl, r', rfl, e, hI2⟩
  subst e
  refine ev_icmp_eq (tgt := 1528) d_L_law_352 (by decide) (fun _ => ?_) (fun hc => absurd rfl hc)
  exact ev_widen (by show kc + 0 + 0 ≤ kc + 3; omega) (by show ks + 0 + 0 ≤ ks + 165; omega) (by omega) (kk _ _ hI2)
set_option maxHeartbeats 4000000 in
theorem law_5 {g : it_G} {l : Launch} {kc ks i : Nat} {κ : it_KK} {S : it_SS} {P : Option Value → it_KK → it_SS → Prop} (hL : g.2.2.2.2.1 ≤ 3584) (hi : i + 6 < g.2.2.2.2.1) (h1k : 1000 ≤ kc) (hkc : kc + 3 ≤ 600000) (hks : ks + 165 ≤ 7302249) (hI : Inv κ S) (kk : ∀ (κ' : it_KK) (S' : it_SS), Inv κ' S' → it_Ev g l 80 it_m_L (kc + 3) (ks + 165) 1528 (it_LL i) [] κ' S' P) : it_Ev g l 80 it_m_L kc ks 357 (it_LL i) [] κ S P := by
  refine ev_aload_n d_L_law_357 rfl ?_
  refine ev_aload_nO d_L_law_358 rfl ?_
  refine ev_iload_n d_L_law_359 rfl ?_
  refine ev_iconst (v := 1) d_L_law_360 (by decide) ?_
  refine ev_iadd d_L_law_361 ?_
  refine ev_sld d_L_law_362 (sc_in (j := 1) (by omega) hL) ?_
  refine ev_aload_nO d_L_law_363 rfl ?_
  refine ev_iload_n d_L_law_364 rfl ?_
  refine ev_iconst (v := 2) d_L_law_365 (by decide) ?_
  refine ev_iadd d_L_law_366 ?_
  refine ev_sld d_L_law_367 (sc_in (j := 2) (by omega) hL) ?_
  refine ev_callV (ci := 5) (b := 0) (M' := it_m_X5_asks) (As := [.int (g.2.2.2.2.2 (nI i + 1).toNatClampNeg), .int (g.2.2.2.2.2 (nI i + 2).toNatClampNeg)]) d_L_law_368 ml_IcedTooSoonLaw_36 hI.1.1.1 hI.1.1.2.1 ⟨_, rfl, rfl⟩ rfl rfl (Nat.le_of_ble_eq_true rfl) (by decide) (by show kc + 0 ≤ 600000; omega) (by show ks + 0 ≤ 7302249; omega) (L_X5_asks hI.1 (q_asks (g.2.2.2.2.2 (nI i + 1).toNatClampNeg) (g.2.2.2.2.2 (nI i + 2).toNatClampNeg) S hI)) (fun h => absurd h (by show ¬ (kc + 0 < 1000); omega)) ?_
  rintro _ _ S1 ⟨rfl, r, rfl, h1⟩
  have wm1 := hI.2.1
  refine ev_aload_n d_L_law_371 rfl ?_
  refine ev_aload_nO d_L_law_372 rfl ?_
  refine ev_iload_n d_L_law_373 rfl ?_
  refine ev_iconst (v := 1) d_L_law_374 (by decide) ?_
  refine ev_iadd d_L_law_375 ?_
  refine ev_sld d_L_law_376 (sc_in (j := 1) (by omega) hL) ?_
  refine ev_aload_nO d_L_law_377 rfl ?_
  refine ev_iload_n d_L_law_378 rfl ?_
  refine ev_iconst (v := 2) d_L_law_379 (by decide) ?_
  refine ev_iadd d_L_law_380 ?_
  refine ev_sld d_L_law_381 (sc_in (j := 2) (by omega) hL) ?_
  refine ev_callV (ci := 6) (b := 45) (M' := it_m_X6_asks) (As := [.int (g.2.2.2.2.2 (nI i + 1).toNatClampNeg), .int (g.2.2.2.2.2 (nI i + 2).toNatClampNeg)]) d_L_law_382 ml_IcedTooSoonLaw_40 wm1.1.1 wm1.1.2.1 ⟨_, rfl, rfl⟩ rfl rfl (Nat.le_of_ble_eq_true rfl) (by decide) (by show kc + 0 + 0 ≤ 600000; omega) (by show ks + 0 + 0 ≤ 7302249; omega) (L_X6_asks wm1 h1) (fun h => absurd h (by show ¬ (kc + 0 + 0 < 1000); omega)) ?_
  rintro _ _ S2 ⟨rfl, r', rfl, e, hI2⟩
  subst e
  refine ev_icmp_eq (tgt := 1528) d_L_law_385 (by decide) (fun _ => ?_) (fun hc => absurd rfl hc)
  exact ev_widen (by show kc + 0 + 0 ≤ kc + 3; omega) (by show ks + 0 + 0 ≤ ks + 165; omega) (by omega) (kk _ _ hI2)
set_option maxHeartbeats 4000000 in
theorem law_6 {g : it_G} {l : Launch} {kc ks i : Nat} {κ : it_KK} {S : it_SS} {P : Option Value → it_KK → it_SS → Prop} (hL : g.2.2.2.2.1 ≤ 3584) (hi : i + 6 < g.2.2.2.2.1) (h1k : 1000 ≤ kc) (hkc : kc + 3 ≤ 600000) (hks : ks + 165 ≤ 7302249) (hI : Inv κ S) (kk : ∀ (κ' : it_KK) (S' : it_SS), Inv κ' S' → it_Ev g l 80 it_m_L (kc + 3) (ks + 165) 1528 (it_LL i) [] κ' S' P) : it_Ev g l 80 it_m_L kc ks 390 (it_LL i) [] κ S P := by
  refine ev_aload_n d_L_law_390 rfl ?_
  refine ev_aload_nO d_L_law_391 rfl ?_
  refine ev_iload_n d_L_law_392 rfl ?_
  refine ev_iconst (v := 1) d_L_law_393 (by decide) ?_
  refine ev_iadd d_L_law_394 ?_
  refine ev_sld d_L_law_395 (sc_in (j := 1) (by omega) hL) ?_
  refine ev_aload_nO d_L_law_396 rfl ?_
  refine ev_iload_n d_L_law_397 rfl ?_
  refine ev_iconst (v := 2) d_L_law_398 (by decide) ?_
  refine ev_iadd d_L_law_399 ?_
  refine ev_sld d_L_law_400 (sc_in (j := 2) (by omega) hL) ?_
  refine ev_callV (ci := 5) (b := 0) (M' := it_m_X5_guest) (As := [.int (g.2.2.2.2.2 (nI i + 1).toNatClampNeg), .int (g.2.2.2.2.2 (nI i + 2).toNatClampNeg)]) d_L_law_401 ml_IcedTooSoonLaw_41 hI.1.1.1 hI.1.1.2.1 ⟨_, rfl, rfl⟩ rfl rfl (Nat.le_of_ble_eq_true rfl) (by decide) (by show kc + 0 ≤ 600000; omega) (by show ks + 0 ≤ 7302249; omega) (L_X5_guest hI.1 (q_guest (g.2.2.2.2.2 (nI i + 1).toNatClampNeg) (g.2.2.2.2.2 (nI i + 2).toNatClampNeg) S hI)) (fun h => absurd h (by show ¬ (kc + 0 < 1000); omega)) ?_
  rintro _ _ S1 ⟨rfl, r, rfl, h1⟩
  have wm1 := hI.2.1
  refine ev_aload_n d_L_law_404 rfl ?_
  refine ev_aload_nO d_L_law_405 rfl ?_
  refine ev_iload_n d_L_law_406 rfl ?_
  refine ev_iconst (v := 1) d_L_law_407 (by decide) ?_
  refine ev_iadd d_L_law_408 ?_
  refine ev_sld d_L_law_409 (sc_in (j := 1) (by omega) hL) ?_
  refine ev_aload_nO d_L_law_410 rfl ?_
  refine ev_iload_n d_L_law_411 rfl ?_
  refine ev_iconst (v := 2) d_L_law_412 (by decide) ?_
  refine ev_iadd d_L_law_413 ?_
  refine ev_sld d_L_law_414 (sc_in (j := 2) (by omega) hL) ?_
  refine ev_callV (ci := 6) (b := 45) (M' := it_m_X6_guest) (As := [.int (g.2.2.2.2.2 (nI i + 1).toNatClampNeg), .int (g.2.2.2.2.2 (nI i + 2).toNatClampNeg)]) d_L_law_415 ml_IcedTooSoonLaw_44 wm1.1.1 wm1.1.2.1 ⟨_, rfl, rfl⟩ rfl rfl (Nat.le_of_ble_eq_true rfl) (by decide) (by show kc + 0 + 0 ≤ 600000; omega) (by show ks + 0 + 0 ≤ 7302249; omega) (L_X6_guest wm1 h1) (fun h => absurd h (by show ¬ (kc + 0 + 0 < 1000); omega)) ?_
  rintro _ _ S2 ⟨rfl, r', rfl, e, hI2⟩
  subst e
  refine ev_icmp_eq (tgt := 1528) d_L_law_418 (by decide) (fun _ => ?_) (fun hc => absurd rfl hc)
  exact ev_widen (by show kc + 0 + 0 ≤ kc + 3; omega) (by show ks + 0 + 0 ≤ ks + 165; omega) (by omega) (kk _ _ hI2)
set_option maxHeartbeats 4000000 in
theorem law_7 {g : it_G} {l : Launch} {kc ks i : Nat} {κ : it_KK} {S : it_SS} {P : Option Value → it_KK → it_SS → Prop} (hL : g.2.2.2.2.1 ≤ 3584) (hi : i + 6 < g.2.2.2.2.1) (h1k : 1000 ≤ kc) (hkc : kc + 3 ≤ 600000) (hks : ks + 165 ≤ 7302249) (hI : Inv κ S) (kk : ∀ (κ' : it_KK) (S' : it_SS), Inv κ' S' → it_Ev g l 80 it_m_L (kc + 3) (ks + 165) 1528 (it_LL i) [] κ' S' P) : it_Ev g l 80 it_m_L kc ks 423 (it_LL i) [] κ S P := by
  refine ev_aload_n d_L_law_423 rfl ?_
  refine ev_aload_nO d_L_law_424 rfl ?_
  refine ev_iload_n d_L_law_425 rfl ?_
  refine ev_iconst (v := 1) d_L_law_426 (by decide) ?_
  refine ev_iadd d_L_law_427 ?_
  refine ev_sld d_L_law_428 (sc_in (j := 1) (by omega) hL) ?_
  refine ev_aload_nO d_L_law_429 rfl ?_
  refine ev_iload_n d_L_law_430 rfl ?_
  refine ev_iconst (v := 2) d_L_law_431 (by decide) ?_
  refine ev_iadd d_L_law_432 ?_
  refine ev_sld d_L_law_433 (sc_in (j := 2) (by omega) hL) ?_
  refine ev_aload_nO d_L_law_434 rfl ?_
  refine ev_iload_n d_L_law_435 rfl ?_
  refine ev_iconst (v := 3) d_L_law_436 (by decide) ?_
  refine ev_iadd d_L_law_437 ?_
  refine ev_sld d_L_law_438 (sc_in (j := 3) (by omega) hL) ?_
  refine ev_callV (ci := 5) (b := 0) (M' := it_m_X5_order) (As := [.int (g.2.2.2.2.2 (nI i + 1).toNatClampNeg), .int (g.2.2.2.2.2 (nI i + 2).toNatClampNeg), .int (g.2.2.2.2.2 (nI i + 3).toNatClampNeg)]) d_L_law_439 ml_IcedTooSoonLaw_45 hI.1.1.1 hI.1.1.2.1 ⟨_, rfl, rfl⟩ rfl rfl (Nat.le_of_ble_eq_true rfl) (by decide) (by show kc + 0 ≤ 600000; omega) (by show ks + 0 ≤ 7302249; omega) (L_X5_order hI.1 (q_order (g.2.2.2.2.2 (nI i + 1).toNatClampNeg) (g.2.2.2.2.2 (nI i + 2).toNatClampNeg) (g.2.2.2.2.2 (nI i + 3).toNatClampNeg) S hI)) (fun h => absurd h (by show ¬ (kc + 0 < 1000); omega)) ?_
  rintro _ _ S1 ⟨rfl, r, rfl, h1⟩
  have wm1 := hI.2.1
  refine ev_aload_n d_L_law_442 rfl ?_
  refine ev_aload_nO d_L_law_443 rfl ?_
  refine ev_iload_n d_L_law_444 rfl ?_
  refine ev_iconst (v := 1) d_L_law_445 (by decide) ?_
  refine ev_iadd d_L_law_446 ?_
  refine ev_sld d_L_law_447 (sc_in (j := 1) (by omega) hL) ?_
  refine ev_aload_nO d_L_law_448 rfl ?_
  refine ev_iload_n d_L_law_449 rfl ?_
  refine ev_iconst (v := 2) d_L_law_450 (by decide) ?_
  refine ev_iadd d_L_law_451 ?_
  refine ev_sld d_L_law_452 (sc_in (j := 2) (by omega) hL) ?_
  refine ev_aload_nO d_L_law_453 rfl ?_
  refine ev_iload_n d_L_law_454 rfl ?_
  refine ev_iconst (v := 3) d_L_law_455 (by decide) ?_
  refine ev_iadd d_L_law_456 ?_
  refine ev_sld d_L_law_457 (sc_in (j := 3) (by omega) hL) ?_
  refine ev_callV (ci := 6) (b := 45) (M' := it_m_X6_order) (As := [.int (g.2.2.2.2.2 (nI i + 1).toNatClampNeg), .int (g.2.2.2.2.2 (nI i + 2).toNatClampNeg), .int (g.2.2.2.2.2 (nI i + 3).toNatClampNeg)]) d_L_law_458 ml_IcedTooSoonLaw_49 wm1.1.1 wm1.1.2.1 ⟨_, rfl, rfl⟩ rfl rfl (Nat.le_of_ble_eq_true rfl) (by decide) (by show kc + 0 + 0 ≤ 600000; omega) (by show ks + 0 + 0 ≤ 7302249; omega) (L_X6_order wm1 h1) (fun h => absurd h (by show ¬ (kc + 0 + 0 < 1000); omega)) ?_
  rintro _ _ S2 ⟨rfl, r', rfl, e, hI2⟩
  subst e
  refine ev_icmp_eq (tgt := 1528) d_L_law_461 (by decide) (fun _ => ?_) (fun hc => absurd rfl hc)
  exact ev_widen (by show kc + 0 + 0 ≤ kc + 3; omega) (by show ks + 0 + 0 ≤ ks + 165; omega) (by omega) (kk _ _ hI2)
set_option maxHeartbeats 4000000 in
theorem law_8 {g : it_G} {l : Launch} {kc ks i : Nat} {κ : it_KK} {S : it_SS} {P : Option Value → it_KK → it_SS → Prop} (hL : g.2.2.2.2.1 ≤ 3584) (hi : i + 6 < g.2.2.2.2.1) (h1k : 1000 ≤ kc) (hkc : kc + 3 ≤ 600000) (hks : ks + 165 ≤ 7302249) (hI : Inv κ S) (kk : ∀ (κ' : it_KK) (S' : it_SS), Inv κ' S' → it_Ev g l 80 it_m_L (kc + 3) (ks + 165) 1528 (it_LL i) [] κ' S' P) : it_Ev g l 80 it_m_L kc ks 466 (it_LL i) [] κ S P := by
  refine ev_aload_n d_L_law_466 rfl ?_
  refine ev_aload_nO d_L_law_467 rfl ?_
  refine ev_iload_n d_L_law_468 rfl ?_
  refine ev_iconst (v := 1) d_L_law_469 (by decide) ?_
  refine ev_iadd d_L_law_470 ?_
  refine ev_sld d_L_law_471 (sc_in (j := 1) (by omega) hL) ?_
  refine ev_aload_nO d_L_law_472 rfl ?_
  refine ev_iload_n d_L_law_473 rfl ?_
  refine ev_iconst (v := 2) d_L_law_474 (by decide) ?_
  refine ev_iadd d_L_law_475 ?_
  refine ev_sld d_L_law_476 (sc_in (j := 2) (by omega) hL) ?_
  refine ev_aload_nO d_L_law_477 rfl ?_
  refine ev_iload_n d_L_law_478 rfl ?_
  refine ev_iconst (v := 3) d_L_law_479 (by decide) ?_
  refine ev_iadd d_L_law_480 ?_
  refine ev_sld d_L_law_481 (sc_in (j := 3) (by omega) hL) ?_
  refine ev_callV (ci := 5) (b := 0) (M' := it_m_X5_put) (As := [.int (g.2.2.2.2.2 (nI i + 1).toNatClampNeg), .int (g.2.2.2.2.2 (nI i + 2).toNatClampNeg), .int (g.2.2.2.2.2 (nI i + 3).toNatClampNeg)]) d_L_law_482 ml_IcedTooSoonLaw_50 hI.1.1.1 hI.1.1.2.1 ⟨_, rfl, rfl⟩ rfl rfl (Nat.le_of_ble_eq_true rfl) (by decide) (by show kc + 0 ≤ 600000; omega) (by show ks + 0 ≤ 7302249; omega) (L_X5_put hI.1 (q_put (g.2.2.2.2.2 (nI i + 1).toNatClampNeg) (g.2.2.2.2.2 (nI i + 2).toNatClampNeg) (g.2.2.2.2.2 (nI i + 3).toNatClampNeg) S hI)) (fun h => absurd h (by show ¬ (kc + 0 < 1000); omega)) ?_
  rintro _ _ S1 ⟨rfl, r, rfl, h1⟩
  have wm1 := hI.2.1
  refine ev_aload_n d_L_law_485 rfl ?_
  refine ev_aload_nO d_L_law_486 rfl ?_
  refine ev_iload_n d_L_law_487 rfl ?_
  refine ev_iconst (v := 1) d_L_law_488 (by decide) ?_
  refine ev_iadd d_L_law_489 ?_
  refine ev_sld d_L_law_490 (sc_in (j := 1) (by omega) hL) ?_
  refine ev_aload_nO d_L_law_491 rfl ?_
  refine ev_iload_n d_L_law_492 rfl ?_
  refine ev_iconst (v := 2) d_L_law_493 (by decide) ?_
  refine ev_iadd d_L_law_494 ?_
  refine ev_sld d_L_law_495 (sc_in (j := 2) (by omega) hL) ?_
  refine ev_aload_nO d_L_law_496 rfl ?_
  refine ev_iload_n d_L_law_497 rfl ?_
  refine ev_iconst (v := 3) d_L_law_498 (by decide) ?_
  refine ev_iadd d_L_law_499 ?_
  refine ev_sld d_L_law_500 (sc_in (j := 3) (by omega) hL) ?_
  refine ev_callV (ci := 6) (b := 45) (M' := it_m_X6_put) (As := [.int (g.2.2.2.2.2 (nI i + 1).toNatClampNeg), .int (g.2.2.2.2.2 (nI i + 2).toNatClampNeg), .int (g.2.2.2.2.2 (nI i + 3).toNatClampNeg)]) d_L_law_501 ml_IcedTooSoonLaw_53 wm1.1.1 wm1.1.2.1 ⟨_, rfl, rfl⟩ rfl rfl (Nat.le_of_ble_eq_true rfl) (by decide) (by show kc + 0 + 0 ≤ 600000; omega) (by show ks + 0 + 0 ≤ 7302249; omega) (L_X6_put wm1 h1) (fun h => absurd h (by show ¬ (kc + 0 + 0 < 1000); omega)) ?_
  rintro _ _ S2 ⟨rfl, r', rfl, e, hI2⟩
  subst e
  refine ev_icmp_eq (tgt := 1528) d_L_law_504 (by decide) (fun _ => ?_) (fun hc => absurd rfl hc)
  exact ev_widen (by show kc + 0 + 0 ≤ kc + 3; omega) (by show ks + 0 + 0 ≤ ks + 165; omega) (by omega) (kk _ _ hI2)
set_option maxHeartbeats 4000000 in
theorem law_9 {g : it_G} {l : Launch} {kc ks i : Nat} {κ : it_KK} {S : it_SS} {P : Option Value → it_KK → it_SS → Prop} (hL : g.2.2.2.2.1 ≤ 3584) (hi : i + 6 < g.2.2.2.2.1) (h1k : 1000 ≤ kc) (hkc : kc + 3 ≤ 600000) (hks : ks + 165 ≤ 7302249) (hI : Inv κ S) (kk : ∀ (κ' : it_KK) (S' : it_SS), Inv κ' S' → it_Ev g l 80 it_m_L (kc + 3) (ks + 165) 1528 (it_LL i) [] κ' S' P) : it_Ev g l 80 it_m_L kc ks 509 (it_LL i) [] κ S P := by
  refine ev_aload_n d_L_law_509 rfl ?_
  refine ev_aload_nO d_L_law_510 rfl ?_
  refine ev_iload_n d_L_law_511 rfl ?_
  refine ev_iconst (v := 1) d_L_law_512 (by decide) ?_
  refine ev_iadd d_L_law_513 ?_
  refine ev_sld d_L_law_514 (sc_in (j := 1) (by omega) hL) ?_
  refine ev_aload_nO d_L_law_515 rfl ?_
  refine ev_iload_n d_L_law_516 rfl ?_
  refine ev_iconst (v := 2) d_L_law_517 (by decide) ?_
  refine ev_iadd d_L_law_518 ?_
  refine ev_sld d_L_law_519 (sc_in (j := 2) (by omega) hL) ?_
  refine ev_callV (ci := 5) (b := 0) (M' := it_m_X5_told) (As := [.int (g.2.2.2.2.2 (nI i + 1).toNatClampNeg), .int (g.2.2.2.2.2 (nI i + 2).toNatClampNeg)]) d_L_law_520 ml_IcedTooSoonLaw_54 hI.1.1.1 hI.1.1.2.1 ⟨_, rfl, rfl⟩ rfl rfl (Nat.le_of_ble_eq_true rfl) (by decide) (by show kc + 0 ≤ 600000; omega) (by show ks + 0 ≤ 7302249; omega) (L_X5_told hI.1 (q_told (g.2.2.2.2.2 (nI i + 1).toNatClampNeg) (g.2.2.2.2.2 (nI i + 2).toNatClampNeg) S hI)) (fun h => absurd h (by show ¬ (kc + 0 < 1000); omega)) ?_
  rintro _ _ S1 ⟨rfl, r, rfl, h1⟩
  have wm1 := hI.2.1
  refine ev_aload_n d_L_law_523 rfl ?_
  refine ev_aload_nO d_L_law_524 rfl ?_
  refine ev_iload_n d_L_law_525 rfl ?_
  refine ev_iconst (v := 1) d_L_law_526 (by decide) ?_
  refine ev_iadd d_L_law_527 ?_
  refine ev_sld d_L_law_528 (sc_in (j := 1) (by omega) hL) ?_
  refine ev_aload_nO d_L_law_529 rfl ?_
  refine ev_iload_n d_L_law_530 rfl ?_
  refine ev_iconst (v := 2) d_L_law_531 (by decide) ?_
  refine ev_iadd d_L_law_532 ?_
  refine ev_sld d_L_law_533 (sc_in (j := 2) (by omega) hL) ?_
  refine ev_callV (ci := 6) (b := 45) (M' := it_m_X6_told) (As := [.int (g.2.2.2.2.2 (nI i + 1).toNatClampNeg), .int (g.2.2.2.2.2 (nI i + 2).toNatClampNeg)]) d_L_law_534 ml_IcedTooSoonLaw_57 wm1.1.1 wm1.1.2.1 ⟨_, rfl, rfl⟩ rfl rfl (Nat.le_of_ble_eq_true rfl) (by decide) (by show kc + 0 + 0 ≤ 600000; omega) (by show ks + 0 + 0 ≤ 7302249; omega) (L_X6_told wm1 h1) (fun h => absurd h (by show ¬ (kc + 0 + 0 < 1000); omega)) ?_
  rintro _ _ S2 ⟨rfl, r', rfl, e, hI2⟩
  subst e
  refine ev_icmp_eq (tgt := 1528) d_L_law_537 (by decide) (fun _ => ?_) (fun hc => absurd rfl hc)
  exact ev_widen (by show kc + 0 + 0 ≤ kc + 3; omega) (by show ks + 0 + 0 ≤ ks + 165; omega) (by omega) (kk _ _ hI2)
set_option maxHeartbeats 4000000 in
theorem law_10 {g : it_G} {l : Launch} {kc ks i : Nat} {κ : it_KK} {S : it_SS} {P : Option Value → it_KK → it_SS → Prop} (hL : g.2.2.2.2.1 ≤ 3584) (hi : i + 6 < g.2.2.2.2.1) (h1k : 1000 ≤ kc) (hkc : kc + 3 ≤ 600000) (hks : ks + 165 ≤ 7302249) (hI : Inv κ S) (kk : ∀ (κ' : it_KK) (S' : it_SS), Inv κ' S' → it_Ev g l 80 it_m_L (kc + 3) (ks + 165) 1528 (it_LL i) [] κ' S' P) : it_Ev g l 80 it_m_L kc ks 542 (it_LL i) [] κ S P := by
  refine ev_aload_n d_L_law_542 rfl ?_
  refine ev_aload_nO d_L_law_543 rfl ?_
  refine ev_iload_n d_L_law_544 rfl ?_
  refine ev_iconst (v := 1) d_L_law_545 (by decide) ?_
  refine ev_iadd d_L_law_546 ?_
  refine ev_sld d_L_law_547 (sc_in (j := 1) (by omega) hL) ?_
  refine ev_aload_nO d_L_law_548 rfl ?_
  refine ev_iload_n d_L_law_549 rfl ?_
  refine ev_iconst (v := 2) d_L_law_550 (by decide) ?_
  refine ev_iadd d_L_law_551 ?_
  refine ev_sld d_L_law_552 (sc_in (j := 2) (by omega) hL) ?_
  refine ev_callV (ci := 5) (b := 0) (M' := it_m_X5_glass) (As := [.int (g.2.2.2.2.2 (nI i + 1).toNatClampNeg), .int (g.2.2.2.2.2 (nI i + 2).toNatClampNeg)]) d_L_law_553 ml_IcedTooSoonLaw_58 hI.1.1.1 hI.1.1.2.1 ⟨_, rfl, rfl⟩ rfl rfl (Nat.le_of_ble_eq_true rfl) (by decide) (by show kc + 0 ≤ 600000; omega) (by show ks + 0 ≤ 7302249; omega) (L_X5_glass hI.1 (q_glass (g.2.2.2.2.2 (nI i + 1).toNatClampNeg) (g.2.2.2.2.2 (nI i + 2).toNatClampNeg) S hI)) (fun h => absurd h (by show ¬ (kc + 0 < 1000); omega)) ?_
  rintro _ _ S1 ⟨rfl, r, rfl, h1⟩
  have wm1 := hI.2.1
  refine ev_aload_n d_L_law_556 rfl ?_
  refine ev_aload_nO d_L_law_557 rfl ?_
  refine ev_iload_n d_L_law_558 rfl ?_
  refine ev_iconst (v := 1) d_L_law_559 (by decide) ?_
  refine ev_iadd d_L_law_560 ?_
  refine ev_sld d_L_law_561 (sc_in (j := 1) (by omega) hL) ?_
  refine ev_aload_nO d_L_law_562 rfl ?_
  refine ev_iload_n d_L_law_563 rfl ?_
  refine ev_iconst (v := 2) d_L_law_564 (by decide) ?_
  refine ev_iadd d_L_law_565 ?_
  refine ev_sld d_L_law_566 (sc_in (j := 2) (by omega) hL) ?_
  refine ev_callV (ci := 6) (b := 45) (M' := it_m_X6_glass) (As := [.int (g.2.2.2.2.2 (nI i + 1).toNatClampNeg), .int (g.2.2.2.2.2 (nI i + 2).toNatClampNeg)]) d_L_law_567 ml_IcedTooSoonLaw_61 wm1.1.1 wm1.1.2.1 ⟨_, rfl, rfl⟩ rfl rfl (Nat.le_of_ble_eq_true rfl) (by decide) (by show kc + 0 + 0 ≤ 600000; omega) (by show ks + 0 + 0 ≤ 7302249; omega) (L_X6_glass wm1 h1) (fun h => absurd h (by show ¬ (kc + 0 + 0 < 1000); omega)) ?_
  rintro _ _ S2 ⟨rfl, r', rfl, e, hI2⟩
  subst e
  refine ev_icmp_eq (tgt := 1528) d_L_law_570 (by decide) (fun _ => ?_) (fun hc => absurd rfl hc)
  exact ev_widen (by show kc + 0 + 0 ≤ kc + 3; omega) (by show ks + 0 + 0 ≤ ks + 165; omega) (by omega) (kk _ _ hI2)
set_option maxHeartbeats 4000000 in
theorem law_11 {g : it_G} {l : Launch} {kc ks i : Nat} {κ : it_KK} {S : it_SS} {P : Option Value → it_KK → it_SS → Prop} (hL : g.2.2.2.2.1 ≤ 3584) (hi : i + 6 < g.2.2.2.2.1) (h1k : 1000 ≤ kc) (hkc : kc + 3 ≤ 600000) (hks : ks + 165 ≤ 7302249) (hI : Inv κ S) (kk : ∀ (κ' : it_KK) (S' : it_SS), Inv κ' S' → it_Ev g l 80 it_m_L (kc + 3) (ks + 165) 1528 (it_LL i) [] κ' S' P) : it_Ev g l 80 it_m_L kc ks 575 (it_LL i) [] κ S P := by
  refine ev_aload_n d_L_law_575 rfl ?_
  refine ev_callV (ci := 5) (b := 0) (M' := it_m_X5_day) (As := []) d_L_law_576 ml_IcedTooSoonLaw_62 hI.1.1.1 hI.1.1.2.1 ⟨_, rfl, rfl⟩ rfl rfl (Nat.le_of_ble_eq_true rfl) (by decide) (by show kc + 0 ≤ 600000; omega) (by show ks + 0 ≤ 7302249; omega) (L_X5_day hI.1 (q_day  S hI)) (fun h => absurd h (by show ¬ (kc + 0 < 1000); omega)) ?_
  rintro _ _ S1 ⟨rfl, r, rfl, h1⟩
  have wm1 := hI.2.1
  refine ev_aload_n d_L_law_579 rfl ?_
  refine ev_callV (ci := 6) (b := 45) (M' := it_m_X6_day) (As := []) d_L_law_580 ml_IcedTooSoonLaw_65 wm1.1.1 wm1.1.2.1 ⟨_, rfl, rfl⟩ rfl rfl (Nat.le_of_ble_eq_true rfl) (by decide) (by show kc + 0 + 0 ≤ 600000; omega) (by show ks + 0 + 0 ≤ 7302249; omega) (L_X6_day wm1 h1) (fun h => absurd h (by show ¬ (kc + 0 + 0 < 1000); omega)) ?_
  rintro _ _ S2 ⟨rfl, r', rfl, e, hI2⟩
  subst e
  refine ev_icmp_eq (tgt := 1528) d_L_law_583 (by decide) (fun _ => ?_) (fun hc => absurd rfl hc)
  exact ev_widen (by show kc + 0 + 0 ≤ kc + 3; omega) (by show ks + 0 + 0 ≤ ks + 165; omega) (by omega) (kk _ _ hI2)
set_option maxHeartbeats 4000000 in
theorem law_12 {g : it_G} {l : Launch} {kc ks i : Nat} {κ : it_KK} {S : it_SS} {P : Option Value → it_KK → it_SS → Prop} (hL : g.2.2.2.2.1 ≤ 3584) (hi : i + 6 < g.2.2.2.2.1) (h1k : 1000 ≤ kc) (hkc : kc + 3 ≤ 600000) (hks : ks + 165 ≤ 7302249) (hI : Inv κ S) (kk : ∀ (κ' : it_KK) (S' : it_SS), Inv κ' S' → it_Ev g l 80 it_m_L (kc + 3) (ks + 165) 1528 (it_LL i) [] κ' S' P) : it_Ev g l 80 it_m_L kc ks 588 (it_LL i) [] κ S P := by
  refine ev_aload_n d_L_law_588 rfl ?_
  refine ev_aload_nO d_L_law_589 rfl ?_
  refine ev_iload_n d_L_law_590 rfl ?_
  refine ev_iconst (v := 1) d_L_law_591 (by decide) ?_
  refine ev_iadd d_L_law_592 ?_
  refine ev_sld d_L_law_593 (sc_in (j := 1) (by omega) hL) ?_
  refine ev_aload_nO d_L_law_594 rfl ?_
  refine ev_iload_n d_L_law_595 rfl ?_
  refine ev_iconst (v := 2) d_L_law_596 (by decide) ?_
  refine ev_iadd d_L_law_597 ?_
  refine ev_sld d_L_law_598 (sc_in (j := 2) (by omega) hL) ?_
  refine ev_callV (ci := 5) (b := 0) (M' := it_m_X5_iced) (As := [.int (g.2.2.2.2.2 (nI i + 1).toNatClampNeg), .int (g.2.2.2.2.2 (nI i + 2).toNatClampNeg)]) d_L_law_599 ml_IcedTooSoonLaw_66 hI.1.1.1 hI.1.1.2.1 ⟨_, rfl, rfl⟩ rfl rfl (Nat.le_of_ble_eq_true rfl) (by decide) (by show kc + 0 ≤ 600000; omega) (by show ks + 0 ≤ 7302249; omega) (L_X5_iced hI.1 (q_iced (g.2.2.2.2.2 (nI i + 1).toNatClampNeg) (g.2.2.2.2.2 (nI i + 2).toNatClampNeg) S hI)) (fun h => absurd h (by show ¬ (kc + 0 < 1000); omega)) ?_
  rintro _ _ S1 ⟨rfl, r, rfl, h1⟩
  have wm1 := hI.2.1
  refine ev_aload_n d_L_law_602 rfl ?_
  refine ev_aload_nO d_L_law_603 rfl ?_
  refine ev_iload_n d_L_law_604 rfl ?_
  refine ev_iconst (v := 1) d_L_law_605 (by decide) ?_
  refine ev_iadd d_L_law_606 ?_
  refine ev_sld d_L_law_607 (sc_in (j := 1) (by omega) hL) ?_
  refine ev_aload_nO d_L_law_608 rfl ?_
  refine ev_iload_n d_L_law_609 rfl ?_
  refine ev_iconst (v := 2) d_L_law_610 (by decide) ?_
  refine ev_iadd d_L_law_611 ?_
  refine ev_sld d_L_law_612 (sc_in (j := 2) (by omega) hL) ?_
  refine ev_callV (ci := 6) (b := 45) (M' := it_m_X6_iced) (As := [.int (g.2.2.2.2.2 (nI i + 1).toNatClampNeg), .int (g.2.2.2.2.2 (nI i + 2).toNatClampNeg)]) d_L_law_613 ml_IcedTooSoonLaw_69 wm1.1.1 wm1.1.2.1 ⟨_, rfl, rfl⟩ rfl rfl (Nat.le_of_ble_eq_true rfl) (by decide) (by show kc + 0 + 0 ≤ 600000; omega) (by show ks + 0 + 0 ≤ 7302249; omega) (L_X6_iced wm1 h1) (fun h => absurd h (by show ¬ (kc + 0 + 0 < 1000); omega)) ?_
  rintro _ _ S2 ⟨rfl, r', rfl, e, hI2⟩
  subst e
  refine ev_icmp_eq (tgt := 1528) d_L_law_616 (by decide) (fun _ => ?_) (fun hc => absurd rfl hc)
  exact ev_widen (by show kc + 0 + 0 ≤ kc + 3; omega) (by show ks + 0 + 0 ≤ ks + 165; omega) (by omega) (kk _ _ hI2)
set_option maxHeartbeats 4000000 in
theorem law_13 {g : it_G} {l : Launch} {kc ks i : Nat} {κ : it_KK} {S : it_SS} {P : Option Value → it_KK → it_SS → Prop} (hL : g.2.2.2.2.1 ≤ 3584) (hi : i + 6 < g.2.2.2.2.1) (h1k : 1000 ≤ kc) (hkc : kc + 3 ≤ 600000) (hks : ks + 165 ≤ 7302249) (hI : Inv κ S) (kk : ∀ (κ' : it_KK) (S' : it_SS), Inv κ' S' → it_Ev g l 80 it_m_L (kc + 3) (ks + 165) 1528 (it_LL i) [] κ' S' P) : it_Ev g l 80 it_m_L kc ks 621 (it_LL i) [] κ S P := by
  refine ev_aload_n d_L_law_621 rfl ?_
  refine ev_aload_nO d_L_law_622 rfl ?_
  refine ev_iload_n d_L_law_623 rfl ?_
  refine ev_iconst (v := 1) d_L_law_624 (by decide) ?_
  refine ev_iadd d_L_law_625 ?_
  refine ev_sld d_L_law_626 (sc_in (j := 1) (by omega) hL) ?_
  refine ev_callV (ci := 5) (b := 0) (M' := it_m_X5_spill) (As := [.int (g.2.2.2.2.2 (nI i + 1).toNatClampNeg)]) d_L_law_627 ml_IcedTooSoonLaw_70 hI.1.1.1 hI.1.1.2.1 ⟨_, rfl, rfl⟩ rfl rfl (Nat.le_of_ble_eq_true rfl) (by decide) (by show kc + 0 ≤ 600000; omega) (by show ks + 0 ≤ 7302249; omega) (L_X5_spill hI.1 (q_spill (g.2.2.2.2.2 (nI i + 1).toNatClampNeg) S hI)) (fun h => absurd h (by show ¬ (kc + 0 < 1000); omega)) ?_
  rintro _ _ S1 ⟨rfl, r, rfl, h1⟩
  have wm1 := hI.2.1
  refine ev_aload_n d_L_law_630 rfl ?_
  refine ev_aload_nO d_L_law_631 rfl ?_
  refine ev_iload_n d_L_law_632 rfl ?_
  refine ev_iconst (v := 1) d_L_law_633 (by decide) ?_
  refine ev_iadd d_L_law_634 ?_
  refine ev_sld d_L_law_635 (sc_in (j := 1) (by omega) hL) ?_
  refine ev_callV (ci := 6) (b := 45) (M' := it_m_X6_spill) (As := [.int (g.2.2.2.2.2 (nI i + 1).toNatClampNeg)]) d_L_law_636 ml_IcedTooSoonLaw_73 wm1.1.1 wm1.1.2.1 ⟨_, rfl, rfl⟩ rfl rfl (Nat.le_of_ble_eq_true rfl) (by decide) (by show kc + 0 + 0 ≤ 600000; omega) (by show ks + 0 + 0 ≤ 7302249; omega) (L_X6_spill wm1 h1) (fun h => absurd h (by show ¬ (kc + 0 + 0 < 1000); omega)) ?_
  rintro _ _ S2 ⟨rfl, r', rfl, e, hI2⟩
  subst e
  refine ev_icmp_eq (tgt := 1528) d_L_law_639 (by decide) (fun _ => ?_) (fun hc => absurd rfl hc)
  exact ev_widen (by show kc + 0 + 0 ≤ kc + 3; omega) (by show ks + 0 + 0 ≤ ks + 165; omega) (by omega) (kk _ _ hI2)
set_option maxHeartbeats 4000000 in
theorem law_14 {g : it_G} {l : Launch} {kc ks i : Nat} {κ : it_KK} {S : it_SS} {P : Option Value → it_KK → it_SS → Prop} (hL : g.2.2.2.2.1 ≤ 3584) (hi : i + 6 < g.2.2.2.2.1) (h1k : 1000 ≤ kc) (hkc : kc + 3 ≤ 600000) (hks : ks + 165 ≤ 7302249) (hI : Inv κ S) (kk : ∀ (κ' : it_KK) (S' : it_SS), Inv κ' S' → it_Ev g l 80 it_m_L (kc + 3) (ks + 165) 1528 (it_LL i) [] κ' S' P) : it_Ev g l 80 it_m_L kc ks 644 (it_LL i) [] κ S P := by
  refine ev_aload_n d_L_law_644 rfl ?_
  refine ev_aload_nO d_L_law_645 rfl ?_
  refine ev_iload_n d_L_law_646 rfl ?_
  refine ev_iconst (v := 1) d_L_law_647 (by decide) ?_
  refine ev_iadd d_L_law_648 ?_
  refine ev_sld d_L_law_649 (sc_in (j := 1) (by omega) hL) ?_
  refine ev_aload_nO d_L_law_650 rfl ?_
  refine ev_iload_n d_L_law_651 rfl ?_
  refine ev_iconst (v := 2) d_L_law_652 (by decide) ?_
  refine ev_iadd d_L_law_653 ?_
  refine ev_sld d_L_law_654 (sc_in (j := 2) (by omega) hL) ?_
  refine ev_callV (ci := 5) (b := 0) (M' := it_m_X5_run) (As := [.int (g.2.2.2.2.2 (nI i + 1).toNatClampNeg), .int (g.2.2.2.2.2 (nI i + 2).toNatClampNeg)]) d_L_law_655 ml_IcedTooSoonLaw_74 hI.1.1.1 hI.1.1.2.1 ⟨_, rfl, rfl⟩ rfl rfl (Nat.le_of_ble_eq_true rfl) (by decide) (by show kc + 0 ≤ 600000; omega) (by show ks + 0 ≤ 7302249; omega) (L_X5_run hI.1 (q_run (g.2.2.2.2.2 (nI i + 1).toNatClampNeg) (g.2.2.2.2.2 (nI i + 2).toNatClampNeg) S hI)) (fun h => absurd h (by show ¬ (kc + 0 < 1000); omega)) ?_
  rintro _ _ S1 ⟨rfl, r, rfl, h1⟩
  have wm1 := hI.2.1
  refine ev_aload_n d_L_law_658 rfl ?_
  refine ev_aload_nO d_L_law_659 rfl ?_
  refine ev_iload_n d_L_law_660 rfl ?_
  refine ev_iconst (v := 1) d_L_law_661 (by decide) ?_
  refine ev_iadd d_L_law_662 ?_
  refine ev_sld d_L_law_663 (sc_in (j := 1) (by omega) hL) ?_
  refine ev_aload_nO d_L_law_664 rfl ?_
  refine ev_iload_n d_L_law_665 rfl ?_
  refine ev_iconst (v := 2) d_L_law_666 (by decide) ?_
  refine ev_iadd d_L_law_667 ?_
  refine ev_sld d_L_law_668 (sc_in (j := 2) (by omega) hL) ?_
  refine ev_callV (ci := 6) (b := 45) (M' := it_m_X6_run) (As := [.int (g.2.2.2.2.2 (nI i + 1).toNatClampNeg), .int (g.2.2.2.2.2 (nI i + 2).toNatClampNeg)]) d_L_law_669 ml_IcedTooSoonLaw_77 wm1.1.1 wm1.1.2.1 ⟨_, rfl, rfl⟩ rfl rfl (Nat.le_of_ble_eq_true rfl) (by decide) (by show kc + 0 + 0 ≤ 600000; omega) (by show ks + 0 + 0 ≤ 7302249; omega) (L_X6_run wm1 h1) (fun h => absurd h (by show ¬ (kc + 0 + 0 < 1000); omega)) ?_
  rintro _ _ S2 ⟨rfl, r', rfl, e, hI2⟩
  subst e
  refine ev_icmp_eq (tgt := 1528) d_L_law_672 (by decide) (fun _ => ?_) (fun hc => absurd rfl hc)
  exact ev_widen (by show kc + 0 + 0 ≤ kc + 3; omega) (by show ks + 0 + 0 ≤ ks + 165; omega) (by omega) (kk _ _ hI2)
set_option maxHeartbeats 4000000 in
theorem law_15 {g : it_G} {l : Launch} {kc ks i : Nat} {κ : it_KK} {S : it_SS} {P : Option Value → it_KK → it_SS → Prop} (hL : g.2.2.2.2.1 ≤ 3584) (hi : i + 6 < g.2.2.2.2.1) (h1k : 1000 ≤ kc) (hkc : kc + 3 ≤ 600000) (hks : ks + 165 ≤ 7302249) (hI : Inv κ S) (kk : ∀ (κ' : it_KK) (S' : it_SS), Inv κ' S' → it_Ev g l 80 it_m_L (kc + 3) (ks + 165) 1528 (it_LL i) [] κ' S' P) : it_Ev g l 80 it_m_L kc ks 677 (it_LL i) [] κ S P := by
  refine ev_aload_n d_L_law_677 rfl ?_
  refine ev_aload_nO d_L_law_678 rfl ?_
  refine ev_iload_n d_L_law_679 rfl ?_
  refine ev_iconst (v := 1) d_L_law_680 (by decide) ?_
  refine ev_iadd d_L_law_681 ?_
  refine ev_sld d_L_law_682 (sc_in (j := 1) (by omega) hL) ?_
  refine ev_callV (ci := 5) (b := 0) (M' := it_m_X5_goesOff) (As := [.int (g.2.2.2.2.2 (nI i + 1).toNatClampNeg)]) d_L_law_683 ml_IcedTooSoonLaw_78 hI.1.1.1 hI.1.1.2.1 ⟨_, rfl, rfl⟩ rfl rfl (Nat.le_of_ble_eq_true rfl) (by decide) (by show kc + 0 ≤ 600000; omega) (by show ks + 0 ≤ 7302249; omega) (L_X5_goesOff hI.1 (q_goesOff (g.2.2.2.2.2 (nI i + 1).toNatClampNeg) S hI)) (fun h => absurd h (by show ¬ (kc + 0 < 1000); omega)) ?_
  rintro _ _ S1 ⟨rfl, r, rfl, h1⟩
  have wm1 := hI.2.1
  refine ev_aload_n d_L_law_686 rfl ?_
  refine ev_aload_nO d_L_law_687 rfl ?_
  refine ev_iload_n d_L_law_688 rfl ?_
  refine ev_iconst (v := 1) d_L_law_689 (by decide) ?_
  refine ev_iadd d_L_law_690 ?_
  refine ev_sld d_L_law_691 (sc_in (j := 1) (by omega) hL) ?_
  refine ev_callV (ci := 6) (b := 45) (M' := it_m_X6_goesOff) (As := [.int (g.2.2.2.2.2 (nI i + 1).toNatClampNeg)]) d_L_law_692 ml_IcedTooSoonLaw_81 wm1.1.1 wm1.1.2.1 ⟨_, rfl, rfl⟩ rfl rfl (Nat.le_of_ble_eq_true rfl) (by decide) (by show kc + 0 + 0 ≤ 600000; omega) (by show ks + 0 + 0 ≤ 7302249; omega) (L_X6_goesOff wm1 h1) (fun h => absurd h (by show ¬ (kc + 0 + 0 < 1000); omega)) ?_
  rintro _ _ S2 ⟨rfl, r', rfl, e, hI2⟩
  subst e
  refine ev_icmp_eq (tgt := 1528) d_L_law_695 (by decide) (fun _ => ?_) (fun hc => absurd rfl hc)
  exact ev_widen (by show kc + 0 + 0 ≤ kc + 3; omega) (by show ks + 0 + 0 ≤ ks + 165; omega) (by omega) (kk _ _ hI2)
set_option maxHeartbeats 4000000 in
theorem law_16 {g : it_G} {l : Launch} {kc ks i : Nat} {κ : it_KK} {S : it_SS} {P : Option Value → it_KK → it_SS → Prop} (hL : g.2.2.2.2.1 ≤ 3584) (hi : i + 6 < g.2.2.2.2.1) (h1k : 1000 ≤ kc) (hkc : kc + 3 ≤ 600000) (hks : ks + 165 ≤ 7302249) (hI : Inv κ S) (kk : ∀ (κ' : it_KK) (S' : it_SS), Inv κ' S' → it_Ev g l 80 it_m_L (kc + 3) (ks + 165) 1528 (it_LL i) [] κ' S' P) : it_Ev g l 80 it_m_L kc ks 700 (it_LL i) [] κ S P := by
  refine ev_aload_n d_L_law_700 rfl ?_
  refine ev_aload_nO d_L_law_701 rfl ?_
  refine ev_iload_n d_L_law_702 rfl ?_
  refine ev_iconst (v := 1) d_L_law_703 (by decide) ?_
  refine ev_iadd d_L_law_704 ?_
  refine ev_sld d_L_law_705 (sc_in (j := 1) (by omega) hL) ?_
  refine ev_aload_nO d_L_law_706 rfl ?_
  refine ev_iload_n d_L_law_707 rfl ?_
  refine ev_iconst (v := 2) d_L_law_708 (by decide) ?_
  refine ev_iadd d_L_law_709 ?_
  refine ev_sld d_L_law_710 (sc_in (j := 2) (by omega) hL) ?_
  refine ev_aload_nO d_L_law_711 rfl ?_
  refine ev_iload_n d_L_law_712 rfl ?_
  refine ev_iconst (v := 3) d_L_law_713 (by decide) ?_
  refine ev_iadd d_L_law_714 ?_
  refine ev_sld d_L_law_715 (sc_in (j := 3) (by omega) hL) ?_
  refine ev_callV (ci := 5) (b := 0) (M' := it_m_X5_worst) (As := [.int (g.2.2.2.2.2 (nI i + 1).toNatClampNeg), .int (g.2.2.2.2.2 (nI i + 2).toNatClampNeg), .int (g.2.2.2.2.2 (nI i + 3).toNatClampNeg)]) d_L_law_716 ml_IcedTooSoonLaw_82 hI.1.1.1 hI.1.1.2.1 ⟨_, rfl, rfl⟩ rfl rfl (Nat.le_of_ble_eq_true rfl) (by decide) (by show kc + 0 ≤ 600000; omega) (by show ks + 0 ≤ 7302249; omega) (L_X5_worst hI.1 (q_worst (g.2.2.2.2.2 (nI i + 1).toNatClampNeg) (g.2.2.2.2.2 (nI i + 2).toNatClampNeg) (g.2.2.2.2.2 (nI i + 3).toNatClampNeg) S hI)) (fun h => absurd h (by show ¬ (kc + 0 < 1000); omega)) ?_
  rintro _ _ S1 ⟨rfl, r, rfl, h1⟩
  have wm1 := hI.2.1
  refine ev_aload_n d_L_law_719 rfl ?_
  refine ev_aload_nO d_L_law_720 rfl ?_
  refine ev_iload_n d_L_law_721 rfl ?_
  refine ev_iconst (v := 1) d_L_law_722 (by decide) ?_
  refine ev_iadd d_L_law_723 ?_
  refine ev_sld d_L_law_724 (sc_in (j := 1) (by omega) hL) ?_
  refine ev_aload_nO d_L_law_725 rfl ?_
  refine ev_iload_n d_L_law_726 rfl ?_
  refine ev_iconst (v := 2) d_L_law_727 (by decide) ?_
  refine ev_iadd d_L_law_728 ?_
  refine ev_sld d_L_law_729 (sc_in (j := 2) (by omega) hL) ?_
  refine ev_aload_nO d_L_law_730 rfl ?_
  refine ev_iload_n d_L_law_731 rfl ?_
  refine ev_iconst (v := 3) d_L_law_732 (by decide) ?_
  refine ev_iadd d_L_law_733 ?_
  refine ev_sld d_L_law_734 (sc_in (j := 3) (by omega) hL) ?_
  refine ev_callV (ci := 6) (b := 45) (M' := it_m_X6_worst) (As := [.int (g.2.2.2.2.2 (nI i + 1).toNatClampNeg), .int (g.2.2.2.2.2 (nI i + 2).toNatClampNeg), .int (g.2.2.2.2.2 (nI i + 3).toNatClampNeg)]) d_L_law_735 ml_IcedTooSoonLaw_85 wm1.1.1 wm1.1.2.1 ⟨_, rfl, rfl⟩ rfl rfl (Nat.le_of_ble_eq_true rfl) (by decide) (by show kc + 0 + 0 ≤ 600000; omega) (by show ks + 0 + 0 ≤ 7302249; omega) (L_X6_worst wm1 h1) (fun h => absurd h (by show ¬ (kc + 0 + 0 < 1000); omega)) ?_
  rintro _ _ S2 ⟨rfl, r', rfl, e, hI2⟩
  subst e
  refine ev_icmp_eq (tgt := 1528) d_L_law_738 (by decide) (fun _ => ?_) (fun hc => absurd rfl hc)
  exact ev_widen (by show kc + 0 + 0 ≤ kc + 3; omega) (by show ks + 0 + 0 ≤ ks + 165; omega) (by omega) (kk _ _ hI2)
set_option maxHeartbeats 4000000 in
theorem law_17 {g : it_G} {l : Launch} {kc ks i : Nat} {κ : it_KK} {S : it_SS} {P : Option Value → it_KK → it_SS → Prop} (hL : g.2.2.2.2.1 ≤ 3584) (hi : i + 6 < g.2.2.2.2.1) (h1k : 1000 ≤ kc) (hkc : kc + 3 ≤ 600000) (hks : ks + 165 ≤ 7302249) (hI : Inv κ S) (kk : ∀ (κ' : it_KK) (S' : it_SS), Inv κ' S' → it_Ev g l 80 it_m_L (kc + 3) (ks + 165) 1528 (it_LL i) [] κ' S' P) : it_Ev g l 80 it_m_L kc ks 743 (it_LL i) [] κ S P := by
  refine ev_aload_n d_L_law_743 rfl ?_
  refine ev_aload_nO d_L_law_744 rfl ?_
  refine ev_iload_n d_L_law_745 rfl ?_
  refine ev_iconst (v := 1) d_L_law_746 (by decide) ?_
  refine ev_iadd d_L_law_747 ?_
  refine ev_sld d_L_law_748 (sc_in (j := 1) (by omega) hL) ?_
  refine ev_aload_nO d_L_law_749 rfl ?_
  refine ev_iload_n d_L_law_750 rfl ?_
  refine ev_iconst (v := 2) d_L_law_751 (by decide) ?_
  refine ev_iadd d_L_law_752 ?_
  refine ev_sld d_L_law_753 (sc_in (j := 2) (by omega) hL) ?_
  refine ev_callV (ci := 5) (b := 0) (M' := it_m_X5_falls) (As := [.int (g.2.2.2.2.2 (nI i + 1).toNatClampNeg), .int (g.2.2.2.2.2 (nI i + 2).toNatClampNeg)]) d_L_law_754 ml_IcedTooSoonLaw_86 hI.1.1.1 hI.1.1.2.1 ⟨_, rfl, rfl⟩ rfl rfl (Nat.le_of_ble_eq_true rfl) (by decide) (by show kc + 0 ≤ 600000; omega) (by show ks + 0 ≤ 7302249; omega) (L_X5_falls hI.1 (q_falls (g.2.2.2.2.2 (nI i + 1).toNatClampNeg) (g.2.2.2.2.2 (nI i + 2).toNatClampNeg) S hI)) (fun h => absurd h (by show ¬ (kc + 0 < 1000); omega)) ?_
  rintro _ _ S1 ⟨rfl, r, rfl, h1⟩
  have wm1 := hI.2.1
  refine ev_aload_n d_L_law_757 rfl ?_
  refine ev_aload_nO d_L_law_758 rfl ?_
  refine ev_iload_n d_L_law_759 rfl ?_
  refine ev_iconst (v := 1) d_L_law_760 (by decide) ?_
  refine ev_iadd d_L_law_761 ?_
  refine ev_sld d_L_law_762 (sc_in (j := 1) (by omega) hL) ?_
  refine ev_aload_nO d_L_law_763 rfl ?_
  refine ev_iload_n d_L_law_764 rfl ?_
  refine ev_iconst (v := 2) d_L_law_765 (by decide) ?_
  refine ev_iadd d_L_law_766 ?_
  refine ev_sld d_L_law_767 (sc_in (j := 2) (by omega) hL) ?_
  refine ev_callV (ci := 6) (b := 45) (M' := it_m_X6_falls) (As := [.int (g.2.2.2.2.2 (nI i + 1).toNatClampNeg), .int (g.2.2.2.2.2 (nI i + 2).toNatClampNeg)]) d_L_law_768 ml_IcedTooSoonLaw_89 wm1.1.1 wm1.1.2.1 ⟨_, rfl, rfl⟩ rfl rfl (Nat.le_of_ble_eq_true rfl) (by decide) (by show kc + 0 + 0 ≤ 600000; omega) (by show ks + 0 + 0 ≤ 7302249; omega) (L_X6_falls wm1 h1) (fun h => absurd h (by show ¬ (kc + 0 + 0 < 1000); omega)) ?_
  rintro _ _ S2 ⟨rfl, r', rfl, e, hI2⟩
  subst e
  refine ev_icmp_eq (tgt := 1528) d_L_law_771 (by decide) (fun _ => ?_) (fun hc => absurd rfl hc)
  exact ev_widen (by show kc + 0 + 0 ≤ kc + 3; omega) (by show ks + 0 + 0 ≤ ks + 165; omega) (by omega) (kk _ _ hI2)
set_option maxHeartbeats 4000000 in
theorem law_18 {g : it_G} {l : Launch} {kc ks i : Nat} {κ : it_KK} {S : it_SS} {P : Option Value → it_KK → it_SS → Prop} (hL : g.2.2.2.2.1 ≤ 3584) (hi : i + 6 < g.2.2.2.2.1) (h1k : 1000 ≤ kc) (hkc : kc + 3 ≤ 600000) (hks : ks + 165 ≤ 7302249) (hI : Inv κ S) (kk : ∀ (κ' : it_KK) (S' : it_SS), Inv κ' S' → it_Ev g l 80 it_m_L (kc + 3) (ks + 165) 1528 (it_LL i) [] κ' S' P) : it_Ev g l 80 it_m_L kc ks 776 (it_LL i) [] κ S P := by
  refine ev_aload_n d_L_law_776 rfl ?_
  refine ev_aload_nO d_L_law_777 rfl ?_
  refine ev_iload_n d_L_law_778 rfl ?_
  refine ev_iconst (v := 1) d_L_law_779 (by decide) ?_
  refine ev_iadd d_L_law_780 ?_
  refine ev_sld d_L_law_781 (sc_in (j := 1) (by omega) hL) ?_
  refine ev_aload_nO d_L_law_782 rfl ?_
  refine ev_iload_n d_L_law_783 rfl ?_
  refine ev_iconst (v := 2) d_L_law_784 (by decide) ?_
  refine ev_iadd d_L_law_785 ?_
  refine ev_sld d_L_law_786 (sc_in (j := 2) (by omega) hL) ?_
  refine ev_aload_nO d_L_law_787 rfl ?_
  refine ev_iload_n d_L_law_788 rfl ?_
  refine ev_iconst (v := 3) d_L_law_789 (by decide) ?_
  refine ev_iadd d_L_law_790 ?_
  refine ev_sld d_L_law_791 (sc_in (j := 3) (by omega) hL) ?_
  refine ev_callV (ci := 5) (b := 0) (M' := it_m_X5_again) (As := [.int (g.2.2.2.2.2 (nI i + 1).toNatClampNeg), .int (g.2.2.2.2.2 (nI i + 2).toNatClampNeg), .int (g.2.2.2.2.2 (nI i + 3).toNatClampNeg)]) d_L_law_792 ml_IcedTooSoonLaw_90 hI.1.1.1 hI.1.1.2.1 ⟨_, rfl, rfl⟩ rfl rfl (Nat.le_of_ble_eq_true rfl) (by decide) (by show kc + 0 ≤ 600000; omega) (by show ks + 0 ≤ 7302249; omega) (L_X5_again hI.1 (q_again (g.2.2.2.2.2 (nI i + 1).toNatClampNeg) (g.2.2.2.2.2 (nI i + 2).toNatClampNeg) (g.2.2.2.2.2 (nI i + 3).toNatClampNeg) S hI)) (fun h => absurd h (by show ¬ (kc + 0 < 1000); omega)) ?_
  rintro _ _ S1 ⟨rfl, r, rfl, h1⟩
  have wm1 := hI.2.1
  refine ev_aload_n d_L_law_795 rfl ?_
  refine ev_aload_nO d_L_law_796 rfl ?_
  refine ev_iload_n d_L_law_797 rfl ?_
  refine ev_iconst (v := 1) d_L_law_798 (by decide) ?_
  refine ev_iadd d_L_law_799 ?_
  refine ev_sld d_L_law_800 (sc_in (j := 1) (by omega) hL) ?_
  refine ev_aload_nO d_L_law_801 rfl ?_
  refine ev_iload_n d_L_law_802 rfl ?_
  refine ev_iconst (v := 2) d_L_law_803 (by decide) ?_
  refine ev_iadd d_L_law_804 ?_
  refine ev_sld d_L_law_805 (sc_in (j := 2) (by omega) hL) ?_
  refine ev_aload_nO d_L_law_806 rfl ?_
  refine ev_iload_n d_L_law_807 rfl ?_
  refine ev_iconst (v := 3) d_L_law_808 (by decide) ?_
  refine ev_iadd d_L_law_809 ?_
  refine ev_sld d_L_law_810 (sc_in (j := 3) (by omega) hL) ?_
  refine ev_callV (ci := 6) (b := 45) (M' := it_m_X6_again) (As := [.int (g.2.2.2.2.2 (nI i + 1).toNatClampNeg), .int (g.2.2.2.2.2 (nI i + 2).toNatClampNeg), .int (g.2.2.2.2.2 (nI i + 3).toNatClampNeg)]) d_L_law_811 ml_IcedTooSoonLaw_93 wm1.1.1 wm1.1.2.1 ⟨_, rfl, rfl⟩ rfl rfl (Nat.le_of_ble_eq_true rfl) (by decide) (by show kc + 0 + 0 ≤ 600000; omega) (by show ks + 0 + 0 ≤ 7302249; omega) (L_X6_again wm1 h1) (fun h => absurd h (by show ¬ (kc + 0 + 0 < 1000); omega)) ?_
  rintro _ _ S2 ⟨rfl, r', rfl, e, hI2⟩
  subst e
  refine ev_icmp_eq (tgt := 1528) d_L_law_814 (by decide) (fun _ => ?_) (fun hc => absurd rfl hc)
  exact ev_widen (by show kc + 0 + 0 ≤ kc + 3; omega) (by show ks + 0 + 0 ≤ ks + 165; omega) (by omega) (kk _ _ hI2)
set_option maxHeartbeats 4000000 in
theorem law_19 {g : it_G} {l : Launch} {kc ks i : Nat} {κ : it_KK} {S : it_SS} {P : Option Value → it_KK → it_SS → Prop} (hL : g.2.2.2.2.1 ≤ 3584) (hi : i + 6 < g.2.2.2.2.1) (h1k : 1000 ≤ kc) (hkc : kc + 3 ≤ 600000) (hks : ks + 165 ≤ 7302249) (hI : Inv κ S) (kk : ∀ (κ' : it_KK) (S' : it_SS), Inv κ' S' → it_Ev g l 80 it_m_L (kc + 3) (ks + 165) 1528 (it_LL i) [] κ' S' P) : it_Ev g l 80 it_m_L kc ks 819 (it_LL i) [] κ S P := by
  refine ev_aload_n d_L_law_819 rfl ?_
  refine ev_aload_nO d_L_law_820 rfl ?_
  refine ev_iload_n d_L_law_821 rfl ?_
  refine ev_iconst (v := 1) d_L_law_822 (by decide) ?_
  refine ev_iadd d_L_law_823 ?_
  refine ev_sld d_L_law_824 (sc_in (j := 1) (by omega) hL) ?_
  refine ev_aload_nO d_L_law_825 rfl ?_
  refine ev_iload_n d_L_law_826 rfl ?_
  refine ev_iconst (v := 2) d_L_law_827 (by decide) ?_
  refine ev_iadd d_L_law_828 ?_
  refine ev_sld d_L_law_829 (sc_in (j := 2) (by omega) hL) ?_
  refine ev_callV (ci := 5) (b := 0) (M' := it_m_X5_spilt) (As := [.int (g.2.2.2.2.2 (nI i + 1).toNatClampNeg), .int (g.2.2.2.2.2 (nI i + 2).toNatClampNeg)]) d_L_law_830 ml_IcedTooSoonLaw_94 hI.1.1.1 hI.1.1.2.1 ⟨_, rfl, rfl⟩ rfl rfl (Nat.le_of_ble_eq_true rfl) (by decide) (by show kc + 0 ≤ 600000; omega) (by show ks + 0 ≤ 7302249; omega) (L_X5_spilt hI.1 (q_spilt (g.2.2.2.2.2 (nI i + 1).toNatClampNeg) (g.2.2.2.2.2 (nI i + 2).toNatClampNeg) S hI)) (fun h => absurd h (by show ¬ (kc + 0 < 1000); omega)) ?_
  rintro _ _ S1 ⟨rfl, r, rfl, h1⟩
  have wm1 := hI.2.1
  refine ev_aload_n d_L_law_833 rfl ?_
  refine ev_aload_nO d_L_law_834 rfl ?_
  refine ev_iload_n d_L_law_835 rfl ?_
  refine ev_iconst (v := 1) d_L_law_836 (by decide) ?_
  refine ev_iadd d_L_law_837 ?_
  refine ev_sld d_L_law_838 (sc_in (j := 1) (by omega) hL) ?_
  refine ev_aload_nO d_L_law_839 rfl ?_
  refine ev_iload_n d_L_law_840 rfl ?_
  refine ev_iconst (v := 2) d_L_law_841 (by decide) ?_
  refine ev_iadd d_L_law_842 ?_
  refine ev_sld d_L_law_843 (sc_in (j := 2) (by omega) hL) ?_
  refine ev_callV (ci := 6) (b := 45) (M' := it_m_X6_spilt) (As := [.int (g.2.2.2.2.2 (nI i + 1).toNatClampNeg), .int (g.2.2.2.2.2 (nI i + 2).toNatClampNeg)]) d_L_law_844 ml_IcedTooSoonLaw_97 wm1.1.1 wm1.1.2.1 ⟨_, rfl, rfl⟩ rfl rfl (Nat.le_of_ble_eq_true rfl) (by decide) (by show kc + 0 + 0 ≤ 600000; omega) (by show ks + 0 + 0 ≤ 7302249; omega) (L_X6_spilt wm1 h1) (fun h => absurd h (by show ¬ (kc + 0 + 0 < 1000); omega)) ?_
  rintro _ _ S2 ⟨rfl, r', rfl, e, hI2⟩
  subst e
  refine ev_icmp_eq (tgt := 1528) d_L_law_847 (by decide) (fun _ => ?_) (fun hc => absurd rfl hc)
  exact ev_widen (by show kc + 0 + 0 ≤ kc + 3; omega) (by show ks + 0 + 0 ≤ ks + 165; omega) (by omega) (kk _ _ hI2)
set_option maxHeartbeats 4000000 in
theorem law_20 {g : it_G} {l : Launch} {kc ks i : Nat} {κ : it_KK} {S : it_SS} {P : Option Value → it_KK → it_SS → Prop} (hL : g.2.2.2.2.1 ≤ 3584) (hi : i + 6 < g.2.2.2.2.1) (h1k : 1000 ≤ kc) (hkc : kc + 3 ≤ 600000) (hks : ks + 165 ≤ 7302249) (hI : Inv κ S) (kk : ∀ (κ' : it_KK) (S' : it_SS), Inv κ' S' → it_Ev g l 80 it_m_L (kc + 3) (ks + 165) 1528 (it_LL i) [] κ' S' P) : it_Ev g l 80 it_m_L kc ks 852 (it_LL i) [] κ S P := by
  refine ev_aload_n d_L_law_852 rfl ?_
  refine ev_aload_nO d_L_law_853 rfl ?_
  refine ev_iload_n d_L_law_854 rfl ?_
  refine ev_iconst (v := 1) d_L_law_855 (by decide) ?_
  refine ev_iadd d_L_law_856 ?_
  refine ev_sld d_L_law_857 (sc_in (j := 1) (by omega) hL) ?_
  refine ev_aload_nO d_L_law_858 rfl ?_
  refine ev_iload_n d_L_law_859 rfl ?_
  refine ev_iconst (v := 2) d_L_law_860 (by decide) ?_
  refine ev_iadd d_L_law_861 ?_
  refine ev_sld d_L_law_862 (sc_in (j := 2) (by omega) hL) ?_
  refine ev_aload_nO d_L_law_863 rfl ?_
  refine ev_iload_n d_L_law_864 rfl ?_
  refine ev_iconst (v := 3) d_L_law_865 (by decide) ?_
  refine ev_iadd d_L_law_866 ?_
  refine ev_sld d_L_law_867 (sc_in (j := 3) (by omega) hL) ?_
  refine ev_callV (ci := 5) (b := 0) (M' := it_m_X5_round) (As := [.int (g.2.2.2.2.2 (nI i + 1).toNatClampNeg), .int (g.2.2.2.2.2 (nI i + 2).toNatClampNeg), .int (g.2.2.2.2.2 (nI i + 3).toNatClampNeg)]) d_L_law_868 ml_IcedTooSoonLaw_98 hI.1.1.1 hI.1.1.2.1 ⟨_, rfl, rfl⟩ rfl rfl (Nat.le_of_ble_eq_true rfl) (by decide) (by show kc + 0 ≤ 600000; omega) (by show ks + 0 ≤ 7302249; omega) (L_X5_round hI.1 (q_round (g.2.2.2.2.2 (nI i + 1).toNatClampNeg) (g.2.2.2.2.2 (nI i + 2).toNatClampNeg) (g.2.2.2.2.2 (nI i + 3).toNatClampNeg) S hI)) (fun h => absurd h (by show ¬ (kc + 0 < 1000); omega)) ?_
  rintro _ _ S1 ⟨rfl, r, rfl, h1⟩
  have wm1 := hI.2.1
  refine ev_aload_n d_L_law_871 rfl ?_
  refine ev_aload_nO d_L_law_872 rfl ?_
  refine ev_iload_n d_L_law_873 rfl ?_
  refine ev_iconst (v := 1) d_L_law_874 (by decide) ?_
  refine ev_iadd d_L_law_875 ?_
  refine ev_sld d_L_law_876 (sc_in (j := 1) (by omega) hL) ?_
  refine ev_aload_nO d_L_law_877 rfl ?_
  refine ev_iload_n d_L_law_878 rfl ?_
  refine ev_iconst (v := 2) d_L_law_879 (by decide) ?_
  refine ev_iadd d_L_law_880 ?_
  refine ev_sld d_L_law_881 (sc_in (j := 2) (by omega) hL) ?_
  refine ev_aload_nO d_L_law_882 rfl ?_
  refine ev_iload_n d_L_law_883 rfl ?_
  refine ev_iconst (v := 3) d_L_law_884 (by decide) ?_
  refine ev_iadd d_L_law_885 ?_
  refine ev_sld d_L_law_886 (sc_in (j := 3) (by omega) hL) ?_
  refine ev_callV (ci := 6) (b := 45) (M' := it_m_X6_round) (As := [.int (g.2.2.2.2.2 (nI i + 1).toNatClampNeg), .int (g.2.2.2.2.2 (nI i + 2).toNatClampNeg), .int (g.2.2.2.2.2 (nI i + 3).toNatClampNeg)]) d_L_law_887 ml_IcedTooSoonLaw_101 wm1.1.1 wm1.1.2.1 ⟨_, rfl, rfl⟩ rfl rfl (Nat.le_of_ble_eq_true rfl) (by decide) (by show kc + 0 + 0 ≤ 600000; omega) (by show ks + 0 + 0 ≤ 7302249; omega) (L_X6_round wm1 h1) (fun h => absurd h (by show ¬ (kc + 0 + 0 < 1000); omega)) ?_
  rintro _ _ S2 ⟨rfl, r', rfl, e, hI2⟩
  subst e
  refine ev_icmp_eq (tgt := 1528) d_L_law_890 (by decide) (fun _ => ?_) (fun hc => absurd rfl hc)
  exact ev_widen (by show kc + 0 + 0 ≤ kc + 3; omega) (by show ks + 0 + 0 ≤ ks + 165; omega) (by omega) (kk _ _ hI2)
set_option maxHeartbeats 4000000 in
theorem law_21 {g : it_G} {l : Launch} {kc ks i : Nat} {κ : it_KK} {S : it_SS} {P : Option Value → it_KK → it_SS → Prop} (hL : g.2.2.2.2.1 ≤ 3584) (hi : i + 6 < g.2.2.2.2.1) (h1k : 1000 ≤ kc) (hkc : kc + 3 ≤ 600000) (hks : ks + 165 ≤ 7302249) (hI : Inv κ S) (kk : ∀ (κ' : it_KK) (S' : it_SS), Inv κ' S' → it_Ev g l 80 it_m_L (kc + 3) (ks + 165) 1528 (it_LL i) [] κ' S' P) : it_Ev g l 80 it_m_L kc ks 895 (it_LL i) [] κ S P := by
  refine ev_aload_n d_L_law_895 rfl ?_
  refine ev_aload_nO d_L_law_896 rfl ?_
  refine ev_iload_n d_L_law_897 rfl ?_
  refine ev_iconst (v := 1) d_L_law_898 (by decide) ?_
  refine ev_iadd d_L_law_899 ?_
  refine ev_sld d_L_law_900 (sc_in (j := 1) (by omega) hL) ?_
  refine ev_callV (ci := 5) (b := 0) (M' := it_m_X5_mean) (As := [.int (g.2.2.2.2.2 (nI i + 1).toNatClampNeg)]) d_L_law_901 ml_IcedTooSoonLaw_102 hI.1.1.1 hI.1.1.2.1 ⟨_, rfl, rfl⟩ rfl rfl (Nat.le_of_ble_eq_true rfl) (by decide) (by show kc + 0 ≤ 600000; omega) (by show ks + 0 ≤ 7302249; omega) (L_X5_mean hI.1 (q_mean (g.2.2.2.2.2 (nI i + 1).toNatClampNeg) S hI)) (fun h => absurd h (by show ¬ (kc + 0 < 1000); omega)) ?_
  rintro _ _ S1 ⟨rfl, r, rfl, h1⟩
  have wm1 := hI.2.1
  refine ev_aload_n d_L_law_904 rfl ?_
  refine ev_aload_nO d_L_law_905 rfl ?_
  refine ev_iload_n d_L_law_906 rfl ?_
  refine ev_iconst (v := 1) d_L_law_907 (by decide) ?_
  refine ev_iadd d_L_law_908 ?_
  refine ev_sld d_L_law_909 (sc_in (j := 1) (by omega) hL) ?_
  refine ev_callV (ci := 6) (b := 45) (M' := it_m_X6_mean) (As := [.int (g.2.2.2.2.2 (nI i + 1).toNatClampNeg)]) d_L_law_910 ml_IcedTooSoonLaw_106 wm1.1.1 wm1.1.2.1 ⟨_, rfl, rfl⟩ rfl rfl (Nat.le_of_ble_eq_true rfl) (by decide) (by show kc + 0 + 0 ≤ 600000; omega) (by show ks + 0 + 0 ≤ 7302249; omega) (L_X6_mean wm1 h1) (fun h => absurd h (by show ¬ (kc + 0 + 0 < 1000); omega)) ?_
  rintro _ _ S2 ⟨rfl, r', rfl, e, hI2⟩
  subst e
  refine ev_lcmp d_L_law_913 ?_
  refine ev_if_eq (tgt := 1528) d_L_law_914 (by decide) (fun _ => ?_) (fun hc => absurd (lg_cmp_refl r') hc)
  exact ev_widen (by show kc + 0 + 0 ≤ kc + 3; omega) (by show ks + 0 + 0 ≤ ks + 165; omega) (by omega) (kk _ _ hI2)
set_option maxHeartbeats 4000000 in
theorem law_22 {g : it_G} {l : Launch} {kc ks i : Nat} {κ : it_KK} {S : it_SS} {P : Option Value → it_KK → it_SS → Prop} (hL : g.2.2.2.2.1 ≤ 3584) (hi : i + 6 < g.2.2.2.2.1) (h1k : 1000 ≤ kc) (hkc : kc + 3 ≤ 600000) (hks : ks + 165 ≤ 7302249) (hI : Inv κ S) (kk : ∀ (κ' : it_KK) (S' : it_SS), Inv κ' S' → it_Ev g l 80 it_m_L (kc + 3) (ks + 165) 1528 (it_LL i) [] κ' S' P) : it_Ev g l 80 it_m_L kc ks 919 (it_LL i) [] κ S P := by
  refine ev_aload_n d_L_law_919 rfl ?_
  refine ev_aload_nO d_L_law_920 rfl ?_
  refine ev_iload_n d_L_law_921 rfl ?_
  refine ev_iconst (v := 1) d_L_law_922 (by decide) ?_
  refine ev_iadd d_L_law_923 ?_
  refine ev_sld d_L_law_924 (sc_in (j := 1) (by omega) hL) ?_
  refine ev_aload_nO d_L_law_925 rfl ?_
  refine ev_iload_n d_L_law_926 rfl ?_
  refine ev_iconst (v := 2) d_L_law_927 (by decide) ?_
  refine ev_iadd d_L_law_928 ?_
  refine ev_sld d_L_law_929 (sc_in (j := 2) (by omega) hL) ?_
  refine ev_callV (ci := 5) (b := 0) (M' := it_m_X5_judge) (As := [.int (g.2.2.2.2.2 (nI i + 1).toNatClampNeg), .int (g.2.2.2.2.2 (nI i + 2).toNatClampNeg)]) d_L_law_930 ml_IcedTooSoonLaw_107 hI.1.1.1 hI.1.1.2.1 ⟨_, rfl, rfl⟩ rfl rfl (Nat.le_of_ble_eq_true rfl) (by decide) (by show kc + 0 ≤ 600000; omega) (by show ks + 0 ≤ 7302249; omega) (L_X5_judge hI.1 (q_judge (g.2.2.2.2.2 (nI i + 1).toNatClampNeg) (g.2.2.2.2.2 (nI i + 2).toNatClampNeg) S hI)) (fun h => absurd h (by show ¬ (kc + 0 < 1000); omega)) ?_
  rintro _ _ S1 ⟨rfl, r, rfl, h1⟩
  have wm1 := hI.2.1
  refine ev_aload_n d_L_law_933 rfl ?_
  refine ev_aload_nO d_L_law_934 rfl ?_
  refine ev_iload_n d_L_law_935 rfl ?_
  refine ev_iconst (v := 1) d_L_law_936 (by decide) ?_
  refine ev_iadd d_L_law_937 ?_
  refine ev_sld d_L_law_938 (sc_in (j := 1) (by omega) hL) ?_
  refine ev_aload_nO d_L_law_939 rfl ?_
  refine ev_iload_n d_L_law_940 rfl ?_
  refine ev_iconst (v := 2) d_L_law_941 (by decide) ?_
  refine ev_iadd d_L_law_942 ?_
  refine ev_sld d_L_law_943 (sc_in (j := 2) (by omega) hL) ?_
  refine ev_callV (ci := 6) (b := 45) (M' := it_m_X6_judge) (As := [.int (g.2.2.2.2.2 (nI i + 1).toNatClampNeg), .int (g.2.2.2.2.2 (nI i + 2).toNatClampNeg)]) d_L_law_944 ml_IcedTooSoonLaw_110 wm1.1.1 wm1.1.2.1 ⟨_, rfl, rfl⟩ rfl rfl (Nat.le_of_ble_eq_true rfl) (by decide) (by show kc + 0 + 0 ≤ 600000; omega) (by show ks + 0 + 0 ≤ 7302249; omega) (L_X6_judge wm1 h1) (fun h => absurd h (by show ¬ (kc + 0 + 0 < 1000); omega)) ?_
  rintro _ _ S2 ⟨rfl, r', rfl, e, hI2⟩
  subst e
  refine ev_icmp_eq (tgt := 1528) d_L_law_947 (by decide) (fun _ => ?_) (fun hc => absurd rfl hc)
  exact ev_widen (by show kc + 0 + 0 ≤ kc + 3; omega) (by show ks + 0 + 0 ≤ ks + 165; omega) (by omega) (kk _ _ hI2)
set_option maxHeartbeats 4000000 in
theorem law_23 {g : it_G} {l : Launch} {kc ks i : Nat} {κ : it_KK} {S : it_SS} {P : Option Value → it_KK → it_SS → Prop} (hL : g.2.2.2.2.1 ≤ 3584) (hi : i + 6 < g.2.2.2.2.1) (h1k : 1000 ≤ kc) (hkc : kc + 3 ≤ 600000) (hks : ks + 165 ≤ 7302249) (hI : Inv κ S) (kk : ∀ (κ' : it_KK) (S' : it_SS), Inv κ' S' → it_Ev g l 80 it_m_L (kc + 3) (ks + 165) 1528 (it_LL i) [] κ' S' P) : it_Ev g l 80 it_m_L kc ks 952 (it_LL i) [] κ S P := by
  refine ev_aload_n d_L_law_952 rfl ?_
  refine ev_aload_nO d_L_law_953 rfl ?_
  refine ev_iload_n d_L_law_954 rfl ?_
  refine ev_iconst (v := 1) d_L_law_955 (by decide) ?_
  refine ev_iadd d_L_law_956 ?_
  refine ev_sld d_L_law_957 (sc_in (j := 1) (by omega) hL) ?_
  refine ev_aload_nO d_L_law_958 rfl ?_
  refine ev_iload_n d_L_law_959 rfl ?_
  refine ev_iconst (v := 2) d_L_law_960 (by decide) ?_
  refine ev_iadd d_L_law_961 ?_
  refine ev_sld d_L_law_962 (sc_in (j := 2) (by omega) hL) ?_
  refine ev_aload_nO d_L_law_963 rfl ?_
  refine ev_iload_n d_L_law_964 rfl ?_
  refine ev_iconst (v := 3) d_L_law_965 (by decide) ?_
  refine ev_iadd d_L_law_966 ?_
  refine ev_sld d_L_law_967 (sc_in (j := 3) (by omega) hL) ?_
  refine ev_callV (ci := 5) (b := 0) (M' := it_m_X5_kinds) (As := [.int (g.2.2.2.2.2 (nI i + 1).toNatClampNeg), .int (g.2.2.2.2.2 (nI i + 2).toNatClampNeg), .int (g.2.2.2.2.2 (nI i + 3).toNatClampNeg)]) d_L_law_968 ml_IcedTooSoonLaw_111 hI.1.1.1 hI.1.1.2.1 ⟨_, rfl, rfl⟩ rfl rfl (Nat.le_of_ble_eq_true rfl) (by decide) (by show kc + 0 ≤ 600000; omega) (by show ks + 0 ≤ 7302249; omega) (L_X5_kinds hI.1 (q_kinds (g.2.2.2.2.2 (nI i + 1).toNatClampNeg) (g.2.2.2.2.2 (nI i + 2).toNatClampNeg) (g.2.2.2.2.2 (nI i + 3).toNatClampNeg) S hI)) (fun h => absurd h (by show ¬ (kc + 0 < 1000); omega)) ?_
  rintro _ _ S1 ⟨rfl, r, rfl, h1⟩
  have wm1 := hI.2.1
  refine ev_aload_n d_L_law_971 rfl ?_
  refine ev_aload_nO d_L_law_972 rfl ?_
  refine ev_iload_n d_L_law_973 rfl ?_
  refine ev_iconst (v := 1) d_L_law_974 (by decide) ?_
  refine ev_iadd d_L_law_975 ?_
  refine ev_sld d_L_law_976 (sc_in (j := 1) (by omega) hL) ?_
  refine ev_aload_nO d_L_law_977 rfl ?_
  refine ev_iload_n d_L_law_978 rfl ?_
  refine ev_iconst (v := 2) d_L_law_979 (by decide) ?_
  refine ev_iadd d_L_law_980 ?_
  refine ev_sld d_L_law_981 (sc_in (j := 2) (by omega) hL) ?_
  refine ev_aload_nO d_L_law_982 rfl ?_
  refine ev_iload_n d_L_law_983 rfl ?_
  refine ev_iconst (v := 3) d_L_law_984 (by decide) ?_
  refine ev_iadd d_L_law_985 ?_
  refine ev_sld d_L_law_986 (sc_in (j := 3) (by omega) hL) ?_
  refine ev_callV (ci := 6) (b := 45) (M' := it_m_X6_kinds) (As := [.int (g.2.2.2.2.2 (nI i + 1).toNatClampNeg), .int (g.2.2.2.2.2 (nI i + 2).toNatClampNeg), .int (g.2.2.2.2.2 (nI i + 3).toNatClampNeg)]) d_L_law_987 ml_IcedTooSoonLaw_114 wm1.1.1 wm1.1.2.1 ⟨_, rfl, rfl⟩ rfl rfl (Nat.le_of_ble_eq_true rfl) (by decide) (by show kc + 0 + 0 ≤ 600000; omega) (by show ks + 0 + 0 ≤ 7302249; omega) (L_X6_kinds wm1 h1) (fun h => absurd h (by show ¬ (kc + 0 + 0 < 1000); omega)) ?_
  rintro _ _ S2 ⟨rfl, r', rfl, e, hI2⟩
  subst e
  refine ev_icmp_eq (tgt := 1528) d_L_law_990 (by decide) (fun _ => ?_) (fun hc => absurd rfl hc)
  exact ev_widen (by show kc + 0 + 0 ≤ kc + 3; omega) (by show ks + 0 + 0 ≤ ks + 165; omega) (by omega) (kk _ _ hI2)
set_option maxHeartbeats 4000000 in
theorem law_24 {g : it_G} {l : Launch} {kc ks i : Nat} {κ : it_KK} {S : it_SS} {P : Option Value → it_KK → it_SS → Prop} (hL : g.2.2.2.2.1 ≤ 3584) (hi : i + 6 < g.2.2.2.2.1) (h1k : 1000 ≤ kc) (hkc : kc + 3 ≤ 600000) (hks : ks + 165 ≤ 7302249) (hI : Inv κ S) (kk : ∀ (κ' : it_KK) (S' : it_SS), Inv κ' S' → it_Ev g l 80 it_m_L (kc + 3) (ks + 165) 1528 (it_LL i) [] κ' S' P) : it_Ev g l 80 it_m_L kc ks 995 (it_LL i) [] κ S P := by
  refine ev_aload_n d_L_law_995 rfl ?_
  refine ev_aload_nO d_L_law_996 rfl ?_
  refine ev_iload_n d_L_law_997 rfl ?_
  refine ev_iconst (v := 1) d_L_law_998 (by decide) ?_
  refine ev_iadd d_L_law_999 ?_
  refine ev_sld d_L_law_1000 (sc_in (j := 1) (by omega) hL) ?_
  refine ev_aload_nO d_L_law_1001 rfl ?_
  refine ev_iload_n d_L_law_1002 rfl ?_
  refine ev_iconst (v := 2) d_L_law_1003 (by decide) ?_
  refine ev_iadd d_L_law_1004 ?_
  refine ev_sld d_L_law_1005 (sc_in (j := 2) (by omega) hL) ?_
  refine ev_aload_nO d_L_law_1006 rfl ?_
  refine ev_iload_n d_L_law_1007 rfl ?_
  refine ev_iconst (v := 3) d_L_law_1008 (by decide) ?_
  refine ev_iadd d_L_law_1009 ?_
  refine ev_sld d_L_law_1010 (sc_in (j := 3) (by omega) hL) ?_
  refine ev_aload_nO d_L_law_1011 rfl ?_
  refine ev_iload_n d_L_law_1012 rfl ?_
  refine ev_iconst (v := 4) d_L_law_1013 (by decide) ?_
  refine ev_iadd d_L_law_1014 ?_
  refine ev_sld d_L_law_1015 (sc_in (j := 4) (by omega) hL) ?_
  refine ev_callV (ci := 5) (b := 0) (M' := it_m_X5_states) (As := [.int (g.2.2.2.2.2 (nI i + 1).toNatClampNeg), .int (g.2.2.2.2.2 (nI i + 2).toNatClampNeg), .int (g.2.2.2.2.2 (nI i + 3).toNatClampNeg), .int (g.2.2.2.2.2 (nI i + 4).toNatClampNeg)]) d_L_law_1016 ml_IcedTooSoonLaw_115 hI.1.1.1 hI.1.1.2.1 ⟨_, rfl, rfl⟩ rfl rfl (Nat.le_of_ble_eq_true rfl) (by decide) (by show kc + 0 ≤ 600000; omega) (by show ks + 0 ≤ 7302249; omega) (L_X5_states hI.1 (q_states (g.2.2.2.2.2 (nI i + 1).toNatClampNeg) (g.2.2.2.2.2 (nI i + 2).toNatClampNeg) (g.2.2.2.2.2 (nI i + 3).toNatClampNeg) (g.2.2.2.2.2 (nI i + 4).toNatClampNeg) S hI)) (fun h => absurd h (by show ¬ (kc + 0 < 1000); omega)) ?_
  rintro _ _ S1 ⟨rfl, r, rfl, h1⟩
  have wm1 := hI.2.1
  refine ev_aload_n d_L_law_1019 rfl ?_
  refine ev_aload_nO d_L_law_1020 rfl ?_
  refine ev_iload_n d_L_law_1021 rfl ?_
  refine ev_iconst (v := 1) d_L_law_1022 (by decide) ?_
  refine ev_iadd d_L_law_1023 ?_
  refine ev_sld d_L_law_1024 (sc_in (j := 1) (by omega) hL) ?_
  refine ev_aload_nO d_L_law_1025 rfl ?_
  refine ev_iload_n d_L_law_1026 rfl ?_
  refine ev_iconst (v := 2) d_L_law_1027 (by decide) ?_
  refine ev_iadd d_L_law_1028 ?_
  refine ev_sld d_L_law_1029 (sc_in (j := 2) (by omega) hL) ?_
  refine ev_aload_nO d_L_law_1030 rfl ?_
  refine ev_iload_n d_L_law_1031 rfl ?_
  refine ev_iconst (v := 3) d_L_law_1032 (by decide) ?_
  refine ev_iadd d_L_law_1033 ?_
  refine ev_sld d_L_law_1034 (sc_in (j := 3) (by omega) hL) ?_
  refine ev_aload_nO d_L_law_1035 rfl ?_
  refine ev_iload_n d_L_law_1036 rfl ?_
  refine ev_iconst (v := 4) d_L_law_1037 (by decide) ?_
  refine ev_iadd d_L_law_1038 ?_
  refine ev_sld d_L_law_1039 (sc_in (j := 4) (by omega) hL) ?_
  refine ev_callV (ci := 6) (b := 45) (M' := it_m_X6_states) (As := [.int (g.2.2.2.2.2 (nI i + 1).toNatClampNeg), .int (g.2.2.2.2.2 (nI i + 2).toNatClampNeg), .int (g.2.2.2.2.2 (nI i + 3).toNatClampNeg), .int (g.2.2.2.2.2 (nI i + 4).toNatClampNeg)]) d_L_law_1040 ml_IcedTooSoonLaw_119 wm1.1.1 wm1.1.2.1 ⟨_, rfl, rfl⟩ rfl rfl (Nat.le_of_ble_eq_true rfl) (by decide) (by show kc + 0 + 0 ≤ 600000; omega) (by show ks + 0 + 0 ≤ 7302249; omega) (L_X6_states wm1 h1) (fun h => absurd h (by show ¬ (kc + 0 + 0 < 1000); omega)) ?_
  rintro _ _ S2 ⟨rfl, r', rfl, e, hI2⟩
  subst e
  refine ev_icmp_eq (tgt := 1528) d_L_law_1043 (by decide) (fun _ => ?_) (fun hc => absurd rfl hc)
  exact ev_widen (by show kc + 0 + 0 ≤ kc + 3; omega) (by show ks + 0 + 0 ≤ ks + 165; omega) (by omega) (kk _ _ hI2)
set_option maxHeartbeats 4000000 in
theorem law_25 {g : it_G} {l : Launch} {kc ks i : Nat} {κ : it_KK} {S : it_SS} {P : Option Value → it_KK → it_SS → Prop} (hL : g.2.2.2.2.1 ≤ 3584) (hi : i + 6 < g.2.2.2.2.1) (h1k : 1000 ≤ kc) (hkc : kc + 3 ≤ 600000) (hks : ks + 165 ≤ 7302249) (hI : Inv κ S) (kk : ∀ (κ' : it_KK) (S' : it_SS), Inv κ' S' → it_Ev g l 80 it_m_L (kc + 3) (ks + 165) 1528 (it_LL i) [] κ' S' P) : it_Ev g l 80 it_m_L kc ks 1048 (it_LL i) [] κ S P := by
  refine ev_aload_n d_L_law_1048 rfl ?_
  refine ev_aload_nO d_L_law_1049 rfl ?_
  refine ev_iload_n d_L_law_1050 rfl ?_
  refine ev_iconst (v := 1) d_L_law_1051 (by decide) ?_
  refine ev_iadd d_L_law_1052 ?_
  refine ev_sld d_L_law_1053 (sc_in (j := 1) (by omega) hL) ?_
  refine ev_aload_nO d_L_law_1054 rfl ?_
  refine ev_iload_n d_L_law_1055 rfl ?_
  refine ev_iconst (v := 2) d_L_law_1056 (by decide) ?_
  refine ev_iadd d_L_law_1057 ?_
  refine ev_sld d_L_law_1058 (sc_in (j := 2) (by omega) hL) ?_
  refine ev_callV (ci := 5) (b := 0) (M' := it_m_X5_owners) (As := [.int (g.2.2.2.2.2 (nI i + 1).toNatClampNeg), .int (g.2.2.2.2.2 (nI i + 2).toNatClampNeg)]) d_L_law_1059 ml_IcedTooSoonLaw_120 hI.1.1.1 hI.1.1.2.1 ⟨_, rfl, rfl⟩ rfl rfl (Nat.le_of_ble_eq_true rfl) (by decide) (by show kc + 0 ≤ 600000; omega) (by show ks + 0 ≤ 7302249; omega) (L_X5_owners hI.1 (q_owners (g.2.2.2.2.2 (nI i + 1).toNatClampNeg) (g.2.2.2.2.2 (nI i + 2).toNatClampNeg) S hI)) (fun h => absurd h (by show ¬ (kc + 0 < 1000); omega)) ?_
  rintro _ _ S1 ⟨rfl, r, rfl, h1⟩
  have wm1 := hI.2.1
  refine ev_aload_n d_L_law_1062 rfl ?_
  refine ev_aload_nO d_L_law_1063 rfl ?_
  refine ev_iload_n d_L_law_1064 rfl ?_
  refine ev_iconst (v := 1) d_L_law_1065 (by decide) ?_
  refine ev_iadd d_L_law_1066 ?_
  refine ev_sld d_L_law_1067 (sc_in (j := 1) (by omega) hL) ?_
  refine ev_aload_nO d_L_law_1068 rfl ?_
  refine ev_iload_n d_L_law_1069 rfl ?_
  refine ev_iconst (v := 2) d_L_law_1070 (by decide) ?_
  refine ev_iadd d_L_law_1071 ?_
  refine ev_sld d_L_law_1072 (sc_in (j := 2) (by omega) hL) ?_
  refine ev_callV (ci := 6) (b := 45) (M' := it_m_X6_owners) (As := [.int (g.2.2.2.2.2 (nI i + 1).toNatClampNeg), .int (g.2.2.2.2.2 (nI i + 2).toNatClampNeg)]) d_L_law_1073 ml_IcedTooSoonLaw_123 wm1.1.1 wm1.1.2.1 ⟨_, rfl, rfl⟩ rfl rfl (Nat.le_of_ble_eq_true rfl) (by decide) (by show kc + 0 + 0 ≤ 600000; omega) (by show ks + 0 + 0 ≤ 7302249; omega) (L_X6_owners wm1 h1) (fun h => absurd h (by show ¬ (kc + 0 + 0 < 1000); omega)) ?_
  rintro _ _ S2 ⟨rfl, r', rfl, e, hI2⟩
  subst e
  refine ev_icmp_eq (tgt := 1528) d_L_law_1076 (by decide) (fun _ => ?_) (fun hc => absurd rfl hc)
  exact ev_widen (by show kc + 0 + 0 ≤ kc + 3; omega) (by show ks + 0 + 0 ≤ ks + 165; omega) (by omega) (kk _ _ hI2)
set_option maxHeartbeats 4000000 in
theorem law_26 {g : it_G} {l : Launch} {kc ks i : Nat} {κ : it_KK} {S : it_SS} {P : Option Value → it_KK → it_SS → Prop} (hL : g.2.2.2.2.1 ≤ 3584) (hi : i + 6 < g.2.2.2.2.1) (h1k : 1000 ≤ kc) (hkc : kc + 3 ≤ 600000) (hks : ks + 165 ≤ 7302249) (hI : Inv κ S) (kk : ∀ (κ' : it_KK) (S' : it_SS), Inv κ' S' → it_Ev g l 80 it_m_L (kc + 3) (ks + 165) 1528 (it_LL i) [] κ' S' P) : it_Ev g l 80 it_m_L kc ks 1081 (it_LL i) [] κ S P := by
  refine ev_aload_n d_L_law_1081 rfl ?_
  refine ev_aload_nO d_L_law_1082 rfl ?_
  refine ev_iload_n d_L_law_1083 rfl ?_
  refine ev_iconst (v := 1) d_L_law_1084 (by decide) ?_
  refine ev_iadd d_L_law_1085 ?_
  refine ev_sld d_L_law_1086 (sc_in (j := 1) (by omega) hL) ?_
  refine ev_callV (ci := 5) (b := 0) (M' := it_m_X5_who) (As := [.int (g.2.2.2.2.2 (nI i + 1).toNatClampNeg)]) d_L_law_1087 ml_IcedTooSoonLaw_124 hI.1.1.1 hI.1.1.2.1 ⟨_, rfl, rfl⟩ rfl rfl (Nat.le_of_ble_eq_true rfl) (by decide) (by show kc + 0 ≤ 600000; omega) (by show ks + 0 ≤ 7302249; omega) (L_X5_who hI.1 (q_who (g.2.2.2.2.2 (nI i + 1).toNatClampNeg) S hI)) (fun h => absurd h (by show ¬ (kc + 0 < 1000); omega)) ?_
  rintro _ _ S1 ⟨rfl, r, rfl, h1⟩
  have wm1 := hI.2.1
  refine ev_aload_n d_L_law_1090 rfl ?_
  refine ev_aload_nO d_L_law_1091 rfl ?_
  refine ev_iload_n d_L_law_1092 rfl ?_
  refine ev_iconst (v := 1) d_L_law_1093 (by decide) ?_
  refine ev_iadd d_L_law_1094 ?_
  refine ev_sld d_L_law_1095 (sc_in (j := 1) (by omega) hL) ?_
  refine ev_callV (ci := 6) (b := 45) (M' := it_m_X6_who) (As := [.int (g.2.2.2.2.2 (nI i + 1).toNatClampNeg)]) d_L_law_1096 ml_IcedTooSoonLaw_127 wm1.1.1 wm1.1.2.1 ⟨_, rfl, rfl⟩ rfl rfl (Nat.le_of_ble_eq_true rfl) (by decide) (by show kc + 0 + 0 ≤ 600000; omega) (by show ks + 0 + 0 ≤ 7302249; omega) (L_X6_who wm1 h1) (fun h => absurd h (by show ¬ (kc + 0 + 0 < 1000); omega)) ?_
  rintro _ _ S2 ⟨rfl, r', rfl, e, hI2⟩
  subst e
  refine ev_icmp_eq (tgt := 1528) d_L_law_1099 (by decide) (fun _ => ?_) (fun hc => absurd rfl hc)
  exact ev_widen (by show kc + 0 + 0 ≤ kc + 3; omega) (by show ks + 0 + 0 ≤ ks + 165; omega) (by omega) (kk _ _ hI2)
set_option maxHeartbeats 4000000 in
theorem law_27 {g : it_G} {l : Launch} {kc ks i : Nat} {κ : it_KK} {S : it_SS} {P : Option Value → it_KK → it_SS → Prop} (hL : g.2.2.2.2.1 ≤ 3584) (hi : i + 6 < g.2.2.2.2.1) (h1k : 1000 ≤ kc) (hkc : kc + 3 ≤ 600000) (hks : ks + 165 ≤ 7302249) (hI : Inv κ S) (kk : ∀ (κ' : it_KK) (S' : it_SS), Inv κ' S' → it_Ev g l 80 it_m_L (kc + 3) (ks + 165) 1528 (it_LL i) [] κ' S' P) : it_Ev g l 80 it_m_L kc ks 1104 (it_LL i) [] κ S P := by
  refine ev_aload_n d_L_law_1104 rfl ?_
  refine ev_aload_nO d_L_law_1105 rfl ?_
  refine ev_iload_n d_L_law_1106 rfl ?_
  refine ev_iconst (v := 1) d_L_law_1107 (by decide) ?_
  refine ev_iadd d_L_law_1108 ?_
  refine ev_sld d_L_law_1109 (sc_in (j := 1) (by omega) hL) ?_
  refine ev_aload_nO d_L_law_1110 rfl ?_
  refine ev_iload_n d_L_law_1111 rfl ?_
  refine ev_iconst (v := 2) d_L_law_1112 (by decide) ?_
  refine ev_iadd d_L_law_1113 ?_
  refine ev_sld d_L_law_1114 (sc_in (j := 2) (by omega) hL) ?_
  refine ev_callV (ci := 5) (b := 0) (M' := it_m_X5_laws) (As := [.int (g.2.2.2.2.2 (nI i + 1).toNatClampNeg), .int (g.2.2.2.2.2 (nI i + 2).toNatClampNeg)]) d_L_law_1115 ml_IcedTooSoonLaw_128 hI.1.1.1 hI.1.1.2.1 ⟨_, rfl, rfl⟩ rfl rfl (Nat.le_of_ble_eq_true rfl) (by decide) (by show kc + 0 ≤ 600000; omega) (by show ks + 0 ≤ 7302249; omega) (L_X5_laws hI.1 (q_laws (g.2.2.2.2.2 (nI i + 1).toNatClampNeg) (g.2.2.2.2.2 (nI i + 2).toNatClampNeg) S hI)) (fun h => absurd h (by show ¬ (kc + 0 < 1000); omega)) ?_
  rintro _ _ S1 ⟨rfl, r, rfl, h1⟩
  have wm1 := hI.2.1
  refine ev_aload_n d_L_law_1118 rfl ?_
  refine ev_aload_nO d_L_law_1119 rfl ?_
  refine ev_iload_n d_L_law_1120 rfl ?_
  refine ev_iconst (v := 1) d_L_law_1121 (by decide) ?_
  refine ev_iadd d_L_law_1122 ?_
  refine ev_sld d_L_law_1123 (sc_in (j := 1) (by omega) hL) ?_
  refine ev_aload_nO d_L_law_1124 rfl ?_
  refine ev_iload_n d_L_law_1125 rfl ?_
  refine ev_iconst (v := 2) d_L_law_1126 (by decide) ?_
  refine ev_iadd d_L_law_1127 ?_
  refine ev_sld d_L_law_1128 (sc_in (j := 2) (by omega) hL) ?_
  refine ev_callV (ci := 6) (b := 45) (M' := it_m_X6_laws) (As := [.int (g.2.2.2.2.2 (nI i + 1).toNatClampNeg), .int (g.2.2.2.2.2 (nI i + 2).toNatClampNeg)]) d_L_law_1129 ml_IcedTooSoonLaw_131 wm1.1.1 wm1.1.2.1 ⟨_, rfl, rfl⟩ rfl rfl (Nat.le_of_ble_eq_true rfl) (by decide) (by show kc + 0 + 0 ≤ 600000; omega) (by show ks + 0 + 0 ≤ 7302249; omega) (L_X6_laws wm1 h1) (fun h => absurd h (by show ¬ (kc + 0 + 0 < 1000); omega)) ?_
  rintro _ _ S2 ⟨rfl, r', rfl, e, hI2⟩
  subst e
  refine ev_icmp_eq (tgt := 1528) d_L_law_1132 (by decide) (fun _ => ?_) (fun hc => absurd rfl hc)
  exact ev_widen (by show kc + 0 + 0 ≤ kc + 3; omega) (by show ks + 0 + 0 ≤ ks + 165; omega) (by omega) (kk _ _ hI2)
set_option maxHeartbeats 4000000 in
theorem law_28 {g : it_G} {l : Launch} {kc ks i : Nat} {κ : it_KK} {S : it_SS} {P : Option Value → it_KK → it_SS → Prop} (hL : g.2.2.2.2.1 ≤ 3584) (hi : i + 6 < g.2.2.2.2.1) (h1k : 1000 ≤ kc) (hkc : kc + 3 ≤ 600000) (hks : ks + 165 ≤ 7302249) (hI : Inv κ S) (kk : ∀ (κ' : it_KK) (S' : it_SS), Inv κ' S' → it_Ev g l 80 it_m_L (kc + 3) (ks + 165) 1528 (it_LL i) [] κ' S' P) : it_Ev g l 80 it_m_L kc ks 1137 (it_LL i) [] κ S P := by
  refine ev_aload_n d_L_law_1137 rfl ?_
  refine ev_aload_nO d_L_law_1138 rfl ?_
  refine ev_iload_n d_L_law_1139 rfl ?_
  refine ev_iconst (v := 1) d_L_law_1140 (by decide) ?_
  refine ev_iadd d_L_law_1141 ?_
  refine ev_sld d_L_law_1142 (sc_in (j := 1) (by omega) hL) ?_
  refine ev_aload_nO d_L_law_1143 rfl ?_
  refine ev_iload_n d_L_law_1144 rfl ?_
  refine ev_iconst (v := 2) d_L_law_1145 (by decide) ?_
  refine ev_iadd d_L_law_1146 ?_
  refine ev_sld d_L_law_1147 (sc_in (j := 2) (by omega) hL) ?_
  refine ev_aload_nO d_L_law_1148 rfl ?_
  refine ev_iload_n d_L_law_1149 rfl ?_
  refine ev_iconst (v := 3) d_L_law_1150 (by decide) ?_
  refine ev_iadd d_L_law_1151 ?_
  refine ev_sld d_L_law_1152 (sc_in (j := 3) (by omega) hL) ?_
  refine ev_callV (ci := 5) (b := 0) (M' := it_m_X5_film) (As := [.int (g.2.2.2.2.2 (nI i + 1).toNatClampNeg), .int (g.2.2.2.2.2 (nI i + 2).toNatClampNeg), .int (g.2.2.2.2.2 (nI i + 3).toNatClampNeg)]) d_L_law_1153 ml_IcedTooSoonLaw_132 hI.1.1.1 hI.1.1.2.1 ⟨_, rfl, rfl⟩ rfl rfl (Nat.le_of_ble_eq_true rfl) (by decide) (by show kc + 0 ≤ 600000; omega) (by show ks + 0 ≤ 7302249; omega) (L_X5_film hI.1 (q_film (g.2.2.2.2.2 (nI i + 1).toNatClampNeg) (g.2.2.2.2.2 (nI i + 2).toNatClampNeg) (g.2.2.2.2.2 (nI i + 3).toNatClampNeg) S hI)) (fun h => absurd h (by show ¬ (kc + 0 < 1000); omega)) ?_
  rintro _ _ S1 ⟨rfl, r, rfl, h1⟩
  have wm1 := hI.2.1
  refine ev_aload_n d_L_law_1156 rfl ?_
  refine ev_aload_nO d_L_law_1157 rfl ?_
  refine ev_iload_n d_L_law_1158 rfl ?_
  refine ev_iconst (v := 1) d_L_law_1159 (by decide) ?_
  refine ev_iadd d_L_law_1160 ?_
  refine ev_sld d_L_law_1161 (sc_in (j := 1) (by omega) hL) ?_
  refine ev_aload_nO d_L_law_1162 rfl ?_
  refine ev_iload_n d_L_law_1163 rfl ?_
  refine ev_iconst (v := 2) d_L_law_1164 (by decide) ?_
  refine ev_iadd d_L_law_1165 ?_
  refine ev_sld d_L_law_1166 (sc_in (j := 2) (by omega) hL) ?_
  refine ev_aload_nO d_L_law_1167 rfl ?_
  refine ev_iload_n d_L_law_1168 rfl ?_
  refine ev_iconst (v := 3) d_L_law_1169 (by decide) ?_
  refine ev_iadd d_L_law_1170 ?_
  refine ev_sld d_L_law_1171 (sc_in (j := 3) (by omega) hL) ?_
  refine ev_callV (ci := 6) (b := 45) (M' := it_m_X6_film) (As := [.int (g.2.2.2.2.2 (nI i + 1).toNatClampNeg), .int (g.2.2.2.2.2 (nI i + 2).toNatClampNeg), .int (g.2.2.2.2.2 (nI i + 3).toNatClampNeg)]) d_L_law_1172 ml_IcedTooSoonLaw_135 wm1.1.1 wm1.1.2.1 ⟨_, rfl, rfl⟩ rfl rfl (Nat.le_of_ble_eq_true rfl) (by decide) (by show kc + 0 + 0 ≤ 600000; omega) (by show ks + 0 + 0 ≤ 7302249; omega) (L_X6_film wm1 h1) (fun h => absurd h (by show ¬ (kc + 0 + 0 < 1000); omega)) ?_
  rintro _ _ S2 ⟨rfl, r', rfl, e, hI2⟩
  subst e
  refine ev_icmp_eq (tgt := 1528) d_L_law_1175 (by decide) (fun _ => ?_) (fun hc => absurd rfl hc)
  exact ev_widen (by show kc + 0 + 0 ≤ kc + 3; omega) (by show ks + 0 + 0 ≤ ks + 165; omega) (by omega) (kk _ _ hI2)
set_option maxHeartbeats 4000000 in
theorem law_29 {g : it_G} {l : Launch} {kc ks i : Nat} {κ : it_KK} {S : it_SS} {P : Option Value → it_KK → it_SS → Prop} (hL : g.2.2.2.2.1 ≤ 3584) (hi : i + 6 < g.2.2.2.2.1) (h1k : 1000 ≤ kc) (hkc : kc + 3 ≤ 600000) (hks : ks + 165 ≤ 7302249) (hI : Inv κ S) (kk : ∀ (κ' : it_KK) (S' : it_SS), Inv κ' S' → it_Ev g l 80 it_m_L (kc + 3) (ks + 165) 1528 (it_LL i) [] κ' S' P) : it_Ev g l 80 it_m_L kc ks 1180 (it_LL i) [] κ S P := by
  refine ev_aload_n d_L_law_1180 rfl ?_
  refine ev_aload_nO d_L_law_1181 rfl ?_
  refine ev_iload_n d_L_law_1182 rfl ?_
  refine ev_iconst (v := 1) d_L_law_1183 (by decide) ?_
  refine ev_iadd d_L_law_1184 ?_
  refine ev_sld d_L_law_1185 (sc_in (j := 1) (by omega) hL) ?_
  refine ev_aload_nO d_L_law_1186 rfl ?_
  refine ev_iload_n d_L_law_1187 rfl ?_
  refine ev_iconst (v := 2) d_L_law_1188 (by decide) ?_
  refine ev_iadd d_L_law_1189 ?_
  refine ev_sld d_L_law_1190 (sc_in (j := 2) (by omega) hL) ?_
  refine ev_callV (ci := 5) (b := 0) (M' := it_m_X5_drawn) (As := [.int (g.2.2.2.2.2 (nI i + 1).toNatClampNeg), .int (g.2.2.2.2.2 (nI i + 2).toNatClampNeg)]) d_L_law_1191 ml_IcedTooSoonLaw_136 hI.1.1.1 hI.1.1.2.1 ⟨_, rfl, rfl⟩ rfl rfl (Nat.le_of_ble_eq_true rfl) (by decide) (by show kc + 0 ≤ 600000; omega) (by show ks + 0 ≤ 7302249; omega) (L_X5_drawn hI.1 (q_drawn (g.2.2.2.2.2 (nI i + 1).toNatClampNeg) (g.2.2.2.2.2 (nI i + 2).toNatClampNeg) S hI)) (fun h => absurd h (by show ¬ (kc + 0 < 1000); omega)) ?_
  rintro _ _ S1 ⟨rfl, r, rfl, h1⟩
  have wm1 := hI.2.1
  refine ev_aload_n d_L_law_1194 rfl ?_
  refine ev_aload_nO d_L_law_1195 rfl ?_
  refine ev_iload_n d_L_law_1196 rfl ?_
  refine ev_iconst (v := 1) d_L_law_1197 (by decide) ?_
  refine ev_iadd d_L_law_1198 ?_
  refine ev_sld d_L_law_1199 (sc_in (j := 1) (by omega) hL) ?_
  refine ev_aload_nO d_L_law_1200 rfl ?_
  refine ev_iload_n d_L_law_1201 rfl ?_
  refine ev_iconst (v := 2) d_L_law_1202 (by decide) ?_
  refine ev_iadd d_L_law_1203 ?_
  refine ev_sld d_L_law_1204 (sc_in (j := 2) (by omega) hL) ?_
  refine ev_callV (ci := 6) (b := 45) (M' := it_m_X6_drawn) (As := [.int (g.2.2.2.2.2 (nI i + 1).toNatClampNeg), .int (g.2.2.2.2.2 (nI i + 2).toNatClampNeg)]) d_L_law_1205 ml_IcedTooSoonLaw_139 wm1.1.1 wm1.1.2.1 ⟨_, rfl, rfl⟩ rfl rfl (Nat.le_of_ble_eq_true rfl) (by decide) (by show kc + 0 + 0 ≤ 600000; omega) (by show ks + 0 + 0 ≤ 7302249; omega) (L_X6_drawn wm1 h1) (fun h => absurd h (by show ¬ (kc + 0 + 0 < 1000); omega)) ?_
  rintro _ _ S2 ⟨rfl, r', rfl, e, hI2⟩
  subst e
  refine ev_icmp_eq (tgt := 1528) d_L_law_1208 (by decide) (fun _ => ?_) (fun hc => absurd rfl hc)
  exact ev_widen (by show kc + 0 + 0 ≤ kc + 3; omega) (by show ks + 0 + 0 ≤ ks + 165; omega) (by omega) (kk _ _ hI2)
set_option maxHeartbeats 4000000 in
theorem law_30 {g : it_G} {l : Launch} {kc ks i : Nat} {κ : it_KK} {S : it_SS} {P : Option Value → it_KK → it_SS → Prop} (hL : g.2.2.2.2.1 ≤ 3584) (hi : i + 6 < g.2.2.2.2.1) (h1k : 1000 ≤ kc) (hkc : kc + 3 ≤ 600000) (hks : ks + 165 ≤ 7302249) (hI : Inv κ S) (kk : ∀ (κ' : it_KK) (S' : it_SS), Inv κ' S' → it_Ev g l 80 it_m_L (kc + 3) (ks + 165) 1528 (it_LL i) [] κ' S' P) : it_Ev g l 80 it_m_L kc ks 1213 (it_LL i) [] κ S P := by
  refine ev_aload_n d_L_law_1213 rfl ?_
  refine ev_aload_nO d_L_law_1214 rfl ?_
  refine ev_iload_n d_L_law_1215 rfl ?_
  refine ev_iconst (v := 1) d_L_law_1216 (by decide) ?_
  refine ev_iadd d_L_law_1217 ?_
  refine ev_sld d_L_law_1218 (sc_in (j := 1) (by omega) hL) ?_
  refine ev_aload_nO d_L_law_1219 rfl ?_
  refine ev_iload_n d_L_law_1220 rfl ?_
  refine ev_iconst (v := 2) d_L_law_1221 (by decide) ?_
  refine ev_iadd d_L_law_1222 ?_
  refine ev_sld d_L_law_1223 (sc_in (j := 2) (by omega) hL) ?_
  refine ev_aload_nO d_L_law_1224 rfl ?_
  refine ev_iload_n d_L_law_1225 rfl ?_
  refine ev_iconst (v := 3) d_L_law_1226 (by decide) ?_
  refine ev_iadd d_L_law_1227 ?_
  refine ev_sld d_L_law_1228 (sc_in (j := 3) (by omega) hL) ?_
  refine ev_aload_nO d_L_law_1229 rfl ?_
  refine ev_iload_n d_L_law_1230 rfl ?_
  refine ev_iconst (v := 4) d_L_law_1231 (by decide) ?_
  refine ev_iadd d_L_law_1232 ?_
  refine ev_sld d_L_law_1233 (sc_in (j := 4) (by omega) hL) ?_
  refine ev_callV (ci := 5) (b := 0) (M' := it_m_X5_odds) (As := [.int (g.2.2.2.2.2 (nI i + 1).toNatClampNeg), .int (g.2.2.2.2.2 (nI i + 2).toNatClampNeg), .int (g.2.2.2.2.2 (nI i + 3).toNatClampNeg), .int (g.2.2.2.2.2 (nI i + 4).toNatClampNeg)]) d_L_law_1234 ml_IcedTooSoonLaw_140 hI.1.1.1 hI.1.1.2.1 ⟨_, rfl, rfl⟩ rfl rfl (Nat.le_of_ble_eq_true rfl) (by decide) (by show kc + 0 ≤ 600000; omega) (by show ks + 0 ≤ 7302249; omega) (L_X5_odds hI.1 (q_odds (g.2.2.2.2.2 (nI i + 1).toNatClampNeg) (g.2.2.2.2.2 (nI i + 2).toNatClampNeg) (g.2.2.2.2.2 (nI i + 3).toNatClampNeg) (g.2.2.2.2.2 (nI i + 4).toNatClampNeg) S hI)) (fun h => absurd h (by show ¬ (kc + 0 < 1000); omega)) ?_
  rintro _ _ S1 ⟨rfl, r, rfl, h1⟩
  have wm1 := hI.2.1
  refine ev_aload_n d_L_law_1237 rfl ?_
  refine ev_aload_nO d_L_law_1238 rfl ?_
  refine ev_iload_n d_L_law_1239 rfl ?_
  refine ev_iconst (v := 1) d_L_law_1240 (by decide) ?_
  refine ev_iadd d_L_law_1241 ?_
  refine ev_sld d_L_law_1242 (sc_in (j := 1) (by omega) hL) ?_
  refine ev_aload_nO d_L_law_1243 rfl ?_
  refine ev_iload_n d_L_law_1244 rfl ?_
  refine ev_iconst (v := 2) d_L_law_1245 (by decide) ?_
  refine ev_iadd d_L_law_1246 ?_
  refine ev_sld d_L_law_1247 (sc_in (j := 2) (by omega) hL) ?_
  refine ev_aload_nO d_L_law_1248 rfl ?_
  refine ev_iload_n d_L_law_1249 rfl ?_
  refine ev_iconst (v := 3) d_L_law_1250 (by decide) ?_
  refine ev_iadd d_L_law_1251 ?_
  refine ev_sld d_L_law_1252 (sc_in (j := 3) (by omega) hL) ?_
  refine ev_aload_nO d_L_law_1253 rfl ?_
  refine ev_iload_n d_L_law_1254 rfl ?_
  refine ev_iconst (v := 4) d_L_law_1255 (by decide) ?_
  refine ev_iadd d_L_law_1256 ?_
  refine ev_sld d_L_law_1257 (sc_in (j := 4) (by omega) hL) ?_
  refine ev_callV (ci := 6) (b := 45) (M' := it_m_X6_odds) (As := [.int (g.2.2.2.2.2 (nI i + 1).toNatClampNeg), .int (g.2.2.2.2.2 (nI i + 2).toNatClampNeg), .int (g.2.2.2.2.2 (nI i + 3).toNatClampNeg), .int (g.2.2.2.2.2 (nI i + 4).toNatClampNeg)]) d_L_law_1258 ml_IcedTooSoonLaw_144 wm1.1.1 wm1.1.2.1 ⟨_, rfl, rfl⟩ rfl rfl (Nat.le_of_ble_eq_true rfl) (by decide) (by show kc + 0 + 0 ≤ 600000; omega) (by show ks + 0 + 0 ≤ 7302249; omega) (L_X6_odds wm1 h1) (fun h => absurd h (by show ¬ (kc + 0 + 0 < 1000); omega)) ?_
  rintro _ _ S2 ⟨rfl, r', rfl, e, hI2⟩
  subst e
  refine ev_lcmp d_L_law_1261 ?_
  refine ev_if_eq (tgt := 1528) d_L_law_1262 (by decide) (fun _ => ?_) (fun hc => absurd (lg_cmp_refl r') hc)
  exact ev_widen (by show kc + 0 + 0 ≤ kc + 3; omega) (by show ks + 0 + 0 ≤ ks + 165; omega) (by omega) (kk _ _ hI2)
set_option maxHeartbeats 4000000 in
theorem law_31 {g : it_G} {l : Launch} {kc ks i : Nat} {κ : it_KK} {S : it_SS} {P : Option Value → it_KK → it_SS → Prop} (hL : g.2.2.2.2.1 ≤ 3584) (hi : i + 6 < g.2.2.2.2.1) (h1k : 1000 ≤ kc) (hkc : kc + 3 ≤ 600000) (hks : ks + 165 ≤ 7302249) (hI : Inv κ S) (kk : ∀ (κ' : it_KK) (S' : it_SS), Inv κ' S' → it_Ev g l 80 it_m_L (kc + 3) (ks + 165) 1528 (it_LL i) [] κ' S' P) : it_Ev g l 80 it_m_L kc ks 1267 (it_LL i) [] κ S P := by
  refine ev_aload_n d_L_law_1267 rfl ?_
  refine ev_callV (ci := 5) (b := 0) (M' := it_m_X5_image) (As := []) d_L_law_1268 ml_IcedTooSoonLaw_145 hI.1.1.1 hI.1.1.2.1 ⟨_, rfl, rfl⟩ rfl rfl (Nat.le_of_ble_eq_true rfl) (by decide) (by show kc + 0 ≤ 600000; omega) (by show ks + 0 ≤ 7302249; omega) (L_X5_image hI.1 (q_image  S hI)) (fun h => absurd h (by show ¬ (kc + 0 < 1000); omega)) ?_
  rintro _ _ S1 ⟨rfl, r, rfl, h1⟩
  have wm1 := hI.2.1
  refine ev_aload_n d_L_law_1271 rfl ?_
  refine ev_callV (ci := 6) (b := 45) (M' := it_m_X6_image) (As := []) d_L_law_1272 ml_IcedTooSoonLaw_148 wm1.1.1 wm1.1.2.1 ⟨_, rfl, rfl⟩ rfl rfl (Nat.le_of_ble_eq_true rfl) (by decide) (by show kc + 0 + 0 ≤ 600000; omega) (by show ks + 0 + 0 ≤ 7302249; omega) (L_X6_image wm1 h1) (fun h => absurd h (by show ¬ (kc + 0 + 0 < 1000); omega)) ?_
  rintro _ _ S2 ⟨rfl, r', rfl, e, hI2⟩
  subst e
  refine ev_icmp_eq (tgt := 1528) d_L_law_1275 (by decide) (fun _ => ?_) (fun hc => absurd rfl hc)
  exact ev_widen (by show kc + 0 + 0 ≤ kc + 3; omega) (by show ks + 0 + 0 ≤ ks + 165; omega) (by omega) (kk _ _ hI2)
set_option maxHeartbeats 4000000 in
theorem law_32 {g : it_G} {l : Launch} {kc ks i : Nat} {κ : it_KK} {S : it_SS} {P : Option Value → it_KK → it_SS → Prop} (hL : g.2.2.2.2.1 ≤ 3584) (hi : i + 6 < g.2.2.2.2.1) (h1k : 1000 ≤ kc) (hkc : kc + 3 ≤ 600000) (hks : ks + 165 ≤ 7302249) (hI : Inv κ S) (kk : ∀ (κ' : it_KK) (S' : it_SS), Inv κ' S' → it_Ev g l 80 it_m_L (kc + 3) (ks + 165) 1528 (it_LL i) [] κ' S' P) : it_Ev g l 80 it_m_L kc ks 1280 (it_LL i) [] κ S P := by
  refine ev_aload_n d_L_law_1280 rfl ?_
  refine ev_callV (ci := 5) (b := 0) (M' := it_m_X5_back) (As := []) d_L_law_1281 ml_IcedTooSoonLaw_149 hI.1.1.1 hI.1.1.2.1 ⟨_, rfl, rfl⟩ rfl rfl (Nat.le_of_ble_eq_true rfl) (by decide) (by show kc + 0 ≤ 600000; omega) (by show ks + 0 ≤ 7302249; omega) (L_X5_back hI.1 (q_back  S hI)) (fun h => absurd h (by show ¬ (kc + 0 < 1000); omega)) ?_
  rintro _ _ S1 ⟨rfl, r, rfl, h1⟩
  have wm1 := hI.2.1
  refine ev_aload_n d_L_law_1284 rfl ?_
  refine ev_callV (ci := 6) (b := 45) (M' := it_m_X6_back) (As := []) d_L_law_1285 ml_IcedTooSoonLaw_152 wm1.1.1 wm1.1.2.1 ⟨_, rfl, rfl⟩ rfl rfl (Nat.le_of_ble_eq_true rfl) (by decide) (by show kc + 0 + 0 ≤ 600000; omega) (by show ks + 0 + 0 ≤ 7302249; omega) (L_X6_back wm1 h1) (fun h => absurd h (by show ¬ (kc + 0 + 0 < 1000); omega)) ?_
  rintro _ _ S2 ⟨rfl, r', rfl, e, hI2⟩
  subst e
  refine ev_icmp_eq (tgt := 1528) d_L_law_1288 (by decide) (fun _ => ?_) (fun hc => absurd rfl hc)
  exact ev_widen (by show kc + 0 + 0 ≤ kc + 3; omega) (by show ks + 0 + 0 ≤ ks + 165; omega) (by omega) (kk _ _ hI2)
set_option maxHeartbeats 4000000 in
theorem law_33 {g : it_G} {l : Launch} {kc ks i : Nat} {κ : it_KK} {S : it_SS} {P : Option Value → it_KK → it_SS → Prop} (hL : g.2.2.2.2.1 ≤ 3584) (hi : i + 6 < g.2.2.2.2.1) (h1k : 1000 ≤ kc) (hkc : kc + 3 ≤ 600000) (hks : ks + 165 ≤ 7302249) (hI : Inv κ S) (kk : ∀ (κ' : it_KK) (S' : it_SS), Inv κ' S' → it_Ev g l 80 it_m_L (kc + 3) (ks + 165) 1528 (it_LL i) [] κ' S' P) : it_Ev g l 80 it_m_L kc ks 1293 (it_LL i) [] κ S P := by
  refine ev_aload_n d_L_law_1293 rfl ?_
  refine ev_aload_nO d_L_law_1294 rfl ?_
  refine ev_iload_n d_L_law_1295 rfl ?_
  refine ev_iconst (v := 1) d_L_law_1296 (by decide) ?_
  refine ev_iadd d_L_law_1297 ?_
  refine ev_sld d_L_law_1298 (sc_in (j := 1) (by omega) hL) ?_
  refine ev_aload_nO d_L_law_1299 rfl ?_
  refine ev_iload_n d_L_law_1300 rfl ?_
  refine ev_iconst (v := 2) d_L_law_1301 (by decide) ?_
  refine ev_iadd d_L_law_1302 ?_
  refine ev_sld d_L_law_1303 (sc_in (j := 2) (by omega) hL) ?_
  refine ev_aload_nO d_L_law_1304 rfl ?_
  refine ev_iload_n d_L_law_1305 rfl ?_
  refine ev_iconst (v := 3) d_L_law_1306 (by decide) ?_
  refine ev_iadd d_L_law_1307 ?_
  refine ev_sld d_L_law_1308 (sc_in (j := 3) (by omega) hL) ?_
  refine ev_callV (ci := 5) (b := 0) (M' := it_m_X5_sheet) (As := [.int (g.2.2.2.2.2 (nI i + 1).toNatClampNeg), .int (g.2.2.2.2.2 (nI i + 2).toNatClampNeg), .int (g.2.2.2.2.2 (nI i + 3).toNatClampNeg)]) d_L_law_1309 ml_IcedTooSoonLaw_153 hI.1.1.1 hI.1.1.2.1 ⟨_, rfl, rfl⟩ rfl rfl (Nat.le_of_ble_eq_true rfl) (by decide) (by show kc + 0 ≤ 600000; omega) (by show ks + 0 ≤ 7302249; omega) (L_X5_sheet hI.1 (q_sheet (g.2.2.2.2.2 (nI i + 1).toNatClampNeg) (g.2.2.2.2.2 (nI i + 2).toNatClampNeg) (g.2.2.2.2.2 (nI i + 3).toNatClampNeg) S hI)) (fun h => absurd h (by show ¬ (kc + 0 < 1000); omega)) ?_
  rintro _ _ S1 ⟨rfl, r, rfl, h1⟩
  have wm1 := hI.2.1
  refine ev_aload_n d_L_law_1312 rfl ?_
  refine ev_aload_nO d_L_law_1313 rfl ?_
  refine ev_iload_n d_L_law_1314 rfl ?_
  refine ev_iconst (v := 1) d_L_law_1315 (by decide) ?_
  refine ev_iadd d_L_law_1316 ?_
  refine ev_sld d_L_law_1317 (sc_in (j := 1) (by omega) hL) ?_
  refine ev_aload_nO d_L_law_1318 rfl ?_
  refine ev_iload_n d_L_law_1319 rfl ?_
  refine ev_iconst (v := 2) d_L_law_1320 (by decide) ?_
  refine ev_iadd d_L_law_1321 ?_
  refine ev_sld d_L_law_1322 (sc_in (j := 2) (by omega) hL) ?_
  refine ev_aload_nO d_L_law_1323 rfl ?_
  refine ev_iload_n d_L_law_1324 rfl ?_
  refine ev_iconst (v := 3) d_L_law_1325 (by decide) ?_
  refine ev_iadd d_L_law_1326 ?_
  refine ev_sld d_L_law_1327 (sc_in (j := 3) (by omega) hL) ?_
  refine ev_callV (ci := 6) (b := 45) (M' := it_m_X6_sheet) (As := [.int (g.2.2.2.2.2 (nI i + 1).toNatClampNeg), .int (g.2.2.2.2.2 (nI i + 2).toNatClampNeg), .int (g.2.2.2.2.2 (nI i + 3).toNatClampNeg)]) d_L_law_1328 ml_IcedTooSoonLaw_156 wm1.1.1 wm1.1.2.1 ⟨_, rfl, rfl⟩ rfl rfl (Nat.le_of_ble_eq_true rfl) (by decide) (by show kc + 0 + 0 ≤ 600000; omega) (by show ks + 0 + 0 ≤ 7302249; omega) (L_X6_sheet wm1 h1) (fun h => absurd h (by show ¬ (kc + 0 + 0 < 1000); omega)) ?_
  rintro _ _ S2 ⟨rfl, r', rfl, e, hI2⟩
  subst e
  refine ev_icmp_eq (tgt := 1528) d_L_law_1331 (by decide) (fun _ => ?_) (fun hc => absurd rfl hc)
  exact ev_widen (by show kc + 0 + 0 ≤ kc + 3; omega) (by show ks + 0 + 0 ≤ ks + 165; omega) (by omega) (kk _ _ hI2)
set_option maxHeartbeats 4000000 in
theorem law_34 {g : it_G} {l : Launch} {kc ks i : Nat} {κ : it_KK} {S : it_SS} {P : Option Value → it_KK → it_SS → Prop} (hL : g.2.2.2.2.1 ≤ 3584) (hi : i + 6 < g.2.2.2.2.1) (h1k : 1000 ≤ kc) (hkc : kc + 3 ≤ 600000) (hks : ks + 165 ≤ 7302249) (hI : Inv κ S) (kk : ∀ (κ' : it_KK) (S' : it_SS), Inv κ' S' → it_Ev g l 80 it_m_L (kc + 3) (ks + 165) 1528 (it_LL i) [] κ' S' P) : it_Ev g l 80 it_m_L kc ks 1336 (it_LL i) [] κ S P := by
  refine ev_aload_n d_L_law_1336 rfl ?_
  refine ev_aload_nO d_L_law_1337 rfl ?_
  refine ev_iload_n d_L_law_1338 rfl ?_
  refine ev_iconst (v := 1) d_L_law_1339 (by decide) ?_
  refine ev_iadd d_L_law_1340 ?_
  refine ev_sld d_L_law_1341 (sc_in (j := 1) (by omega) hL) ?_
  refine ev_aload_nO d_L_law_1342 rfl ?_
  refine ev_iload_n d_L_law_1343 rfl ?_
  refine ev_iconst (v := 2) d_L_law_1344 (by decide) ?_
  refine ev_iadd d_L_law_1345 ?_
  refine ev_sld d_L_law_1346 (sc_in (j := 2) (by omega) hL) ?_
  refine ev_aload_nO d_L_law_1347 rfl ?_
  refine ev_iload_n d_L_law_1348 rfl ?_
  refine ev_iconst (v := 3) d_L_law_1349 (by decide) ?_
  refine ev_iadd d_L_law_1350 ?_
  refine ev_sld d_L_law_1351 (sc_in (j := 3) (by omega) hL) ?_
  refine ev_callV (ci := 5) (b := 0) (M' := it_m_X5_cell) (As := [.int (g.2.2.2.2.2 (nI i + 1).toNatClampNeg), .int (g.2.2.2.2.2 (nI i + 2).toNatClampNeg), .int (g.2.2.2.2.2 (nI i + 3).toNatClampNeg)]) d_L_law_1352 ml_IcedTooSoonLaw_157 hI.1.1.1 hI.1.1.2.1 ⟨_, rfl, rfl⟩ rfl rfl (Nat.le_of_ble_eq_true rfl) (by decide) (by show kc + 0 ≤ 600000; omega) (by show ks + 0 ≤ 7302249; omega) (L_X5_cell hI.1 (q_cell (g.2.2.2.2.2 (nI i + 1).toNatClampNeg) (g.2.2.2.2.2 (nI i + 2).toNatClampNeg) (g.2.2.2.2.2 (nI i + 3).toNatClampNeg) S hI)) (fun h => absurd h (by show ¬ (kc + 0 < 1000); omega)) ?_
  rintro _ _ S1 ⟨rfl, r, rfl, h1⟩
  have wm1 := hI.2.1
  refine ev_aload_n d_L_law_1355 rfl ?_
  refine ev_aload_nO d_L_law_1356 rfl ?_
  refine ev_iload_n d_L_law_1357 rfl ?_
  refine ev_iconst (v := 1) d_L_law_1358 (by decide) ?_
  refine ev_iadd d_L_law_1359 ?_
  refine ev_sld d_L_law_1360 (sc_in (j := 1) (by omega) hL) ?_
  refine ev_aload_nO d_L_law_1361 rfl ?_
  refine ev_iload_n d_L_law_1362 rfl ?_
  refine ev_iconst (v := 2) d_L_law_1363 (by decide) ?_
  refine ev_iadd d_L_law_1364 ?_
  refine ev_sld d_L_law_1365 (sc_in (j := 2) (by omega) hL) ?_
  refine ev_aload_nO d_L_law_1366 rfl ?_
  refine ev_iload_n d_L_law_1367 rfl ?_
  refine ev_iconst (v := 3) d_L_law_1368 (by decide) ?_
  refine ev_iadd d_L_law_1369 ?_
  refine ev_sld d_L_law_1370 (sc_in (j := 3) (by omega) hL) ?_
  refine ev_callV (ci := 6) (b := 45) (M' := it_m_X6_cell) (As := [.int (g.2.2.2.2.2 (nI i + 1).toNatClampNeg), .int (g.2.2.2.2.2 (nI i + 2).toNatClampNeg), .int (g.2.2.2.2.2 (nI i + 3).toNatClampNeg)]) d_L_law_1371 ml_IcedTooSoonLaw_160 wm1.1.1 wm1.1.2.1 ⟨_, rfl, rfl⟩ rfl rfl (Nat.le_of_ble_eq_true rfl) (by decide) (by show kc + 0 + 0 ≤ 600000; omega) (by show ks + 0 + 0 ≤ 7302249; omega) (L_X6_cell wm1 h1) (fun h => absurd h (by show ¬ (kc + 0 + 0 < 1000); omega)) ?_
  rintro _ _ S2 ⟨rfl, r', rfl, e, hI2⟩
  subst e
  refine ev_icmp_eq (tgt := 1528) d_L_law_1374 (by decide) (fun _ => ?_) (fun hc => absurd rfl hc)
  exact ev_widen (by show kc + 0 + 0 ≤ kc + 3; omega) (by show ks + 0 + 0 ≤ ks + 165; omega) (by omega) (kk _ _ hI2)
set_option maxHeartbeats 4000000 in
theorem law_35 {g : it_G} {l : Launch} {kc ks i : Nat} {κ : it_KK} {S : it_SS} {P : Option Value → it_KK → it_SS → Prop} (hL : g.2.2.2.2.1 ≤ 3584) (hi : i + 6 < g.2.2.2.2.1) (h1k : 1000 ≤ kc) (hkc : kc + 3 ≤ 600000) (hks : ks + 165 ≤ 7302249) (hI : Inv κ S) (kk : ∀ (κ' : it_KK) (S' : it_SS), Inv κ' S' → it_Ev g l 80 it_m_L (kc + 3) (ks + 165) 1528 (it_LL i) [] κ' S' P) : it_Ev g l 80 it_m_L kc ks 1379 (it_LL i) [] κ S P := by
  refine ev_aload_n d_L_law_1379 rfl ?_
  refine ev_aload_nO d_L_law_1380 rfl ?_
  refine ev_iload_n d_L_law_1381 rfl ?_
  refine ev_iconst (v := 1) d_L_law_1382 (by decide) ?_
  refine ev_iadd d_L_law_1383 ?_
  refine ev_sld d_L_law_1384 (sc_in (j := 1) (by omega) hL) ?_
  refine ev_aload_nO d_L_law_1385 rfl ?_
  refine ev_iload_n d_L_law_1386 rfl ?_
  refine ev_iconst (v := 2) d_L_law_1387 (by decide) ?_
  refine ev_iadd d_L_law_1388 ?_
  refine ev_sld d_L_law_1389 (sc_in (j := 2) (by omega) hL) ?_
  refine ev_aload_nO d_L_law_1390 rfl ?_
  refine ev_iload_n d_L_law_1391 rfl ?_
  refine ev_iconst (v := 3) d_L_law_1392 (by decide) ?_
  refine ev_iadd d_L_law_1393 ?_
  refine ev_sld d_L_law_1394 (sc_in (j := 3) (by omega) hL) ?_
  refine ev_aload_nO d_L_law_1395 rfl ?_
  refine ev_iload_n d_L_law_1396 rfl ?_
  refine ev_iconst (v := 4) d_L_law_1397 (by decide) ?_
  refine ev_iadd d_L_law_1398 ?_
  refine ev_sld d_L_law_1399 (sc_in (j := 4) (by omega) hL) ?_
  refine ev_aload_nO d_L_law_1400 rfl ?_
  refine ev_iload_n d_L_law_1401 rfl ?_
  refine ev_iconst (v := 5) d_L_law_1402 (by decide) ?_
  refine ev_iadd d_L_law_1403 ?_
  refine ev_sld d_L_law_1404 (sc_in (j := 5) (by omega) hL) ?_
  refine ev_callV (ci := 5) (b := 0) (M' := it_m_X5_copy) (As := [.int (g.2.2.2.2.2 (nI i + 1).toNatClampNeg), .int (g.2.2.2.2.2 (nI i + 2).toNatClampNeg), .int (g.2.2.2.2.2 (nI i + 3).toNatClampNeg), .int (g.2.2.2.2.2 (nI i + 4).toNatClampNeg), .int (g.2.2.2.2.2 (nI i + 5).toNatClampNeg)]) d_L_law_1405 ml_IcedTooSoonLaw_161 hI.1.1.1 hI.1.1.2.1 ⟨_, rfl, rfl⟩ rfl rfl (Nat.le_of_ble_eq_true rfl) (by decide) (by show kc + 0 ≤ 600000; omega) (by show ks + 0 ≤ 7302249; omega) (L_X5_copy hI.1 (q_copy (g.2.2.2.2.2 (nI i + 1).toNatClampNeg) (g.2.2.2.2.2 (nI i + 2).toNatClampNeg) (g.2.2.2.2.2 (nI i + 3).toNatClampNeg) (g.2.2.2.2.2 (nI i + 4).toNatClampNeg) (g.2.2.2.2.2 (nI i + 5).toNatClampNeg) S hI)) (fun h => absurd h (by show ¬ (kc + 0 < 1000); omega)) ?_
  rintro _ _ S1 ⟨rfl, r, rfl, h1⟩
  have wm1 := hI.2.1
  refine ev_aload_n d_L_law_1408 rfl ?_
  refine ev_aload_nO d_L_law_1409 rfl ?_
  refine ev_iload_n d_L_law_1410 rfl ?_
  refine ev_iconst (v := 1) d_L_law_1411 (by decide) ?_
  refine ev_iadd d_L_law_1412 ?_
  refine ev_sld d_L_law_1413 (sc_in (j := 1) (by omega) hL) ?_
  refine ev_aload_nO d_L_law_1414 rfl ?_
  refine ev_iload_n d_L_law_1415 rfl ?_
  refine ev_iconst (v := 2) d_L_law_1416 (by decide) ?_
  refine ev_iadd d_L_law_1417 ?_
  refine ev_sld d_L_law_1418 (sc_in (j := 2) (by omega) hL) ?_
  refine ev_aload_nO d_L_law_1419 rfl ?_
  refine ev_iload_n d_L_law_1420 rfl ?_
  refine ev_iconst (v := 3) d_L_law_1421 (by decide) ?_
  refine ev_iadd d_L_law_1422 ?_
  refine ev_sld d_L_law_1423 (sc_in (j := 3) (by omega) hL) ?_
  refine ev_aload_nO d_L_law_1424 rfl ?_
  refine ev_iload_n d_L_law_1425 rfl ?_
  refine ev_iconst (v := 4) d_L_law_1426 (by decide) ?_
  refine ev_iadd d_L_law_1427 ?_
  refine ev_sld d_L_law_1428 (sc_in (j := 4) (by omega) hL) ?_
  refine ev_aload_nO d_L_law_1429 rfl ?_
  refine ev_iload_n d_L_law_1430 rfl ?_
  refine ev_iconst (v := 5) d_L_law_1431 (by decide) ?_
  refine ev_iadd d_L_law_1432 ?_
  refine ev_sld d_L_law_1433 (sc_in (j := 5) (by omega) hL) ?_
  refine ev_callV (ci := 6) (b := 45) (M' := it_m_X6_copy) (As := [.int (g.2.2.2.2.2 (nI i + 1).toNatClampNeg), .int (g.2.2.2.2.2 (nI i + 2).toNatClampNeg), .int (g.2.2.2.2.2 (nI i + 3).toNatClampNeg), .int (g.2.2.2.2.2 (nI i + 4).toNatClampNeg), .int (g.2.2.2.2.2 (nI i + 5).toNatClampNeg)]) d_L_law_1434 ml_IcedTooSoonLaw_165 wm1.1.1 wm1.1.2.1 ⟨_, rfl, rfl⟩ rfl rfl (Nat.le_of_ble_eq_true rfl) (by decide) (by show kc + 0 + 0 ≤ 600000; omega) (by show ks + 0 + 0 ≤ 7302249; omega) (L_X6_copy wm1 h1) (fun h => absurd h (by show ¬ (kc + 0 + 0 < 1000); omega)) ?_
  rintro _ _ S2 ⟨rfl, r', rfl, e, hI2⟩
  subst e
  refine ev_icmp_eq (tgt := 1528) d_L_law_1437 (by decide) (fun _ => ?_) (fun hc => absurd rfl hc)
  exact ev_widen (by show kc + 0 + 0 ≤ kc + 3; omega) (by show ks + 0 + 0 ≤ ks + 165; omega) (by omega) (kk _ _ hI2)
set_option maxHeartbeats 4000000 in
theorem law_36 {g : it_G} {l : Launch} {kc ks i : Nat} {κ : it_KK} {S : it_SS} {P : Option Value → it_KK → it_SS → Prop} (hL : g.2.2.2.2.1 ≤ 3584) (hi : i + 6 < g.2.2.2.2.1) (h1k : 1000 ≤ kc) (hkc : kc + 3 ≤ 600000) (hks : ks + 165 ≤ 7302249) (hI : Inv κ S) (kk : ∀ (κ' : it_KK) (S' : it_SS), Inv κ' S' → it_Ev g l 80 it_m_L (kc + 3) (ks + 165) 1528 (it_LL i) [] κ' S' P) : it_Ev g l 80 it_m_L kc ks 1442 (it_LL i) [] κ S P := by
  refine ev_aload_n d_L_law_1442 rfl ?_
  refine ev_aload_nO d_L_law_1443 rfl ?_
  refine ev_iload_n d_L_law_1444 rfl ?_
  refine ev_iconst (v := 1) d_L_law_1445 (by decide) ?_
  refine ev_iadd d_L_law_1446 ?_
  refine ev_sld d_L_law_1447 (sc_in (j := 1) (by omega) hL) ?_
  refine ev_aload_nO d_L_law_1448 rfl ?_
  refine ev_iload_n d_L_law_1449 rfl ?_
  refine ev_iconst (v := 2) d_L_law_1450 (by decide) ?_
  refine ev_iadd d_L_law_1451 ?_
  refine ev_sld d_L_law_1452 (sc_in (j := 2) (by omega) hL) ?_
  refine ev_aload_nO d_L_law_1453 rfl ?_
  refine ev_iload_n d_L_law_1454 rfl ?_
  refine ev_iconst (v := 3) d_L_law_1455 (by decide) ?_
  refine ev_iadd d_L_law_1456 ?_
  refine ev_sld d_L_law_1457 (sc_in (j := 3) (by omega) hL) ?_
  refine ev_aload_nO d_L_law_1458 rfl ?_
  refine ev_iload_n d_L_law_1459 rfl ?_
  refine ev_iconst (v := 4) d_L_law_1460 (by decide) ?_
  refine ev_iadd d_L_law_1461 ?_
  refine ev_sld d_L_law_1462 (sc_in (j := 4) (by omega) hL) ?_
  refine ev_callV (ci := 5) (b := 0) (M' := it_m_X5_guestsBy) (As := [.int (g.2.2.2.2.2 (nI i + 1).toNatClampNeg), .int (g.2.2.2.2.2 (nI i + 2).toNatClampNeg), .int (g.2.2.2.2.2 (nI i + 3).toNatClampNeg), .int (g.2.2.2.2.2 (nI i + 4).toNatClampNeg)]) d_L_law_1463 ml_IcedTooSoonLaw_166 hI.1.1.1 hI.1.1.2.1 ⟨_, rfl, rfl⟩ rfl rfl (Nat.le_of_ble_eq_true rfl) (by decide) (by show kc + 0 ≤ 600000; omega) (by show ks + 0 ≤ 7302249; omega) (L_X5_guestsBy hI.1 (q_guestsBy (g.2.2.2.2.2 (nI i + 1).toNatClampNeg) (g.2.2.2.2.2 (nI i + 2).toNatClampNeg) (g.2.2.2.2.2 (nI i + 3).toNatClampNeg) (g.2.2.2.2.2 (nI i + 4).toNatClampNeg) S hI)) (fun h => absurd h (by show ¬ (kc + 0 < 1000); omega)) ?_
  rintro _ _ S1 ⟨rfl, r, rfl, h1⟩
  have wm1 := hI.2.1
  refine ev_aload_n d_L_law_1466 rfl ?_
  refine ev_aload_nO d_L_law_1467 rfl ?_
  refine ev_iload_n d_L_law_1468 rfl ?_
  refine ev_iconst (v := 1) d_L_law_1469 (by decide) ?_
  refine ev_iadd d_L_law_1470 ?_
  refine ev_sld d_L_law_1471 (sc_in (j := 1) (by omega) hL) ?_
  refine ev_aload_nO d_L_law_1472 rfl ?_
  refine ev_iload_n d_L_law_1473 rfl ?_
  refine ev_iconst (v := 2) d_L_law_1474 (by decide) ?_
  refine ev_iadd d_L_law_1475 ?_
  refine ev_sld d_L_law_1476 (sc_in (j := 2) (by omega) hL) ?_
  refine ev_aload_nO d_L_law_1477 rfl ?_
  refine ev_iload_n d_L_law_1478 rfl ?_
  refine ev_iconst (v := 3) d_L_law_1479 (by decide) ?_
  refine ev_iadd d_L_law_1480 ?_
  refine ev_sld d_L_law_1481 (sc_in (j := 3) (by omega) hL) ?_
  refine ev_aload_nO d_L_law_1482 rfl ?_
  refine ev_iload_n d_L_law_1483 rfl ?_
  refine ev_iconst (v := 4) d_L_law_1484 (by decide) ?_
  refine ev_iadd d_L_law_1485 ?_
  refine ev_sld d_L_law_1486 (sc_in (j := 4) (by omega) hL) ?_
  refine ev_callV (ci := 6) (b := 45) (M' := it_m_X6_guestsBy) (As := [.int (g.2.2.2.2.2 (nI i + 1).toNatClampNeg), .int (g.2.2.2.2.2 (nI i + 2).toNatClampNeg), .int (g.2.2.2.2.2 (nI i + 3).toNatClampNeg), .int (g.2.2.2.2.2 (nI i + 4).toNatClampNeg)]) d_L_law_1487 ml_IcedTooSoonLaw_169 wm1.1.1 wm1.1.2.1 ⟨_, rfl, rfl⟩ rfl rfl (Nat.le_of_ble_eq_true rfl) (by decide) (by show kc + 0 + 0 ≤ 600000; omega) (by show ks + 0 + 0 ≤ 7302249; omega) (L_X6_guestsBy wm1 h1) (fun h => absurd h (by show ¬ (kc + 0 + 0 < 1000); omega)) ?_
  rintro _ _ S2 ⟨rfl, r', rfl, e, hI2⟩
  subst e
  refine ev_icmp_eq (tgt := 1528) d_L_law_1490 (by decide) (fun _ => ?_) (fun hc => absurd rfl hc)
  exact ev_widen (by show kc + 0 + 0 ≤ kc + 3; omega) (by show ks + 0 + 0 ≤ ks + 165; omega) (by omega) (kk _ _ hI2)
set_option maxHeartbeats 4000000 in
theorem law_37 {g : it_G} {l : Launch} {kc ks i : Nat} {κ : it_KK} {S : it_SS} {P : Option Value → it_KK → it_SS → Prop} (hL : g.2.2.2.2.1 ≤ 3584) (hi : i + 6 < g.2.2.2.2.1) (h1k : 1000 ≤ kc) (hkc : kc + 3 ≤ 600000) (hks : ks + 165 ≤ 7302249) (hI : Inv κ S) (kk : ∀ (κ' : it_KK) (S' : it_SS), Inv κ' S' → it_Ev g l 80 it_m_L (kc + 3) (ks + 165) 1528 (it_LL i) [] κ' S' P) : it_Ev g l 80 it_m_L kc ks 1495 (it_LL i) [] κ S P := by
  refine ev_aload_n d_L_law_1495 rfl ?_
  refine ev_aload_nO d_L_law_1496 rfl ?_
  refine ev_iload_n d_L_law_1497 rfl ?_
  refine ev_iconst (v := 1) d_L_law_1498 (by decide) ?_
  refine ev_iadd d_L_law_1499 ?_
  refine ev_sld d_L_law_1500 (sc_in (j := 1) (by omega) hL) ?_
  refine ev_aload_nO d_L_law_1501 rfl ?_
  refine ev_iload_n d_L_law_1502 rfl ?_
  refine ev_iconst (v := 2) d_L_law_1503 (by decide) ?_
  refine ev_iadd d_L_law_1504 ?_
  refine ev_sld d_L_law_1505 (sc_in (j := 2) (by omega) hL) ?_
  refine ev_callV (ci := 5) (b := 0) (M' := it_m_X5_taken) (As := [.int (g.2.2.2.2.2 (nI i + 1).toNatClampNeg), .int (g.2.2.2.2.2 (nI i + 2).toNatClampNeg)]) d_L_law_1506 ml_IcedTooSoonLaw_170 hI.1.1.1 hI.1.1.2.1 ⟨_, rfl, rfl⟩ rfl rfl (Nat.le_of_ble_eq_true rfl) (by decide) (by show kc + 0 ≤ 600000; omega) (by show ks + 0 ≤ 7302249; omega) (L_X5_taken hI.1 (q_taken (g.2.2.2.2.2 (nI i + 1).toNatClampNeg) (g.2.2.2.2.2 (nI i + 2).toNatClampNeg) S hI)) (fun h => absurd h (by show ¬ (kc + 0 < 1000); omega)) ?_
  rintro _ _ S1 ⟨rfl, r, rfl, h1⟩
  have wm1 := hI.2.1
  refine ev_aload_n d_L_law_1509 rfl ?_
  refine ev_aload_nO d_L_law_1510 rfl ?_
  refine ev_iload_n d_L_law_1511 rfl ?_
  refine ev_iconst (v := 1) d_L_law_1512 (by decide) ?_
  refine ev_iadd d_L_law_1513 ?_
  refine ev_sld d_L_law_1514 (sc_in (j := 1) (by omega) hL) ?_
  refine ev_aload_nO d_L_law_1515 rfl ?_
  refine ev_iload_n d_L_law_1516 rfl ?_
  refine ev_iconst (v := 2) d_L_law_1517 (by decide) ?_
  refine ev_iadd d_L_law_1518 ?_
  refine ev_sld d_L_law_1519 (sc_in (j := 2) (by omega) hL) ?_
  refine ev_callV (ci := 6) (b := 45) (M' := it_m_X6_taken) (As := [.int (g.2.2.2.2.2 (nI i + 1).toNatClampNeg), .int (g.2.2.2.2.2 (nI i + 2).toNatClampNeg)]) d_L_law_1520 ml_IcedTooSoonLaw_173 wm1.1.1 wm1.1.2.1 ⟨_, rfl, rfl⟩ rfl rfl (Nat.le_of_ble_eq_true rfl) (by decide) (by show kc + 0 + 0 ≤ 600000; omega) (by show ks + 0 + 0 ≤ 7302249; omega) (L_X6_taken wm1 h1) (fun h => absurd h (by show ¬ (kc + 0 + 0 < 1000); omega)) ?_
  rintro _ _ S2 ⟨rfl, r', rfl, e, hI2⟩
  subst e
  refine ev_icmp_eq (tgt := 1528) d_L_law_1523 (by decide) (fun _ => ?_) (fun hc => absurd rfl hc)
  exact ev_widen (by show kc + 0 + 0 ≤ kc + 3; omega) (by show ks + 0 + 0 ≤ ks + 165; omega) (by omega) (kk _ _ hI2)
