/-! ===== THE LAW: its cases ===== -/
abbrev lwL (G : td_G) (b j : Nat) : List (Nat × Value) := [(0, .ref b), (1, .ref (td_ad G 0)), (2, .ref (td_ad G 85)), (3, .int (nI j))]
theorem kz_le {j k n : Nat} (h : j + 6 ≤ n) (g : k < 6) : j + k < n := by omega
section LW
variable {G : td_G} {b Ln j : Nat} {xs : Nat → Int32} {Qf : k_Qf} {cc sl : Nat} {s : gS} {h : td_H}
theorem lwc_0 (hj : j + 6 ≤ Ln) (hL : Ln ≤ 3072) (hcs : cc ≤ room_1.cells ∧ sl ≤ room_1.slots) (I : DI s h) (J : MI s h) (nx : ∀ s' h', DI s' h' → MI s' h' → k_J G room_1 mL_law (lwC G b Ln xs) Qf 1000 (lwL G b j) [] (td_ws G h') cc sl) : k_J G room_1 mL_law (lwC G b Ln xs) Qf 152 (lwL G b j) [] (td_ws G h) cc sl := by
  obtain ⟨v, s', cD, cM⟩ := p_set (G := G) ((xs (j + 1))) ((xs (j + 2))) I
  refine k_aload_n 1 dL_law_152 rfl ?_
  refine k_aload_n 0 dL_law_153 rfl ?_
  refine k_iload_n 3 dL_law_154 rfl ?_
  refine k_iconst (v := nI 1) dL_law_155 rfl ?_
  refine k_iadd dL_law_156 ?_
  refine k_sld (j := j + 1) (nI_add _ _) (kz_le hj (by decide)) hL dL_law_157 ?_
  refine k_aload_n 0 dL_law_158 rfl ?_
  refine k_iload_n 3 dL_law_159 rfl ?_
  refine k_iconst (v := nI 2) dL_law_160 rfl ?_
  refine k_iadd dL_law_161 ?_
  refine k_sld (j := j + 2) (nI_add _ _) (kz_le hj (by decide)) hL dL_law_162 ?_
  refine k_callD (Mc := mX9_set) (C := RX9) (ci := 9) (k := 0) (d := 9) (as := [.int (xs (j + 1)), .int (xs (j + 2))]) (st := []) kp_0 (by decide) rfl rfl (td_in 513 (by decide +kernel) rfl) (td_in 514 (by decide +kernel) rfl) (td_in 515 (by decide +kernel) rfl) (td_in 106 (by decide +kernel) rfl) (td_in 516 (by decide +kernel) rfl) no_X9_set (by decide) hcs dL_law_163 (Nat.le_of_ble_eq_true rfl) cD ?_
  rintro _ h1 ⟨rfl, I1, F1⟩
  refine k_aload_n 2 dL_law_166 rfl ?_
  refine k_aload_n 0 dL_law_167 rfl ?_
  refine k_iload_n 3 dL_law_168 rfl ?_
  refine k_iconst (v := nI 1) dL_law_169 rfl ?_
  refine k_iadd dL_law_170 ?_
  refine k_sld (j := j + 1) (nI_add _ _) (kz_le hj (by decide)) hL dL_law_171 ?_
  refine k_aload_n 0 dL_law_172 rfl ?_
  refine k_iload_n 3 dL_law_173 rfl ?_
  refine k_iconst (v := nI 2) dL_law_174 rfl ?_
  refine k_iadd dL_law_175 ?_
  refine k_sld (j := j + 2) (nI_add _ _) (kz_le hj (by decide)) hL dL_law_176 ?_
  refine k_callD (Mc := mX10_set) (C := RX10) (ci := 10) (k := 85) (d := 9) (as := [.int (xs (j + 1)), .int (xs (j + 2))]) (st := [.int v]) kp_85 (by decide) rfl rfl (td_in 1174 (by decide +kernel) rfl) (td_in 1175 (by decide +kernel) rfl) (td_in 1176 (by decide +kernel) rfl) (td_in 117 (by decide +kernel) rfl) (td_in 1177 (by decide +kernel) rfl) no_X10_set (by decide) hcs dL_law_177 (Nat.le_of_ble_eq_true rfl) (cM h1 (J.fm F1)) ?_
  rintro _ h2 ⟨rfl, J2, F2⟩
  exact k_icmp_eq (tgt := 1000) dL_law_180 (by decide) (fun _ => nx s' h2 (I1.fd F2) J2) (fun z => absurd rfl z)
theorem lwc_1 (hj : j + 6 ≤ Ln) (hL : Ln ≤ 3072) (hcs : cc ≤ room_1.cells ∧ sl ≤ room_1.slots) (I : DI s h) (J : MI s h) (nx : ∀ s' h', DI s' h' → MI s' h' → k_J G room_1 mL_law (lwC G b Ln xs) Qf 1000 (lwL G b j) [] (td_ws G h') cc sl) : k_J G room_1 mL_law (lwC G b Ln xs) Qf 185 (lwL G b j) [] (td_ws G h) cc sl := by
  obtain ⟨v, s', cD, cM⟩ := p_share (G := G) ((xs (j + 1))) ((xs (j + 2))) ((xs (j + 3))) I
  refine k_aload_n 1 dL_law_185 rfl ?_
  refine k_aload_n 0 dL_law_186 rfl ?_
  refine k_iload_n 3 dL_law_187 rfl ?_
  refine k_iconst (v := nI 1) dL_law_188 rfl ?_
  refine k_iadd dL_law_189 ?_
  refine k_sld (j := j + 1) (nI_add _ _) (kz_le hj (by decide)) hL dL_law_190 ?_
  refine k_aload_n 0 dL_law_191 rfl ?_
  refine k_iload_n 3 dL_law_192 rfl ?_
  refine k_iconst (v := nI 2) dL_law_193 rfl ?_
  refine k_iadd dL_law_194 ?_
  refine k_sld (j := j + 2) (nI_add _ _) (kz_le hj (by decide)) hL dL_law_195 ?_
  refine k_aload_n 0 dL_law_196 rfl ?_
  refine k_iload_n 3 dL_law_197 rfl ?_
  refine k_iconst (v := nI 3) dL_law_198 rfl ?_
  refine k_iadd dL_law_199 ?_
  refine k_sld (j := j + 3) (nI_add _ _) (kz_le hj (by decide)) hL dL_law_200 ?_
  refine k_callD (Mc := mX9_share) (C := RX9) (ci := 9) (k := 0) (d := 9) (as := [.int (xs (j + 1)), .int (xs (j + 2)), .int (xs (j + 3))]) (st := []) kp_0 (by decide) rfl rfl (td_in 532 (by decide +kernel) rfl) (td_in 533 (by decide +kernel) rfl) (td_in 534 (by decide +kernel) rfl) (td_in 106 (by decide +kernel) rfl) (td_in 535 (by decide +kernel) rfl) no_X9_share (by decide) hcs dL_law_201 (Nat.le_of_ble_eq_true rfl) cD ?_
  rintro _ h1 ⟨rfl, I1, F1⟩
  refine k_aload_n 2 dL_law_204 rfl ?_
  refine k_aload_n 0 dL_law_205 rfl ?_
  refine k_iload_n 3 dL_law_206 rfl ?_
  refine k_iconst (v := nI 1) dL_law_207 rfl ?_
  refine k_iadd dL_law_208 ?_
  refine k_sld (j := j + 1) (nI_add _ _) (kz_le hj (by decide)) hL dL_law_209 ?_
  refine k_aload_n 0 dL_law_210 rfl ?_
  refine k_iload_n 3 dL_law_211 rfl ?_
  refine k_iconst (v := nI 2) dL_law_212 rfl ?_
  refine k_iadd dL_law_213 ?_
  refine k_sld (j := j + 2) (nI_add _ _) (kz_le hj (by decide)) hL dL_law_214 ?_
  refine k_aload_n 0 dL_law_215 rfl ?_
  refine k_iload_n 3 dL_law_216 rfl ?_
  refine k_iconst (v := nI 3) dL_law_217 rfl ?_
  refine k_iadd dL_law_218 ?_
  refine k_sld (j := j + 3) (nI_add _ _) (kz_le hj (by decide)) hL dL_law_219 ?_
  refine k_callD (Mc := mX10_share) (C := RX10) (ci := 10) (k := 85) (d := 9) (as := [.int (xs (j + 1)), .int (xs (j + 2)), .int (xs (j + 3))]) (st := [.int v]) kp_85 (by decide) rfl rfl (td_in 1188 (by decide +kernel) rfl) (td_in 1189 (by decide +kernel) rfl) (td_in 1190 (by decide +kernel) rfl) (td_in 117 (by decide +kernel) rfl) (td_in 1191 (by decide +kernel) rfl) no_X10_share (by decide) hcs dL_law_220 (Nat.le_of_ble_eq_true rfl) (cM h1 (J.fm F1)) ?_
  rintro _ h2 ⟨rfl, J2, F2⟩
  exact k_icmp_eq (tgt := 1000) dL_law_223 (by decide) (fun _ => nx s' h2 (I1.fd F2) J2) (fun z => absurd rfl z)
theorem lwc_2 (hj : j + 6 ≤ Ln) (hL : Ln ≤ 3072) (hcs : cc ≤ room_1.cells ∧ sl ≤ room_1.slots) (I : DI s h) (J : MI s h) (nx : ∀ s' h', DI s' h' → MI s' h' → k_J G room_1 mL_law (lwC G b Ln xs) Qf 1000 (lwL G b j) [] (td_ws G h') cc sl) : k_J G room_1 mL_law (lwC G b Ln xs) Qf 228 (lwL G b j) [] (td_ws G h) cc sl := by
  obtain ⟨v, s', cD, cM⟩ := p_open (G := G) ((xs (j + 1))) ((xs (j + 2))) I
  refine k_aload_n 1 dL_law_228 rfl ?_
  refine k_aload_n 0 dL_law_229 rfl ?_
  refine k_iload_n 3 dL_law_230 rfl ?_
  refine k_iconst (v := nI 1) dL_law_231 rfl ?_
  refine k_iadd dL_law_232 ?_
  refine k_sld (j := j + 1) (nI_add _ _) (kz_le hj (by decide)) hL dL_law_233 ?_
  refine k_aload_n 0 dL_law_234 rfl ?_
  refine k_iload_n 3 dL_law_235 rfl ?_
  refine k_iconst (v := nI 2) dL_law_236 rfl ?_
  refine k_iadd dL_law_237 ?_
  refine k_sld (j := j + 2) (nI_add _ _) (kz_le hj (by decide)) hL dL_law_238 ?_
  refine k_callD (Mc := mX9_open) (C := RX9) (ci := 9) (k := 0) (d := 9) (as := [.int (xs (j + 1)), .int (xs (j + 2))]) (st := []) kp_0 (by decide) rfl rfl (td_in 539 (by decide +kernel) rfl) (td_in 540 (by decide +kernel) rfl) (td_in 541 (by decide +kernel) rfl) (td_in 106 (by decide +kernel) rfl) (td_in 542 (by decide +kernel) rfl) no_X9_open (by decide) hcs dL_law_239 (Nat.le_of_ble_eq_true rfl) cD ?_
  rintro _ h1 ⟨rfl, I1, F1⟩
  refine k_aload_n 2 dL_law_242 rfl ?_
  refine k_aload_n 0 dL_law_243 rfl ?_
  refine k_iload_n 3 dL_law_244 rfl ?_
  refine k_iconst (v := nI 1) dL_law_245 rfl ?_
  refine k_iadd dL_law_246 ?_
  refine k_sld (j := j + 1) (nI_add _ _) (kz_le hj (by decide)) hL dL_law_247 ?_
  refine k_aload_n 0 dL_law_248 rfl ?_
  refine k_iload_n 3 dL_law_249 rfl ?_
  refine k_iconst (v := nI 2) dL_law_250 rfl ?_
  refine k_iadd dL_law_251 ?_
  refine k_sld (j := j + 2) (nI_add _ _) (kz_le hj (by decide)) hL dL_law_252 ?_
  refine k_callD (Mc := mX10_open) (C := RX10) (ci := 10) (k := 85) (d := 9) (as := [.int (xs (j + 1)), .int (xs (j + 2))]) (st := [.int v]) kp_85 (by decide) rfl rfl (td_in 1209 (by decide +kernel) rfl) (td_in 1210 (by decide +kernel) rfl) (td_in 1211 (by decide +kernel) rfl) (td_in 117 (by decide +kernel) rfl) (td_in 1212 (by decide +kernel) rfl) no_X10_open (by decide) hcs dL_law_253 (Nat.le_of_ble_eq_true rfl) (cM h1 (J.fm F1)) ?_
  rintro _ h2 ⟨rfl, J2, F2⟩
  exact k_icmp_eq (tgt := 1000) dL_law_256 (by decide) (fun _ => nx s' h2 (I1.fd F2) J2) (fun z => absurd rfl z)
theorem lwc_3 (hj : j + 6 ≤ Ln) (hL : Ln ≤ 3072) (hcs : cc ≤ room_1.cells ∧ sl ≤ room_1.slots) (I : DI s h) (J : MI s h) (nx : ∀ s' h', DI s' h' → MI s' h' → k_J G room_1 mL_law (lwC G b Ln xs) Qf 1000 (lwL G b j) [] (td_ws G h') cc sl) : k_J G room_1 mL_law (lwC G b Ln xs) Qf 261 (lwL G b j) [] (td_ws G h) cc sl := by
  obtain ⟨v, s', cD, cM⟩ := p_person (G := G) ((xs (j + 1))) ((xs (j + 2))) ((xs (j + 3))) I
  refine k_aload_n 1 dL_law_261 rfl ?_
  refine k_aload_n 0 dL_law_262 rfl ?_
  refine k_iload_n 3 dL_law_263 rfl ?_
  refine k_iconst (v := nI 1) dL_law_264 rfl ?_
  refine k_iadd dL_law_265 ?_
  refine k_sld (j := j + 1) (nI_add _ _) (kz_le hj (by decide)) hL dL_law_266 ?_
  refine k_aload_n 0 dL_law_267 rfl ?_
  refine k_iload_n 3 dL_law_268 rfl ?_
  refine k_iconst (v := nI 2) dL_law_269 rfl ?_
  refine k_iadd dL_law_270 ?_
  refine k_sld (j := j + 2) (nI_add _ _) (kz_le hj (by decide)) hL dL_law_271 ?_
  refine k_aload_n 0 dL_law_272 rfl ?_
  refine k_iload_n 3 dL_law_273 rfl ?_
  refine k_iconst (v := nI 3) dL_law_274 rfl ?_
  refine k_iadd dL_law_275 ?_
  refine k_sld (j := j + 3) (nI_add _ _) (kz_le hj (by decide)) hL dL_law_276 ?_
  refine k_callD (Mc := mX9_person) (C := RX9) (ci := 9) (k := 0) (d := 9) (as := [.int (xs (j + 1)), .int (xs (j + 2)), .int (xs (j + 3))]) (st := []) kp_0 (by decide) rfl rfl (td_in 547 (by decide +kernel) rfl) (td_in 548 (by decide +kernel) rfl) (td_in 549 (by decide +kernel) rfl) (td_in 106 (by decide +kernel) rfl) (td_in 550 (by decide +kernel) rfl) no_X9_person (by decide) hcs dL_law_277 (Nat.le_of_ble_eq_true rfl) cD ?_
  rintro _ h1 ⟨rfl, I1, F1⟩
  refine k_aload_n 2 dL_law_280 rfl ?_
  refine k_aload_n 0 dL_law_281 rfl ?_
  refine k_iload_n 3 dL_law_282 rfl ?_
  refine k_iconst (v := nI 1) dL_law_283 rfl ?_
  refine k_iadd dL_law_284 ?_
  refine k_sld (j := j + 1) (nI_add _ _) (kz_le hj (by decide)) hL dL_law_285 ?_
  refine k_aload_n 0 dL_law_286 rfl ?_
  refine k_iload_n 3 dL_law_287 rfl ?_
  refine k_iconst (v := nI 2) dL_law_288 rfl ?_
  refine k_iadd dL_law_289 ?_
  refine k_sld (j := j + 2) (nI_add _ _) (kz_le hj (by decide)) hL dL_law_290 ?_
  refine k_aload_n 0 dL_law_291 rfl ?_
  refine k_iload_n 3 dL_law_292 rfl ?_
  refine k_iconst (v := nI 3) dL_law_293 rfl ?_
  refine k_iadd dL_law_294 ?_
  refine k_sld (j := j + 3) (nI_add _ _) (kz_le hj (by decide)) hL dL_law_295 ?_
  refine k_callD (Mc := mX10_person) (C := RX10) (ci := 10) (k := 85) (d := 9) (as := [.int (xs (j + 1)), .int (xs (j + 2)), .int (xs (j + 3))]) (st := [.int v]) kp_85 (by decide) rfl rfl (td_in 1217 (by decide +kernel) rfl) (td_in 1218 (by decide +kernel) rfl) (td_in 1219 (by decide +kernel) rfl) (td_in 117 (by decide +kernel) rfl) (td_in 1220 (by decide +kernel) rfl) no_X10_person (by decide) hcs dL_law_296 (Nat.le_of_ble_eq_true rfl) (cM h1 (J.fm F1)) ?_
  rintro _ h2 ⟨rfl, J2, F2⟩
  exact k_icmp_eq (tgt := 1000) dL_law_299 (by decide) (fun _ => nx s' h2 (I1.fd F2) J2) (fun z => absurd rfl z)
theorem lwc_4 (hj : j + 6 ≤ Ln) (hL : Ln ≤ 3072) (hcs : cc ≤ room_1.cells ∧ sl ≤ room_1.slots) (I : DI s h) (J : MI s h) (nx : ∀ s' h', DI s' h' → MI s' h' → k_J G room_1 mL_law (lwC G b Ln xs) Qf 1000 (lwL G b j) [] (td_ws G h') cc sl) : k_J G room_1 mL_law (lwC G b Ln xs) Qf 304 (lwL G b j) [] (td_ws G h) cc sl := by
  obtain ⟨v, s', cD, cM⟩ := p_told (G := G) ((xs (j + 1))) ((xs (j + 2))) I
  refine k_aload_n 1 dL_law_304 rfl ?_
  refine k_aload_n 0 dL_law_305 rfl ?_
  refine k_iload_n 3 dL_law_306 rfl ?_
  refine k_iconst (v := nI 1) dL_law_307 rfl ?_
  refine k_iadd dL_law_308 ?_
  refine k_sld (j := j + 1) (nI_add _ _) (kz_le hj (by decide)) hL dL_law_309 ?_
  refine k_aload_n 0 dL_law_310 rfl ?_
  refine k_iload_n 3 dL_law_311 rfl ?_
  refine k_iconst (v := nI 2) dL_law_312 rfl ?_
  refine k_iadd dL_law_313 ?_
  refine k_sld (j := j + 2) (nI_add _ _) (kz_le hj (by decide)) hL dL_law_314 ?_
  refine k_callD (Mc := mX9_told) (C := RX9) (ci := 9) (k := 0) (d := 9) (as := [.int (xs (j + 1)), .int (xs (j + 2))]) (st := []) kp_0 (by decide) rfl rfl (td_in 555 (by decide +kernel) rfl) (td_in 556 (by decide +kernel) rfl) (td_in 557 (by decide +kernel) rfl) (td_in 106 (by decide +kernel) rfl) (td_in 558 (by decide +kernel) rfl) no_X9_told (by decide) hcs dL_law_315 (Nat.le_of_ble_eq_true rfl) cD ?_
  rintro _ h1 ⟨rfl, I1, F1⟩
  refine k_aload_n 2 dL_law_318 rfl ?_
  refine k_aload_n 0 dL_law_319 rfl ?_
  refine k_iload_n 3 dL_law_320 rfl ?_
  refine k_iconst (v := nI 1) dL_law_321 rfl ?_
  refine k_iadd dL_law_322 ?_
  refine k_sld (j := j + 1) (nI_add _ _) (kz_le hj (by decide)) hL dL_law_323 ?_
  refine k_aload_n 0 dL_law_324 rfl ?_
  refine k_iload_n 3 dL_law_325 rfl ?_
  refine k_iconst (v := nI 2) dL_law_326 rfl ?_
  refine k_iadd dL_law_327 ?_
  refine k_sld (j := j + 2) (nI_add _ _) (kz_le hj (by decide)) hL dL_law_328 ?_
  refine k_callD (Mc := mX10_told) (C := RX10) (ci := 10) (k := 85) (d := 9) (as := [.int (xs (j + 1)), .int (xs (j + 2))]) (st := [.int v]) kp_85 (by decide) rfl rfl (td_in 1227 (by decide +kernel) rfl) (td_in 1228 (by decide +kernel) rfl) (td_in 1229 (by decide +kernel) rfl) (td_in 117 (by decide +kernel) rfl) (td_in 1230 (by decide +kernel) rfl) no_X10_told (by decide) hcs dL_law_329 (Nat.le_of_ble_eq_true rfl) (cM h1 (J.fm F1)) ?_
  rintro _ h2 ⟨rfl, J2, F2⟩
  exact k_icmp_eq (tgt := 1000) dL_law_332 (by decide) (fun _ => nx s' h2 (I1.fd F2) J2) (fun z => absurd rfl z)
theorem lwc_5 (hj : j + 6 ≤ Ln) (hL : Ln ≤ 3072) (hcs : cc ≤ room_1.cells ∧ sl ≤ room_1.slots) (I : DI s h) (J : MI s h) (nx : ∀ s' h', DI s' h' → MI s' h' → k_J G room_1 mL_law (lwC G b Ln xs) Qf 1000 (lwL G b j) [] (td_ws G h') cc sl) : k_J G room_1 mL_law (lwC G b Ln xs) Qf 337 (lwL G b j) [] (td_ws G h) cc sl := by
  obtain ⟨v, s', cD, cM⟩ := p_delay (G := G) ((xs (j + 1))) ((xs (j + 2))) I
  refine k_aload_n 1 dL_law_337 rfl ?_
  refine k_aload_n 0 dL_law_338 rfl ?_
  refine k_iload_n 3 dL_law_339 rfl ?_
  refine k_iconst (v := nI 1) dL_law_340 rfl ?_
  refine k_iadd dL_law_341 ?_
  refine k_sld (j := j + 1) (nI_add _ _) (kz_le hj (by decide)) hL dL_law_342 ?_
  refine k_aload_n 0 dL_law_343 rfl ?_
  refine k_iload_n 3 dL_law_344 rfl ?_
  refine k_iconst (v := nI 2) dL_law_345 rfl ?_
  refine k_iadd dL_law_346 ?_
  refine k_sld (j := j + 2) (nI_add _ _) (kz_le hj (by decide)) hL dL_law_347 ?_
  refine k_callD (Mc := mX9_delay) (C := RX9) (ci := 9) (k := 0) (d := 9) (as := [.int (xs (j + 1)), .int (xs (j + 2))]) (st := []) kp_0 (by decide) rfl rfl (td_in 576 (by decide +kernel) rfl) (td_in 577 (by decide +kernel) rfl) (td_in 578 (by decide +kernel) rfl) (td_in 106 (by decide +kernel) rfl) (td_in 579 (by decide +kernel) rfl) no_X9_delay (by decide) hcs dL_law_348 (Nat.le_of_ble_eq_true rfl) cD ?_
  rintro _ h1 ⟨rfl, I1, F1⟩
  refine k_aload_n 2 dL_law_351 rfl ?_
  refine k_aload_n 0 dL_law_352 rfl ?_
  refine k_iload_n 3 dL_law_353 rfl ?_
  refine k_iconst (v := nI 1) dL_law_354 rfl ?_
  refine k_iadd dL_law_355 ?_
  refine k_sld (j := j + 1) (nI_add _ _) (kz_le hj (by decide)) hL dL_law_356 ?_
  refine k_aload_n 0 dL_law_357 rfl ?_
  refine k_iload_n 3 dL_law_358 rfl ?_
  refine k_iconst (v := nI 2) dL_law_359 rfl ?_
  refine k_iadd dL_law_360 ?_
  refine k_sld (j := j + 2) (nI_add _ _) (kz_le hj (by decide)) hL dL_law_361 ?_
  refine k_callD (Mc := mX10_delay) (C := RX10) (ci := 10) (k := 85) (d := 9) (as := [.int (xs (j + 1)), .int (xs (j + 2))]) (st := [.int v]) kp_85 (by decide) rfl rfl (td_in 1242 (by decide +kernel) rfl) (td_in 1243 (by decide +kernel) rfl) (td_in 1244 (by decide +kernel) rfl) (td_in 117 (by decide +kernel) rfl) (td_in 1245 (by decide +kernel) rfl) no_X10_delay (by decide) hcs dL_law_362 (Nat.le_of_ble_eq_true rfl) (cM h1 (J.fm F1)) ?_
  rintro _ h2 ⟨rfl, J2, F2⟩
  exact k_icmp_eq (tgt := 1000) dL_law_365 (by decide) (fun _ => nx s' h2 (I1.fd F2) J2) (fun z => absurd rfl z)
theorem lwc_6 (hj : j + 6 ≤ Ln) (hL : Ln ≤ 3072) (hcs : cc ≤ room_1.cells ∧ sl ≤ room_1.slots) (I : DI s h) (J : MI s h) (nx : ∀ s' h', DI s' h' → MI s' h' → k_J G room_1 mL_law (lwC G b Ln xs) Qf 1000 (lwL G b j) [] (td_ws G h') cc sl) : k_J G room_1 mL_law (lwC G b Ln xs) Qf 370 (lwL G b j) [] (td_ws G h) cc sl := by
  obtain ⟨v, s', cD, cM⟩ := p_clear (G := G)  I
  refine k_aload_n 1 dL_law_370 rfl ?_
  refine k_callD (Mc := mX9_clear) (C := RX9) (ci := 9) (k := 0) (d := 9) (as := []) (st := []) kp_0 (by decide) rfl rfl (td_in 580 (by decide +kernel) rfl) (td_in 581 (by decide +kernel) rfl) (td_in 582 (by decide +kernel) rfl) (td_in 106 (by decide +kernel) rfl) (td_in 583 (by decide +kernel) rfl) no_X9_clear (by decide) hcs dL_law_371 (Nat.le_of_ble_eq_true rfl) cD ?_
  rintro _ h1 ⟨rfl, I1, F1⟩
  refine k_aload_n 2 dL_law_374 rfl ?_
  refine k_callD (Mc := mX10_clear) (C := RX10) (ci := 10) (k := 85) (d := 9) (as := []) (st := [.int v]) kp_85 (by decide) rfl rfl (td_in 1246 (by decide +kernel) rfl) (td_in 1247 (by decide +kernel) rfl) (td_in 1248 (by decide +kernel) rfl) (td_in 117 (by decide +kernel) rfl) (td_in 1249 (by decide +kernel) rfl) no_X10_clear (by decide) hcs dL_law_375 (Nat.le_of_ble_eq_true rfl) (cM h1 (J.fm F1)) ?_
  rintro _ h2 ⟨rfl, J2, F2⟩
  exact k_icmp_eq (tgt := 1000) dL_law_378 (by decide) (fun _ => nx s' h2 (I1.fd F2) J2) (fun z => absurd rfl z)
theorem lwc_7 (hj : j + 6 ≤ Ln) (hL : Ln ≤ 3072) (hcs : cc ≤ room_1.cells ∧ sl ≤ room_1.slots) (I : DI s h) (J : MI s h) (nx : ∀ s' h', DI s' h' → MI s' h' → k_J G room_1 mL_law (lwC G b Ln xs) Qf 1000 (lwL G b j) [] (td_ws G h') cc sl) : k_J G room_1 mL_law (lwC G b Ln xs) Qf 383 (lwL G b j) [] (td_ws G h) cc sl := by
  obtain ⟨v, s', cD, cM⟩ := p_type (G := G) ((((xs (j + 1)).toInt64 <<< ((nI 32).toInt64 &&& 63)) ||| ((xs (j + 2)).toInt64 &&& (4294967295)))) ((xs (j + 3))) I
  refine k_aload_n 1 dL_law_383 rfl ?_
  refine k_aload_n 0 dL_law_384 rfl ?_
  refine k_iload_n 3 dL_law_385 rfl ?_
  refine k_iconst (v := nI 1) dL_law_386 rfl ?_
  refine k_iadd dL_law_387 ?_
  refine k_sld (j := j + 1) (nI_add _ _) (kz_le hj (by decide)) hL dL_law_388 ?_
  refine k_i2l dL_law_389 ?_
  refine k_bipush (v := nI 32) dL_law_390 rfl ?_
  refine k_lshl dL_law_392 ?_
  refine k_aload_n 0 dL_law_393 rfl ?_
  refine k_iload_n 3 dL_law_394 rfl ?_
  refine k_iconst (v := nI 2) dL_law_395 rfl ?_
  refine k_iadd dL_law_396 ?_
  refine k_sld (j := j + 2) (nI_add _ _) (kz_le hj (by decide)) hL dL_law_397 ?_
  refine k_i2l dL_law_398 ?_
  refine k_ldc2 (v := 4294967295) kw_L_44 dL_law_399 ?_
  refine k_land dL_law_402 ?_
  refine k_lor dL_law_403 ?_
  refine k_aload_n 0 dL_law_404 rfl ?_
  refine k_iload_n 3 dL_law_405 rfl ?_
  refine k_iconst (v := nI 3) dL_law_406 rfl ?_
  refine k_iadd dL_law_407 ?_
  refine k_sld (j := j + 3) (nI_add _ _) (kz_le hj (by decide)) hL dL_law_408 ?_
  refine k_callD (Mc := mX9_type) (C := RX9) (ci := 9) (k := 0) (d := 9) (as := [.long (((xs (j + 1)).toInt64 <<< ((nI 32).toInt64 &&& 63)) ||| ((xs (j + 2)).toInt64 &&& (4294967295))), .int (xs (j + 3))]) (st := []) kp_0 (by decide) rfl rfl (td_in 584 (by decide +kernel) rfl) (td_in 585 (by decide +kernel) rfl) (td_in 586 (by decide +kernel) rfl) (td_in 106 (by decide +kernel) rfl) (td_in 587 (by decide +kernel) rfl) no_X9_type (by decide) hcs dL_law_409 (Nat.le_of_ble_eq_true rfl) cD ?_
  rintro _ h1 ⟨rfl, I1, F1⟩
  refine k_aload_n 2 dL_law_412 rfl ?_
  refine k_aload_n 0 dL_law_413 rfl ?_
  refine k_iload_n 3 dL_law_414 rfl ?_
  refine k_iconst (v := nI 1) dL_law_415 rfl ?_
  refine k_iadd dL_law_416 ?_
  refine k_sld (j := j + 1) (nI_add _ _) (kz_le hj (by decide)) hL dL_law_417 ?_
  refine k_i2l dL_law_418 ?_
  refine k_bipush (v := nI 32) dL_law_419 rfl ?_
  refine k_lshl dL_law_421 ?_
  refine k_aload_n 0 dL_law_422 rfl ?_
  refine k_iload_n 3 dL_law_423 rfl ?_
  refine k_iconst (v := nI 2) dL_law_424 rfl ?_
  refine k_iadd dL_law_425 ?_
  refine k_sld (j := j + 2) (nI_add _ _) (kz_le hj (by decide)) hL dL_law_426 ?_
  refine k_i2l dL_law_427 ?_
  refine k_ldc2 (v := 4294967295) kw_L_44 dL_law_428 ?_
  refine k_land dL_law_431 ?_
  refine k_lor dL_law_432 ?_
  refine k_aload_n 0 dL_law_433 rfl ?_
  refine k_iload_n 3 dL_law_434 rfl ?_
  refine k_iconst (v := nI 3) dL_law_435 rfl ?_
  refine k_iadd dL_law_436 ?_
  refine k_sld (j := j + 3) (nI_add _ _) (kz_le hj (by decide)) hL dL_law_437 ?_
  refine k_callD (Mc := mX10_type) (C := RX10) (ci := 10) (k := 85) (d := 9) (as := [.long (((xs (j + 1)).toInt64 <<< ((nI 32).toInt64 &&& 63)) ||| ((xs (j + 2)).toInt64 &&& (4294967295))), .int (xs (j + 3))]) (st := [.int v]) kp_85 (by decide) rfl rfl (td_in 1250 (by decide +kernel) rfl) (td_in 1251 (by decide +kernel) rfl) (td_in 1252 (by decide +kernel) rfl) (td_in 117 (by decide +kernel) rfl) (td_in 1253 (by decide +kernel) rfl) no_X10_type (by decide) hcs dL_law_438 (Nat.le_of_ble_eq_true rfl) (cM h1 (J.fm F1)) ?_
  rintro _ h2 ⟨rfl, J2, F2⟩
  exact k_icmp_eq (tgt := 1000) dL_law_441 (by decide) (fun _ => nx s' h2 (I1.fd F2) J2) (fun z => absurd rfl z)
theorem lwc_8 (hj : j + 6 ≤ Ln) (hL : Ln ≤ 3072) (hcs : cc ≤ room_1.cells ∧ sl ≤ room_1.slots) (I : DI s h) (J : MI s h) (nx : ∀ s' h', DI s' h' → MI s' h' → k_J G room_1 mL_law (lwC G b Ln xs) Qf 1000 (lwL G b j) [] (td_ws G h') cc sl) : k_J G room_1 mL_law (lwC G b Ln xs) Qf 446 (lwL G b j) [] (td_ws G h) cc sl := by
  obtain ⟨v, s', cD, cM⟩ := p_people (G := G)  I
  refine k_aload_n 1 dL_law_446 rfl ?_
  refine k_callD (Mc := mX9_people) (C := RX9) (ci := 9) (k := 0) (d := 9) (as := []) (st := []) kp_0 (by decide) rfl rfl (td_in 598 (by decide +kernel) rfl) (td_in 599 (by decide +kernel) rfl) (td_in 600 (by decide +kernel) rfl) (td_in 106 (by decide +kernel) rfl) (td_in 601 (by decide +kernel) rfl) no_X9_people (by decide) hcs dL_law_447 (Nat.le_of_ble_eq_true rfl) cD ?_
  rintro _ h1 ⟨rfl, I1, F1⟩
  refine k_aload_n 2 dL_law_450 rfl ?_
  refine k_callD (Mc := mX10_people) (C := RX10) (ci := 10) (k := 85) (d := 9) (as := []) (st := [.int v]) kp_85 (by decide) rfl rfl (td_in 1257 (by decide +kernel) rfl) (td_in 1258 (by decide +kernel) rfl) (td_in 1259 (by decide +kernel) rfl) (td_in 117 (by decide +kernel) rfl) (td_in 1260 (by decide +kernel) rfl) no_X10_people (by decide) hcs dL_law_451 (Nat.le_of_ble_eq_true rfl) (cM h1 (J.fm F1)) ?_
  rintro _ h2 ⟨rfl, J2, F2⟩
  exact k_icmp_eq (tgt := 1000) dL_law_454 (by decide) (fun _ => nx s' h2 (I1.fd F2) J2) (fun z => absurd rfl z)
theorem lwc_9 (hj : j + 6 ≤ Ln) (hL : Ln ≤ 3072) (hcs : cc ≤ room_1.cells ∧ sl ≤ room_1.slots) (I : DI s h) (J : MI s h) (nx : ∀ s' h', DI s' h' → MI s' h' → k_J G room_1 mL_law (lwC G b Ln xs) Qf 1000 (lwL G b j) [] (td_ws G h') cc sl) : k_J G room_1 mL_law (lwC G b Ln xs) Qf 459 (lwL G b j) [] (td_ws G h) cc sl := by
  obtain ⟨v, s', cD, cM⟩ := p_fate (G := G) ((xs (j + 1))) ((xs (j + 2))) I
  refine k_aload_n 1 dL_law_459 rfl ?_
  refine k_aload_n 0 dL_law_460 rfl ?_
  refine k_iload_n 3 dL_law_461 rfl ?_
  refine k_iconst (v := nI 1) dL_law_462 rfl ?_
  refine k_iadd dL_law_463 ?_
  refine k_sld (j := j + 1) (nI_add _ _) (kz_le hj (by decide)) hL dL_law_464 ?_
  refine k_aload_n 0 dL_law_465 rfl ?_
  refine k_iload_n 3 dL_law_466 rfl ?_
  refine k_iconst (v := nI 2) dL_law_467 rfl ?_
  refine k_iadd dL_law_468 ?_
  refine k_sld (j := j + 2) (nI_add _ _) (kz_le hj (by decide)) hL dL_law_469 ?_
  refine k_callD (Mc := mX9_fate) (C := RX9) (ci := 9) (k := 0) (d := 9) (as := [.int (xs (j + 1)), .int (xs (j + 2))]) (st := []) kp_0 (by decide) rfl rfl (td_in 719 (by decide +kernel) rfl) (td_in 720 (by decide +kernel) rfl) (td_in 721 (by decide +kernel) rfl) (td_in 106 (by decide +kernel) rfl) (td_in 722 (by decide +kernel) rfl) no_X9_fate (by decide) hcs dL_law_470 (Nat.le_of_ble_eq_true rfl) cD ?_
  rintro _ h1 ⟨rfl, I1, F1⟩
  refine k_aload_n 2 dL_law_473 rfl ?_
  refine k_aload_n 0 dL_law_474 rfl ?_
  refine k_iload_n 3 dL_law_475 rfl ?_
  refine k_iconst (v := nI 1) dL_law_476 rfl ?_
  refine k_iadd dL_law_477 ?_
  refine k_sld (j := j + 1) (nI_add _ _) (kz_le hj (by decide)) hL dL_law_478 ?_
  refine k_aload_n 0 dL_law_479 rfl ?_
  refine k_iload_n 3 dL_law_480 rfl ?_
  refine k_iconst (v := nI 2) dL_law_481 rfl ?_
  refine k_iadd dL_law_482 ?_
  refine k_sld (j := j + 2) (nI_add _ _) (kz_le hj (by decide)) hL dL_law_483 ?_
  refine k_callD (Mc := mX10_fate) (C := RX10) (ci := 10) (k := 85) (d := 9) (as := [.int (xs (j + 1)), .int (xs (j + 2))]) (st := [.int v]) kp_85 (by decide) rfl rfl (td_in 1283 (by decide +kernel) rfl) (td_in 1284 (by decide +kernel) rfl) (td_in 1285 (by decide +kernel) rfl) (td_in 117 (by decide +kernel) rfl) (td_in 1286 (by decide +kernel) rfl) no_X10_fate (by decide) hcs dL_law_484 (Nat.le_of_ble_eq_true rfl) (cM h1 (J.fm F1)) ?_
  rintro _ h2 ⟨rfl, J2, F2⟩
  exact k_icmp_eq (tgt := 1000) dL_law_487 (by decide) (fun _ => nx s' h2 (I1.fd F2) J2) (fun z => absurd rfl z)
theorem lwc_10 (hj : j + 6 ≤ Ln) (hL : Ln ≤ 3072) (hcs : cc ≤ room_1.cells ∧ sl ≤ room_1.slots) (I : DI s h) (J : MI s h) (nx : ∀ s' h', DI s' h' → MI s' h' → k_J G room_1 mL_law (lwC G b Ln xs) Qf 1000 (lwL G b j) [] (td_ws G h') cc sl) : k_J G room_1 mL_law (lwC G b Ln xs) Qf 492 (lwL G b j) [] (td_ws G h) cc sl := by
  obtain ⟨v, s', cD, cM⟩ := p_at (G := G) ((xs (j + 1))) ((xs (j + 2))) I
  refine k_aload_n 1 dL_law_492 rfl ?_
  refine k_aload_n 0 dL_law_493 rfl ?_
  refine k_iload_n 3 dL_law_494 rfl ?_
  refine k_iconst (v := nI 1) dL_law_495 rfl ?_
  refine k_iadd dL_law_496 ?_
  refine k_sld (j := j + 1) (nI_add _ _) (kz_le hj (by decide)) hL dL_law_497 ?_
  refine k_aload_n 0 dL_law_498 rfl ?_
  refine k_iload_n 3 dL_law_499 rfl ?_
  refine k_iconst (v := nI 2) dL_law_500 rfl ?_
  refine k_iadd dL_law_501 ?_
  refine k_sld (j := j + 2) (nI_add _ _) (kz_le hj (by decide)) hL dL_law_502 ?_
  refine k_callD (Mc := mX9_at) (C := RX9) (ci := 9) (k := 0) (d := 9) (as := [.int (xs (j + 1)), .int (xs (j + 2))]) (st := []) kp_0 (by decide) rfl rfl (td_in 853 (by decide +kernel) rfl) (td_in 854 (by decide +kernel) rfl) (td_in 855 (by decide +kernel) rfl) (td_in 106 (by decide +kernel) rfl) (td_in 856 (by decide +kernel) rfl) no_X9_at (by decide) hcs dL_law_503 (Nat.le_of_ble_eq_true rfl) cD ?_
  rintro _ h1 ⟨rfl, I1, F1⟩
  refine k_aload_n 2 dL_law_506 rfl ?_
  refine k_aload_n 0 dL_law_507 rfl ?_
  refine k_iload_n 3 dL_law_508 rfl ?_
  refine k_iconst (v := nI 1) dL_law_509 rfl ?_
  refine k_iadd dL_law_510 ?_
  refine k_sld (j := j + 1) (nI_add _ _) (kz_le hj (by decide)) hL dL_law_511 ?_
  refine k_aload_n 0 dL_law_512 rfl ?_
  refine k_iload_n 3 dL_law_513 rfl ?_
  refine k_iconst (v := nI 2) dL_law_514 rfl ?_
  refine k_iadd dL_law_515 ?_
  refine k_sld (j := j + 2) (nI_add _ _) (kz_le hj (by decide)) hL dL_law_516 ?_
  refine k_callD (Mc := mX10_at) (C := RX10) (ci := 10) (k := 85) (d := 9) (as := [.int (xs (j + 1)), .int (xs (j + 2))]) (st := [.int v]) kp_85 (by decide) rfl rfl (td_in 1347 (by decide +kernel) rfl) (td_in 1348 (by decide +kernel) rfl) (td_in 1349 (by decide +kernel) rfl) (td_in 117 (by decide +kernel) rfl) (td_in 1350 (by decide +kernel) rfl) no_X10_at (by decide) hcs dL_law_517 (Nat.le_of_ble_eq_true rfl) (cM h1 (J.fm F1)) ?_
  rintro _ h2 ⟨rfl, J2, F2⟩
  exact k_icmp_eq (tgt := 1000) dL_law_520 (by decide) (fun _ => nx s' h2 (I1.fd F2) J2) (fun z => absurd rfl z)
theorem lwc_11 (hj : j + 6 ≤ Ln) (hL : Ln ≤ 3072) (hcs : cc ≤ room_1.cells ∧ sl ≤ room_1.slots) (I : DI s h) (J : MI s h) (nx : ∀ s' h', DI s' h' → MI s' h' → k_J G room_1 mL_law (lwC G b Ln xs) Qf 1000 (lwL G b j) [] (td_ws G h') cc sl) : k_J G room_1 mL_law (lwC G b Ln xs) Qf 525 (lwL G b j) [] (td_ws G h) cc sl := by
  obtain ⟨v, s', cD, cM⟩ := p_within (G := G) ((xs (j + 1))) ((xs (j + 2))) I
  refine k_aload_n 1 dL_law_525 rfl ?_
  refine k_aload_n 0 dL_law_526 rfl ?_
  refine k_iload_n 3 dL_law_527 rfl ?_
  refine k_iconst (v := nI 1) dL_law_528 rfl ?_
  refine k_iadd dL_law_529 ?_
  refine k_sld (j := j + 1) (nI_add _ _) (kz_le hj (by decide)) hL dL_law_530 ?_
  refine k_aload_n 0 dL_law_531 rfl ?_
  refine k_iload_n 3 dL_law_532 rfl ?_
  refine k_iconst (v := nI 2) dL_law_533 rfl ?_
  refine k_iadd dL_law_534 ?_
  refine k_sld (j := j + 2) (nI_add _ _) (kz_le hj (by decide)) hL dL_law_535 ?_
  refine k_callD (Mc := mX9_within) (C := RX9) (ci := 9) (k := 0) (d := 9) (as := [.int (xs (j + 1)), .int (xs (j + 2))]) (st := []) kp_0 (by decide) rfl rfl (td_in 861 (by decide +kernel) rfl) (td_in 862 (by decide +kernel) rfl) (td_in 863 (by decide +kernel) rfl) (td_in 106 (by decide +kernel) rfl) (td_in 864 (by decide +kernel) rfl) no_X9_within (by decide) hcs dL_law_536 (Nat.le_of_ble_eq_true rfl) cD ?_
  rintro _ h1 ⟨rfl, I1, F1⟩
  refine k_aload_n 2 dL_law_539 rfl ?_
  refine k_aload_n 0 dL_law_540 rfl ?_
  refine k_iload_n 3 dL_law_541 rfl ?_
  refine k_iconst (v := nI 1) dL_law_542 rfl ?_
  refine k_iadd dL_law_543 ?_
  refine k_sld (j := j + 1) (nI_add _ _) (kz_le hj (by decide)) hL dL_law_544 ?_
  refine k_aload_n 0 dL_law_545 rfl ?_
  refine k_iload_n 3 dL_law_546 rfl ?_
  refine k_iconst (v := nI 2) dL_law_547 rfl ?_
  refine k_iadd dL_law_548 ?_
  refine k_sld (j := j + 2) (nI_add _ _) (kz_le hj (by decide)) hL dL_law_549 ?_
  refine k_callD (Mc := mX10_within) (C := RX10) (ci := 10) (k := 85) (d := 9) (as := [.int (xs (j + 1)), .int (xs (j + 2))]) (st := [.int v]) kp_85 (by decide) rfl rfl (td_in 1351 (by decide +kernel) rfl) (td_in 1352 (by decide +kernel) rfl) (td_in 1353 (by decide +kernel) rfl) (td_in 117 (by decide +kernel) rfl) (td_in 1354 (by decide +kernel) rfl) no_X10_within (by decide) hcs dL_law_550 (Nat.le_of_ble_eq_true rfl) (cM h1 (J.fm F1)) ?_
  rintro _ h2 ⟨rfl, J2, F2⟩
  exact k_icmp_eq (tgt := 1000) dL_law_553 (by decide) (fun _ => nx s' h2 (I1.fd F2) J2) (fun z => absurd rfl z)
theorem lwc_12 (hj : j + 6 ≤ Ln) (hL : Ln ≤ 3072) (hcs : cc ≤ room_1.cells ∧ sl ≤ room_1.slots) (I : DI s h) (J : MI s h) (nx : ∀ s' h', DI s' h' → MI s' h' → k_J G room_1 mL_law (lwC G b Ln xs) Qf 1000 (lwL G b j) [] (td_ws G h') cc sl) : k_J G room_1 mL_law (lwC G b Ln xs) Qf 558 (lwL G b j) [] (td_ws G h) cc sl := by
  obtain ⟨v, s', cD, cM⟩ := p_all (G := G) ((xs (j + 1))) I
  refine k_aload_n 1 dL_law_558 rfl ?_
  refine k_aload_n 0 dL_law_559 rfl ?_
  refine k_iload_n 3 dL_law_560 rfl ?_
  refine k_iconst (v := nI 1) dL_law_561 rfl ?_
  refine k_iadd dL_law_562 ?_
  refine k_sld (j := j + 1) (nI_add _ _) (kz_le hj (by decide)) hL dL_law_563 ?_
  refine k_callD (Mc := mX9_all) (C := RX9) (ci := 9) (k := 0) (d := 9) (as := [.int (xs (j + 1))]) (st := []) kp_0 (by decide) rfl rfl (td_in 865 (by decide +kernel) rfl) (td_in 866 (by decide +kernel) rfl) (td_in 867 (by decide +kernel) rfl) (td_in 106 (by decide +kernel) rfl) (td_in 868 (by decide +kernel) rfl) no_X9_all (by decide) hcs dL_law_564 (Nat.le_of_ble_eq_true rfl) cD ?_
  rintro _ h1 ⟨rfl, I1, F1⟩
  refine k_aload_n 2 dL_law_567 rfl ?_
  refine k_aload_n 0 dL_law_568 rfl ?_
  refine k_iload_n 3 dL_law_569 rfl ?_
  refine k_iconst (v := nI 1) dL_law_570 rfl ?_
  refine k_iadd dL_law_571 ?_
  refine k_sld (j := j + 1) (nI_add _ _) (kz_le hj (by decide)) hL dL_law_572 ?_
  refine k_callD (Mc := mX10_all) (C := RX10) (ci := 10) (k := 85) (d := 9) (as := [.int (xs (j + 1))]) (st := [.int v]) kp_85 (by decide) rfl rfl (td_in 1355 (by decide +kernel) rfl) (td_in 1356 (by decide +kernel) rfl) (td_in 1357 (by decide +kernel) rfl) (td_in 117 (by decide +kernel) rfl) (td_in 1358 (by decide +kernel) rfl) no_X10_all (by decide) hcs dL_law_573 (Nat.le_of_ble_eq_true rfl) (cM h1 (J.fm F1)) ?_
  rintro _ h2 ⟨rfl, J2, F2⟩
  exact k_icmp_eq (tgt := 1000) dL_law_576 (by decide) (fun _ => nx s' h2 (I1.fd F2) J2) (fun z => absurd rfl z)
theorem lwc_13 (hj : j + 6 ≤ Ln) (hL : Ln ≤ 3072) (hcs : cc ≤ room_1.cells ∧ sl ≤ room_1.slots) (I : DI s h) (J : MI s h) (nx : ∀ s' h', DI s' h' → MI s' h' → k_J G room_1 mL_law (lwC G b Ln xs) Qf 1000 (lwL G b j) [] (td_ws G h') cc sl) : k_J G room_1 mL_law (lwC G b Ln xs) Qf 581 (lwL G b j) [] (td_ws G h) cc sl := by
  obtain ⟨v, s', cD, cM⟩ := p_count (G := G) ((xs (j + 1))) I
  refine k_aload_n 1 dL_law_581 rfl ?_
  refine k_aload_n 0 dL_law_582 rfl ?_
  refine k_iload_n 3 dL_law_583 rfl ?_
  refine k_iconst (v := nI 1) dL_law_584 rfl ?_
  refine k_iadd dL_law_585 ?_
  refine k_sld (j := j + 1) (nI_add _ _) (kz_le hj (by decide)) hL dL_law_586 ?_
  refine k_callD (Mc := mX9_count) (C := RX9) (ci := 9) (k := 0) (d := 9) (as := [.int (xs (j + 1))]) (st := []) kp_0 (by decide) rfl rfl (td_in 885 (by decide +kernel) rfl) (td_in 886 (by decide +kernel) rfl) (td_in 887 (by decide +kernel) rfl) (td_in 106 (by decide +kernel) rfl) (td_in 888 (by decide +kernel) rfl) no_X9_count (by decide) hcs dL_law_587 (Nat.le_of_ble_eq_true rfl) cD ?_
  rintro _ h1 ⟨rfl, I1, F1⟩
  refine k_aload_n 2 dL_law_590 rfl ?_
  refine k_aload_n 0 dL_law_591 rfl ?_
  refine k_iload_n 3 dL_law_592 rfl ?_
  refine k_iconst (v := nI 1) dL_law_593 rfl ?_
  refine k_iadd dL_law_594 ?_
  refine k_sld (j := j + 1) (nI_add _ _) (kz_le hj (by decide)) hL dL_law_595 ?_
  refine k_callD (Mc := mX10_count) (C := RX10) (ci := 10) (k := 85) (d := 9) (as := [.int (xs (j + 1))]) (st := [.int v]) kp_85 (by decide) rfl rfl (td_in 1279 (by decide +kernel) rfl) (td_in 1280 (by decide +kernel) rfl) (td_in 1281 (by decide +kernel) rfl) (td_in 117 (by decide +kernel) rfl) (td_in 1282 (by decide +kernel) rfl) no_X10_count (by decide) hcs dL_law_596 (Nat.le_of_ble_eq_true rfl) (cM h1 (J.fm F1)) ?_
  rintro _ h2 ⟨rfl, J2, F2⟩
  exact k_icmp_eq (tgt := 1000) dL_law_599 (by decide) (fun _ => nx s' h2 (I1.fd F2) J2) (fun z => absurd rfl z)
theorem lwc_14 (hj : j + 6 ≤ Ln) (hL : Ln ≤ 3072) (hcs : cc ≤ room_1.cells ∧ sl ≤ room_1.slots) (I : DI s h) (J : MI s h) (nx : ∀ s' h', DI s' h' → MI s' h' → k_J G room_1 mL_law (lwC G b Ln xs) Qf 1000 (lwL G b j) [] (td_ws G h') cc sl) : k_J G room_1 mL_law (lwC G b Ln xs) Qf 604 (lwL G b j) [] (td_ws G h) cc sl := by
  obtain ⟨v, s', cD, cM⟩ := p_shared (G := G) ((xs (j + 1))) ((xs (j + 2))) I
  refine k_aload_n 1 dL_law_604 rfl ?_
  refine k_aload_n 0 dL_law_605 rfl ?_
  refine k_iload_n 3 dL_law_606 rfl ?_
  refine k_iconst (v := nI 1) dL_law_607 rfl ?_
  refine k_iadd dL_law_608 ?_
  refine k_sld (j := j + 1) (nI_add _ _) (kz_le hj (by decide)) hL dL_law_609 ?_
  refine k_aload_n 0 dL_law_610 rfl ?_
  refine k_iload_n 3 dL_law_611 rfl ?_
  refine k_iconst (v := nI 2) dL_law_612 rfl ?_
  refine k_iadd dL_law_613 ?_
  refine k_sld (j := j + 2) (nI_add _ _) (kz_le hj (by decide)) hL dL_law_614 ?_
  refine k_callD (Mc := mX9_shared) (C := RX9) (ci := 9) (k := 0) (d := 9) (as := [.int (xs (j + 1)), .int (xs (j + 2))]) (st := []) kp_0 (by decide) rfl rfl (td_in 893 (by decide +kernel) rfl) (td_in 894 (by decide +kernel) rfl) (td_in 895 (by decide +kernel) rfl) (td_in 106 (by decide +kernel) rfl) (td_in 896 (by decide +kernel) rfl) no_X9_shared (by decide) hcs dL_law_615 (Nat.le_of_ble_eq_true rfl) cD ?_
  rintro _ h1 ⟨rfl, I1, F1⟩
  refine k_aload_n 2 dL_law_618 rfl ?_
  refine k_aload_n 0 dL_law_619 rfl ?_
  refine k_iload_n 3 dL_law_620 rfl ?_
  refine k_iconst (v := nI 1) dL_law_621 rfl ?_
  refine k_iadd dL_law_622 ?_
  refine k_sld (j := j + 1) (nI_add _ _) (kz_le hj (by decide)) hL dL_law_623 ?_
  refine k_aload_n 0 dL_law_624 rfl ?_
  refine k_iload_n 3 dL_law_625 rfl ?_
  refine k_iconst (v := nI 2) dL_law_626 rfl ?_
  refine k_iadd dL_law_627 ?_
  refine k_sld (j := j + 2) (nI_add _ _) (kz_le hj (by decide)) hL dL_law_628 ?_
  refine k_callD (Mc := mX10_shared) (C := RX10) (ci := 10) (k := 85) (d := 9) (as := [.int (xs (j + 1)), .int (xs (j + 2))]) (st := [.int v]) kp_85 (by decide) rfl rfl (td_in 1371 (by decide +kernel) rfl) (td_in 1372 (by decide +kernel) rfl) (td_in 1373 (by decide +kernel) rfl) (td_in 117 (by decide +kernel) rfl) (td_in 1374 (by decide +kernel) rfl) no_X10_shared (by decide) hcs dL_law_629 (Nat.le_of_ble_eq_true rfl) (cM h1 (J.fm F1)) ?_
  rintro _ h2 ⟨rfl, J2, F2⟩
  exact k_icmp_eq (tgt := 1000) dL_law_632 (by decide) (fun _ => nx s' h2 (I1.fd F2) J2) (fun z => absurd rfl z)
theorem lwc_15 (hj : j + 6 ≤ Ln) (hL : Ln ≤ 3072) (hcs : cc ≤ room_1.cells ∧ sl ≤ room_1.slots) (I : DI s h) (J : MI s h) (nx : ∀ s' h', DI s' h' → MI s' h' → k_J G room_1 mL_law (lwC G b Ln xs) Qf 1000 (lwL G b j) [] (td_ws G h') cc sl) : k_J G room_1 mL_law (lwC G b Ln xs) Qf 637 (lwL G b j) [] (td_ws G h) cc sl := by
  obtain ⟨v, s', cD, cM⟩ := p_motor (G := G) ((xs (j + 1))) I
  refine k_aload_n 1 dL_law_637 rfl ?_
  refine k_aload_n 0 dL_law_638 rfl ?_
  refine k_iload_n 3 dL_law_639 rfl ?_
  refine k_iconst (v := nI 1) dL_law_640 rfl ?_
  refine k_iadd dL_law_641 ?_
  refine k_sld (j := j + 1) (nI_add _ _) (kz_le hj (by decide)) hL dL_law_642 ?_
  refine k_callD (Mc := mX9_motor) (C := RX9) (ci := 9) (k := 0) (d := 9) (as := [.int (xs (j + 1))]) (st := []) kp_0 (by decide) rfl rfl (td_in 897 (by decide +kernel) rfl) (td_in 898 (by decide +kernel) rfl) (td_in 899 (by decide +kernel) rfl) (td_in 106 (by decide +kernel) rfl) (td_in 900 (by decide +kernel) rfl) no_X9_motor (by decide) hcs dL_law_643 (Nat.le_of_ble_eq_true rfl) cD ?_
  rintro _ h1 ⟨rfl, I1, F1⟩
  refine k_aload_n 2 dL_law_646 rfl ?_
  refine k_aload_n 0 dL_law_647 rfl ?_
  refine k_iload_n 3 dL_law_648 rfl ?_
  refine k_iconst (v := nI 1) dL_law_649 rfl ?_
  refine k_iadd dL_law_650 ?_
  refine k_sld (j := j + 1) (nI_add _ _) (kz_le hj (by decide)) hL dL_law_651 ?_
  refine k_callD (Mc := mX10_motor) (C := RX10) (ci := 10) (k := 85) (d := 9) (as := [.int (xs (j + 1))]) (st := [.int v]) kp_85 (by decide) rfl rfl (td_in 1375 (by decide +kernel) rfl) (td_in 1376 (by decide +kernel) rfl) (td_in 1377 (by decide +kernel) rfl) (td_in 117 (by decide +kernel) rfl) (td_in 1378 (by decide +kernel) rfl) no_X10_motor (by decide) hcs dL_law_652 (Nat.le_of_ble_eq_true rfl) (cM h1 (J.fm F1)) ?_
  rintro _ h2 ⟨rfl, J2, F2⟩
  exact k_icmp_eq (tgt := 1000) dL_law_655 (by decide) (fun _ => nx s' h2 (I1.fd F2) J2) (fun z => absurd rfl z)
theorem lwc_16 (hj : j + 6 ≤ Ln) (hL : Ln ≤ 3072) (hcs : cc ≤ room_1.cells ∧ sl ≤ room_1.slots) (I : DI s h) (J : MI s h) (nx : ∀ s' h', DI s' h' → MI s' h' → k_J G room_1 mL_law (lwC G b Ln xs) Qf 1000 (lwL G b j) [] (td_ws G h') cc sl) : k_J G room_1 mL_law (lwC G b Ln xs) Qf 660 (lwL G b j) [] (td_ws G h) cc sl := by
  obtain ⟨v, s', cD, cM⟩ := p_warmest (G := G) ((xs (j + 1))) ((xs (j + 2))) I
  refine k_aload_n 1 dL_law_660 rfl ?_
  refine k_aload_n 0 dL_law_661 rfl ?_
  refine k_iload_n 3 dL_law_662 rfl ?_
  refine k_iconst (v := nI 1) dL_law_663 rfl ?_
  refine k_iadd dL_law_664 ?_
  refine k_sld (j := j + 1) (nI_add _ _) (kz_le hj (by decide)) hL dL_law_665 ?_
  refine k_aload_n 0 dL_law_666 rfl ?_
  refine k_iload_n 3 dL_law_667 rfl ?_
  refine k_iconst (v := nI 2) dL_law_668 rfl ?_
  refine k_iadd dL_law_669 ?_
  refine k_sld (j := j + 2) (nI_add _ _) (kz_le hj (by decide)) hL dL_law_670 ?_
  refine k_callD (Mc := mX9_warmest) (C := RX9) (ci := 9) (k := 0) (d := 9) (as := [.int (xs (j + 1)), .int (xs (j + 2))]) (st := []) kp_0 (by decide) rfl rfl (td_in 917 (by decide +kernel) rfl) (td_in 918 (by decide +kernel) rfl) (td_in 919 (by decide +kernel) rfl) (td_in 106 (by decide +kernel) rfl) (td_in 920 (by decide +kernel) rfl) no_X9_warmest (by decide) hcs dL_law_671 (Nat.le_of_ble_eq_true rfl) cD ?_
  rintro _ h1 ⟨rfl, I1, F1⟩
  refine k_aload_n 2 dL_law_674 rfl ?_
  refine k_aload_n 0 dL_law_675 rfl ?_
  refine k_iload_n 3 dL_law_676 rfl ?_
  refine k_iconst (v := nI 1) dL_law_677 rfl ?_
  refine k_iadd dL_law_678 ?_
  refine k_sld (j := j + 1) (nI_add _ _) (kz_le hj (by decide)) hL dL_law_679 ?_
  refine k_aload_n 0 dL_law_680 rfl ?_
  refine k_iload_n 3 dL_law_681 rfl ?_
  refine k_iconst (v := nI 2) dL_law_682 rfl ?_
  refine k_iadd dL_law_683 ?_
  refine k_sld (j := j + 2) (nI_add _ _) (kz_le hj (by decide)) hL dL_law_684 ?_
  refine k_callD (Mc := mX10_warmest) (C := RX10) (ci := 10) (k := 85) (d := 9) (as := [.int (xs (j + 1)), .int (xs (j + 2))]) (st := [.int v]) kp_85 (by decide) rfl rfl (td_in 1379 (by decide +kernel) rfl) (td_in 1380 (by decide +kernel) rfl) (td_in 1381 (by decide +kernel) rfl) (td_in 117 (by decide +kernel) rfl) (td_in 1382 (by decide +kernel) rfl) no_X10_warmest (by decide) hcs dL_law_685 (Nat.le_of_ble_eq_true rfl) (cM h1 (J.fm F1)) ?_
  rintro _ h2 ⟨rfl, J2, F2⟩
  exact k_icmp_eq (tgt := 1000) dL_law_688 (by decide) (fun _ => nx s' h2 (I1.fd F2) J2) (fun z => absurd rfl z)
theorem lwc_17 (hj : j + 6 ≤ Ln) (hL : Ln ≤ 3072) (hcs : cc ≤ room_1.cells ∧ sl ≤ room_1.slots) (I : DI s h) (J : MI s h) (nx : ∀ s' h', DI s' h' → MI s' h' → k_J G room_1 mL_law (lwC G b Ln xs) Qf 1000 (lwL G b j) [] (td_ws G h') cc sl) : k_J G room_1 mL_law (lwC G b Ln xs) Qf 693 (lwL G b j) [] (td_ws G h) cc sl := by
  obtain ⟨v, s', cD, cM⟩ := p_orders (G := G) ((xs (j + 1))) ((xs (j + 2))) I
  refine k_aload_n 1 dL_law_693 rfl ?_
  refine k_aload_n 0 dL_law_694 rfl ?_
  refine k_iload_n 3 dL_law_695 rfl ?_
  refine k_iconst (v := nI 1) dL_law_696 rfl ?_
  refine k_iadd dL_law_697 ?_
  refine k_sld (j := j + 1) (nI_add _ _) (kz_le hj (by decide)) hL dL_law_698 ?_
  refine k_aload_n 0 dL_law_699 rfl ?_
  refine k_iload_n 3 dL_law_700 rfl ?_
  refine k_iconst (v := nI 2) dL_law_701 rfl ?_
  refine k_iadd dL_law_702 ?_
  refine k_sld (j := j + 2) (nI_add _ _) (kz_le hj (by decide)) hL dL_law_703 ?_
  refine k_callD (Mc := mX9_orders) (C := RX9) (ci := 9) (k := 0) (d := 9) (as := [.int (xs (j + 1)), .int (xs (j + 2))]) (st := []) kp_0 (by decide) rfl rfl (td_in 946 (by decide +kernel) rfl) (td_in 947 (by decide +kernel) rfl) (td_in 948 (by decide +kernel) rfl) (td_in 106 (by decide +kernel) rfl) (td_in 949 (by decide +kernel) rfl) no_X9_orders (by decide) hcs dL_law_704 (Nat.le_of_ble_eq_true rfl) cD ?_
  rintro _ h1 ⟨rfl, I1, F1⟩
  refine k_aload_n 2 dL_law_707 rfl ?_
  refine k_aload_n 0 dL_law_708 rfl ?_
  refine k_iload_n 3 dL_law_709 rfl ?_
  refine k_iconst (v := nI 1) dL_law_710 rfl ?_
  refine k_iadd dL_law_711 ?_
  refine k_sld (j := j + 1) (nI_add _ _) (kz_le hj (by decide)) hL dL_law_712 ?_
  refine k_aload_n 0 dL_law_713 rfl ?_
  refine k_iload_n 3 dL_law_714 rfl ?_
  refine k_iconst (v := nI 2) dL_law_715 rfl ?_
  refine k_iadd dL_law_716 ?_
  refine k_sld (j := j + 2) (nI_add _ _) (kz_le hj (by decide)) hL dL_law_717 ?_
  refine k_callD (Mc := mX10_orders) (C := RX10) (ci := 10) (k := 85) (d := 9) (as := [.int (xs (j + 1)), .int (xs (j + 2))]) (st := [.int v]) kp_85 (by decide) rfl rfl (td_in 1383 (by decide +kernel) rfl) (td_in 1384 (by decide +kernel) rfl) (td_in 1385 (by decide +kernel) rfl) (td_in 117 (by decide +kernel) rfl) (td_in 1386 (by decide +kernel) rfl) no_X10_orders (by decide) hcs dL_law_718 (Nat.le_of_ble_eq_true rfl) (cM h1 (J.fm F1)) ?_
  rintro _ h2 ⟨rfl, J2, F2⟩
  exact k_icmp_eq (tgt := 1000) dL_law_721 (by decide) (fun _ => nx s' h2 (I1.fd F2) J2) (fun z => absurd rfl z)
theorem lwc_18 (hj : j + 6 ≤ Ln) (hL : Ln ≤ 3072) (hcs : cc ≤ room_1.cells ∧ sl ≤ room_1.slots) (I : DI s h) (J : MI s h) (nx : ∀ s' h', DI s' h' → MI s' h' → k_J G room_1 mL_law (lwC G b Ln xs) Qf 1000 (lwL G b j) [] (td_ws G h') cc sl) : k_J G room_1 mL_law (lwC G b Ln xs) Qf 726 (lwL G b j) [] (td_ws G h) cc sl := by
  obtain ⟨v, s', cD, cM⟩ := p_times (G := G) ((xs (j + 1))) ((xs (j + 2))) ((xs (j + 3))) ((xs (j + 4))) ((xs (j + 5))) I
  refine k_aload_n 1 dL_law_726 rfl ?_
  refine k_aload_n 0 dL_law_727 rfl ?_
  refine k_iload_n 3 dL_law_728 rfl ?_
  refine k_iconst (v := nI 1) dL_law_729 rfl ?_
  refine k_iadd dL_law_730 ?_
  refine k_sld (j := j + 1) (nI_add _ _) (kz_le hj (by decide)) hL dL_law_731 ?_
  refine k_aload_n 0 dL_law_732 rfl ?_
  refine k_iload_n 3 dL_law_733 rfl ?_
  refine k_iconst (v := nI 2) dL_law_734 rfl ?_
  refine k_iadd dL_law_735 ?_
  refine k_sld (j := j + 2) (nI_add _ _) (kz_le hj (by decide)) hL dL_law_736 ?_
  refine k_aload_n 0 dL_law_737 rfl ?_
  refine k_iload_n 3 dL_law_738 rfl ?_
  refine k_iconst (v := nI 3) dL_law_739 rfl ?_
  refine k_iadd dL_law_740 ?_
  refine k_sld (j := j + 3) (nI_add _ _) (kz_le hj (by decide)) hL dL_law_741 ?_
  refine k_aload_n 0 dL_law_742 rfl ?_
  refine k_iload_n 3 dL_law_743 rfl ?_
  refine k_iconst (v := nI 4) dL_law_744 rfl ?_
  refine k_iadd dL_law_745 ?_
  refine k_sld (j := j + 4) (nI_add _ _) (kz_le hj (by decide)) hL dL_law_746 ?_
  refine k_aload_n 0 dL_law_747 rfl ?_
  refine k_iload_n 3 dL_law_748 rfl ?_
  refine k_iconst (v := nI 5) dL_law_749 rfl ?_
  refine k_iadd dL_law_750 ?_
  refine k_sld (j := j + 5) (nI_add _ _) (kz_le hj (by decide)) hL dL_law_751 ?_
  refine k_callD (Mc := mX9_times) (C := RX9) (ci := 9) (k := 0) (d := 9) (as := [.int (xs (j + 1)), .int (xs (j + 2)), .int (xs (j + 3)), .int (xs (j + 4)), .int (xs (j + 5))]) (st := []) kp_0 (by decide) rfl rfl (td_in 986 (by decide +kernel) rfl) (td_in 987 (by decide +kernel) rfl) (td_in 988 (by decide +kernel) rfl) (td_in 106 (by decide +kernel) rfl) (td_in 989 (by decide +kernel) rfl) no_X9_times (by decide) hcs dL_law_752 (Nat.le_of_ble_eq_true rfl) cD ?_
  rintro _ h1 ⟨rfl, I1, F1⟩
  refine k_aload_n 2 dL_law_755 rfl ?_
  refine k_aload_n 0 dL_law_756 rfl ?_
  refine k_iload_n 3 dL_law_757 rfl ?_
  refine k_iconst (v := nI 1) dL_law_758 rfl ?_
  refine k_iadd dL_law_759 ?_
  refine k_sld (j := j + 1) (nI_add _ _) (kz_le hj (by decide)) hL dL_law_760 ?_
  refine k_aload_n 0 dL_law_761 rfl ?_
  refine k_iload_n 3 dL_law_762 rfl ?_
  refine k_iconst (v := nI 2) dL_law_763 rfl ?_
  refine k_iadd dL_law_764 ?_
  refine k_sld (j := j + 2) (nI_add _ _) (kz_le hj (by decide)) hL dL_law_765 ?_
  refine k_aload_n 0 dL_law_766 rfl ?_
  refine k_iload_n 3 dL_law_767 rfl ?_
  refine k_iconst (v := nI 3) dL_law_768 rfl ?_
  refine k_iadd dL_law_769 ?_
  refine k_sld (j := j + 3) (nI_add _ _) (kz_le hj (by decide)) hL dL_law_770 ?_
  refine k_aload_n 0 dL_law_771 rfl ?_
  refine k_iload_n 3 dL_law_772 rfl ?_
  refine k_iconst (v := nI 4) dL_law_773 rfl ?_
  refine k_iadd dL_law_774 ?_
  refine k_sld (j := j + 4) (nI_add _ _) (kz_le hj (by decide)) hL dL_law_775 ?_
  refine k_aload_n 0 dL_law_776 rfl ?_
  refine k_iload_n 3 dL_law_777 rfl ?_
  refine k_iconst (v := nI 5) dL_law_778 rfl ?_
  refine k_iadd dL_law_779 ?_
  refine k_sld (j := j + 5) (nI_add _ _) (kz_le hj (by decide)) hL dL_law_780 ?_
  refine k_callD (Mc := mX10_times) (C := RX10) (ci := 10) (k := 85) (d := 9) (as := [.int (xs (j + 1)), .int (xs (j + 2)), .int (xs (j + 3)), .int (xs (j + 4)), .int (xs (j + 5))]) (st := [.int v]) kp_85 (by decide) rfl rfl (td_in 1396 (by decide +kernel) rfl) (td_in 1397 (by decide +kernel) rfl) (td_in 1398 (by decide +kernel) rfl) (td_in 117 (by decide +kernel) rfl) (td_in 1399 (by decide +kernel) rfl) no_X10_times (by decide) hcs dL_law_781 (Nat.le_of_ble_eq_true rfl) (cM h1 (J.fm F1)) ?_
  rintro _ h2 ⟨rfl, J2, F2⟩
  exact k_icmp_eq (tgt := 1000) dL_law_784 (by decide) (fun _ => nx s' h2 (I1.fd F2) J2) (fun z => absurd rfl z)
theorem lwc_19 (hj : j + 6 ≤ Ln) (hL : Ln ≤ 3072) (hcs : cc ≤ room_1.cells ∧ sl ≤ room_1.slots) (I : DI s h) (J : MI s h) (nx : ∀ s' h', DI s' h' → MI s' h' → k_J G room_1 mL_law (lwC G b Ln xs) Qf 1000 (lwL G b j) [] (td_ws G h') cc sl) : k_J G room_1 mL_law (lwC G b Ln xs) Qf 789 (lwL G b j) [] (td_ws G h) cc sl := by
  obtain ⟨v, s', cD, cM⟩ := p_without (G := G) ((xs (j + 1))) I
  refine k_aload_n 1 dL_law_789 rfl ?_
  refine k_aload_n 0 dL_law_790 rfl ?_
  refine k_iload_n 3 dL_law_791 rfl ?_
  refine k_iconst (v := nI 1) dL_law_792 rfl ?_
  refine k_iadd dL_law_793 ?_
  refine k_sld (j := j + 1) (nI_add _ _) (kz_le hj (by decide)) hL dL_law_794 ?_
  refine k_callD (Mc := mX9_without) (C := RX9) (ci := 9) (k := 0) (d := 9) (as := [.int (xs (j + 1))]) (st := []) kp_0 (by decide) rfl rfl (td_in 1024 (by decide +kernel) rfl) (td_in 1025 (by decide +kernel) rfl) (td_in 1026 (by decide +kernel) rfl) (td_in 106 (by decide +kernel) rfl) (td_in 1027 (by decide +kernel) rfl) no_X9_without (by decide) hcs dL_law_795 (Nat.le_of_ble_eq_true rfl) cD ?_
  rintro _ h1 ⟨rfl, I1, F1⟩
  refine k_aload_n 2 dL_law_798 rfl ?_
  refine k_aload_n 0 dL_law_799 rfl ?_
  refine k_iload_n 3 dL_law_800 rfl ?_
  refine k_iconst (v := nI 1) dL_law_801 rfl ?_
  refine k_iadd dL_law_802 ?_
  refine k_sld (j := j + 1) (nI_add _ _) (kz_le hj (by decide)) hL dL_law_803 ?_
  refine k_callD (Mc := mX10_without) (C := RX10) (ci := 10) (k := 85) (d := 9) (as := [.int (xs (j + 1))]) (st := [.int v]) kp_85 (by decide) rfl rfl (td_in 1409 (by decide +kernel) rfl) (td_in 1410 (by decide +kernel) rfl) (td_in 1411 (by decide +kernel) rfl) (td_in 117 (by decide +kernel) rfl) (td_in 1412 (by decide +kernel) rfl) no_X10_without (by decide) hcs dL_law_804 (Nat.le_of_ble_eq_true rfl) (cM h1 (J.fm F1)) ?_
  rintro _ h2 ⟨rfl, J2, F2⟩
  exact k_icmp_eq (tgt := 1000) dL_law_807 (by decide) (fun _ => nx s' h2 (I1.fd F2) J2) (fun z => absurd rfl z)
theorem lwc_20 (hj : j + 6 ≤ Ln) (hL : Ln ≤ 3072) (hcs : cc ≤ room_1.cells ∧ sl ≤ room_1.slots) (I : DI s h) (J : MI s h) (nx : ∀ s' h', DI s' h' → MI s' h' → k_J G room_1 mL_law (lwC G b Ln xs) Qf 1000 (lwL G b j) [] (td_ws G h') cc sl) : k_J G room_1 mL_law (lwC G b Ln xs) Qf 812 (lwL G b j) [] (td_ws G h) cc sl := by
  obtain ⟨v, s', cD, cM⟩ := p_image (G := G)  I
  refine k_aload_n 1 dL_law_812 rfl ?_
  refine k_callD (Mc := mX9_image) (C := RX9) (ci := 9) (k := 0) (d := 9) (as := []) (st := []) kp_0 (by decide) rfl rfl (td_in 1033 (by decide +kernel) rfl) (td_in 1034 (by decide +kernel) rfl) (td_in 1035 (by decide +kernel) rfl) (td_in 106 (by decide +kernel) rfl) (td_in 1036 (by decide +kernel) rfl) no_X9_image (by decide) hcs dL_law_813 (Nat.le_of_ble_eq_true rfl) cD ?_
  rintro _ h1 ⟨rfl, I1, F1⟩
  refine k_aload_n 2 dL_law_816 rfl ?_
  refine k_callD (Mc := mX10_image) (C := RX10) (ci := 10) (k := 85) (d := 9) (as := []) (st := [.int v]) kp_85 (by decide) rfl rfl (td_in 1414 (by decide +kernel) rfl) (td_in 1415 (by decide +kernel) rfl) (td_in 1416 (by decide +kernel) rfl) (td_in 117 (by decide +kernel) rfl) (td_in 1417 (by decide +kernel) rfl) no_X10_image (by decide) hcs dL_law_817 (Nat.le_of_ble_eq_true rfl) (cM h1 (J.fm F1)) ?_
  rintro _ h2 ⟨rfl, J2, F2⟩
  exact k_icmp_eq (tgt := 1000) dL_law_820 (by decide) (fun _ => nx s' h2 (I1.fd F2) J2) (fun z => absurd rfl z)
theorem lwc_21 (hj : j + 6 ≤ Ln) (hL : Ln ≤ 3072) (hcs : cc ≤ room_1.cells ∧ sl ≤ room_1.slots) (I : DI s h) (J : MI s h) (nx : ∀ s' h', DI s' h' → MI s' h' → k_J G room_1 mL_law (lwC G b Ln xs) Qf 1000 (lwL G b j) [] (td_ws G h') cc sl) : k_J G room_1 mL_law (lwC G b Ln xs) Qf 825 (lwL G b j) [] (td_ws G h) cc sl := by
  obtain ⟨v, s', cD, cM⟩ := p_restore (G := G)  I
  refine k_aload_n 1 dL_law_825 rfl ?_
  refine k_callD (Mc := mX9_restore) (C := RX9) (ci := 9) (k := 0) (d := 9) (as := []) (st := []) kp_0 (by decide) rfl rfl (td_in 1038 (by decide +kernel) rfl) (td_in 1039 (by decide +kernel) rfl) (td_in 1040 (by decide +kernel) rfl) (td_in 106 (by decide +kernel) rfl) (td_in 1041 (by decide +kernel) rfl) no_X9_restore (by decide) hcs dL_law_826 (Nat.le_of_ble_eq_true rfl) cD ?_
  rintro _ h1 ⟨rfl, I1, F1⟩
  refine k_aload_n 2 dL_law_829 rfl ?_
  refine k_callD (Mc := mX10_restore) (C := RX10) (ci := 10) (k := 85) (d := 9) (as := []) (st := [.int v]) kp_85 (by decide) rfl rfl (td_in 1418 (by decide +kernel) rfl) (td_in 1419 (by decide +kernel) rfl) (td_in 1420 (by decide +kernel) rfl) (td_in 117 (by decide +kernel) rfl) (td_in 1421 (by decide +kernel) rfl) no_X10_restore (by decide) hcs dL_law_830 (Nat.le_of_ble_eq_true rfl) (cM h1 (J.fm F1)) ?_
  rintro _ h2 ⟨rfl, J2, F2⟩
  exact k_icmp_eq (tgt := 1000) dL_law_833 (by decide) (fun _ => nx s' h2 (I1.fd F2) J2) (fun z => absurd rfl z)
theorem lwc_22 (hj : j + 6 ≤ Ln) (hL : Ln ≤ 3072) (hcs : cc ≤ room_1.cells ∧ sl ≤ room_1.slots) (I : DI s h) (J : MI s h) (nx : ∀ s' h', DI s' h' → MI s' h' → k_J G room_1 mL_law (lwC G b Ln xs) Qf 1000 (lwL G b j) [] (td_ws G h') cc sl) : k_J G room_1 mL_law (lwC G b Ln xs) Qf 838 (lwL G b j) [] (td_ws G h) cc sl := by
  obtain ⟨v, s', cD, cM⟩ := p_sheet (G := G) ((xs (j + 1))) ((xs (j + 2))) ((xs (j + 3))) I
  refine k_aload_n 1 dL_law_838 rfl ?_
  refine k_aload_n 0 dL_law_839 rfl ?_
  refine k_iload_n 3 dL_law_840 rfl ?_
  refine k_iconst (v := nI 1) dL_law_841 rfl ?_
  refine k_iadd dL_law_842 ?_
  refine k_sld (j := j + 1) (nI_add _ _) (kz_le hj (by decide)) hL dL_law_843 ?_
  refine k_aload_n 0 dL_law_844 rfl ?_
  refine k_iload_n 3 dL_law_845 rfl ?_
  refine k_iconst (v := nI 2) dL_law_846 rfl ?_
  refine k_iadd dL_law_847 ?_
  refine k_sld (j := j + 2) (nI_add _ _) (kz_le hj (by decide)) hL dL_law_848 ?_
  refine k_aload_n 0 dL_law_849 rfl ?_
  refine k_iload_n 3 dL_law_850 rfl ?_
  refine k_iconst (v := nI 3) dL_law_851 rfl ?_
  refine k_iadd dL_law_852 ?_
  refine k_sld (j := j + 3) (nI_add _ _) (kz_le hj (by decide)) hL dL_law_853 ?_
  refine k_callD (Mc := mX9_sheet) (C := RX9) (ci := 9) (k := 0) (d := 9) (as := [.int (xs (j + 1)), .int (xs (j + 2)), .int (xs (j + 3))]) (st := []) kp_0 (by decide) rfl rfl (td_in 1042 (by decide +kernel) rfl) (td_in 1043 (by decide +kernel) rfl) (td_in 1044 (by decide +kernel) rfl) (td_in 106 (by decide +kernel) rfl) (td_in 1045 (by decide +kernel) rfl) no_X9_sheet (by decide) hcs dL_law_854 (Nat.le_of_ble_eq_true rfl) cD ?_
  rintro _ h1 ⟨rfl, I1, F1⟩
  refine k_aload_n 2 dL_law_857 rfl ?_
  refine k_aload_n 0 dL_law_858 rfl ?_
  refine k_iload_n 3 dL_law_859 rfl ?_
  refine k_iconst (v := nI 1) dL_law_860 rfl ?_
  refine k_iadd dL_law_861 ?_
  refine k_sld (j := j + 1) (nI_add _ _) (kz_le hj (by decide)) hL dL_law_862 ?_
  refine k_aload_n 0 dL_law_863 rfl ?_
  refine k_iload_n 3 dL_law_864 rfl ?_
  refine k_iconst (v := nI 2) dL_law_865 rfl ?_
  refine k_iadd dL_law_866 ?_
  refine k_sld (j := j + 2) (nI_add _ _) (kz_le hj (by decide)) hL dL_law_867 ?_
  refine k_aload_n 0 dL_law_868 rfl ?_
  refine k_iload_n 3 dL_law_869 rfl ?_
  refine k_iconst (v := nI 3) dL_law_870 rfl ?_
  refine k_iadd dL_law_871 ?_
  refine k_sld (j := j + 3) (nI_add _ _) (kz_le hj (by decide)) hL dL_law_872 ?_
  refine k_callD (Mc := mX10_sheet) (C := RX10) (ci := 10) (k := 85) (d := 9) (as := [.int (xs (j + 1)), .int (xs (j + 2)), .int (xs (j + 3))]) (st := [.int v]) kp_85 (by decide) rfl rfl (td_in 1422 (by decide +kernel) rfl) (td_in 1423 (by decide +kernel) rfl) (td_in 1424 (by decide +kernel) rfl) (td_in 117 (by decide +kernel) rfl) (td_in 1425 (by decide +kernel) rfl) no_X10_sheet (by decide) hcs dL_law_873 (Nat.le_of_ble_eq_true rfl) (cM h1 (J.fm F1)) ?_
  rintro _ h2 ⟨rfl, J2, F2⟩
  exact k_icmp_eq (tgt := 1000) dL_law_876 (by decide) (fun _ => nx s' h2 (I1.fd F2) J2) (fun z => absurd rfl z)
theorem lwc_23 (hj : j + 6 ≤ Ln) (hL : Ln ≤ 3072) (hcs : cc ≤ room_1.cells ∧ sl ≤ room_1.slots) (I : DI s h) (J : MI s h) (nx : ∀ s' h', DI s' h' → MI s' h' → k_J G room_1 mL_law (lwC G b Ln xs) Qf 1000 (lwL G b j) [] (td_ws G h') cc sl) : k_J G room_1 mL_law (lwC G b Ln xs) Qf 881 (lwL G b j) [] (td_ws G h) cc sl := by
  obtain ⟨v, s', cD, cM⟩ := p_drop (G := G) ((xs (j + 1))) I
  refine k_aload_n 1 dL_law_881 rfl ?_
  refine k_aload_n 0 dL_law_882 rfl ?_
  refine k_iload_n 3 dL_law_883 rfl ?_
  refine k_iconst (v := nI 1) dL_law_884 rfl ?_
  refine k_iadd dL_law_885 ?_
  refine k_sld (j := j + 1) (nI_add _ _) (kz_le hj (by decide)) hL dL_law_886 ?_
  refine k_callD (Mc := mX9_drop) (C := RX9) (ci := 9) (k := 0) (d := 9) (as := [.int (xs (j + 1))]) (st := []) kp_0 (by decide) rfl rfl (td_in 1050 (by decide +kernel) rfl) (td_in 1051 (by decide +kernel) rfl) (td_in 1052 (by decide +kernel) rfl) (td_in 106 (by decide +kernel) rfl) (td_in 1053 (by decide +kernel) rfl) no_X9_drop (by decide) hcs dL_law_887 (Nat.le_of_ble_eq_true rfl) cD ?_
  rintro _ h1 ⟨rfl, I1, F1⟩
  refine k_aload_n 2 dL_law_890 rfl ?_
  refine k_aload_n 0 dL_law_891 rfl ?_
  refine k_iload_n 3 dL_law_892 rfl ?_
  refine k_iconst (v := nI 1) dL_law_893 rfl ?_
  refine k_iadd dL_law_894 ?_
  refine k_sld (j := j + 1) (nI_add _ _) (kz_le hj (by decide)) hL dL_law_895 ?_
  refine k_callD (Mc := mX10_drop) (C := RX10) (ci := 10) (k := 85) (d := 9) (as := [.int (xs (j + 1))]) (st := [.int v]) kp_85 (by decide) rfl rfl (td_in 1426 (by decide +kernel) rfl) (td_in 1427 (by decide +kernel) rfl) (td_in 1428 (by decide +kernel) rfl) (td_in 117 (by decide +kernel) rfl) (td_in 1429 (by decide +kernel) rfl) no_X10_drop (by decide) hcs dL_law_896 (Nat.le_of_ble_eq_true rfl) (cM h1 (J.fm F1)) ?_
  rintro _ h2 ⟨rfl, J2, F2⟩
  exact k_icmp_eq (tgt := 1000) dL_law_899 (by decide) (fun _ => nx s' h2 (I1.fd F2) J2) (fun z => absurd rfl z)
theorem lwc_24 (hj : j + 6 ≤ Ln) (hL : Ln ≤ 3072) (hcs : cc ≤ room_1.cells ∧ sl ≤ room_1.slots) (I : DI s h) (J : MI s h) (nx : ∀ s' h', DI s' h' → MI s' h' → k_J G room_1 mL_law (lwC G b Ln xs) Qf 1000 (lwL G b j) [] (td_ws G h') cc sl) : k_J G room_1 mL_law (lwC G b Ln xs) Qf 904 (lwL G b j) [] (td_ws G h) cc sl := by
  obtain ⟨v, s', cD, cM⟩ := p_item (G := G) ((xs (j + 1))) ((xs (j + 2))) ((xs (j + 3))) ((xs (j + 4))) I
  refine k_aload_n 1 dL_law_904 rfl ?_
  refine k_aload_n 0 dL_law_905 rfl ?_
  refine k_iload_n 3 dL_law_906 rfl ?_
  refine k_iconst (v := nI 1) dL_law_907 rfl ?_
  refine k_iadd dL_law_908 ?_
  refine k_sld (j := j + 1) (nI_add _ _) (kz_le hj (by decide)) hL dL_law_909 ?_
  refine k_aload_n 0 dL_law_910 rfl ?_
  refine k_iload_n 3 dL_law_911 rfl ?_
  refine k_iconst (v := nI 2) dL_law_912 rfl ?_
  refine k_iadd dL_law_913 ?_
  refine k_sld (j := j + 2) (nI_add _ _) (kz_le hj (by decide)) hL dL_law_914 ?_
  refine k_aload_n 0 dL_law_915 rfl ?_
  refine k_iload_n 3 dL_law_916 rfl ?_
  refine k_iconst (v := nI 3) dL_law_917 rfl ?_
  refine k_iadd dL_law_918 ?_
  refine k_sld (j := j + 3) (nI_add _ _) (kz_le hj (by decide)) hL dL_law_919 ?_
  refine k_aload_n 0 dL_law_920 rfl ?_
  refine k_iload_n 3 dL_law_921 rfl ?_
  refine k_iconst (v := nI 4) dL_law_922 rfl ?_
  refine k_iadd dL_law_923 ?_
  refine k_sld (j := j + 4) (nI_add _ _) (kz_le hj (by decide)) hL dL_law_924 ?_
  refine k_callD (Mc := mX9_item) (C := RX9) (ci := 9) (k := 0) (d := 9) (as := [.int (xs (j + 1)), .int (xs (j + 2)), .int (xs (j + 3)), .int (xs (j + 4))]) (st := []) kp_0 (by decide) rfl rfl (td_in 1059 (by decide +kernel) rfl) (td_in 1060 (by decide +kernel) rfl) (td_in 1061 (by decide +kernel) rfl) (td_in 106 (by decide +kernel) rfl) (td_in 1062 (by decide +kernel) rfl) no_X9_item (by decide) hcs dL_law_925 (Nat.le_of_ble_eq_true rfl) cD ?_
  rintro _ h1 ⟨rfl, I1, F1⟩
  refine k_aload_n 2 dL_law_928 rfl ?_
  refine k_aload_n 0 dL_law_929 rfl ?_
  refine k_iload_n 3 dL_law_930 rfl ?_
  refine k_iconst (v := nI 1) dL_law_931 rfl ?_
  refine k_iadd dL_law_932 ?_
  refine k_sld (j := j + 1) (nI_add _ _) (kz_le hj (by decide)) hL dL_law_933 ?_
  refine k_aload_n 0 dL_law_934 rfl ?_
  refine k_iload_n 3 dL_law_935 rfl ?_
  refine k_iconst (v := nI 2) dL_law_936 rfl ?_
  refine k_iadd dL_law_937 ?_
  refine k_sld (j := j + 2) (nI_add _ _) (kz_le hj (by decide)) hL dL_law_938 ?_
  refine k_aload_n 0 dL_law_939 rfl ?_
  refine k_iload_n 3 dL_law_940 rfl ?_
  refine k_iconst (v := nI 3) dL_law_941 rfl ?_
  refine k_iadd dL_law_942 ?_
  refine k_sld (j := j + 3) (nI_add _ _) (kz_le hj (by decide)) hL dL_law_943 ?_
  refine k_aload_n 0 dL_law_944 rfl ?_
  refine k_iload_n 3 dL_law_945 rfl ?_
  refine k_iconst (v := nI 4) dL_law_946 rfl ?_
  refine k_iadd dL_law_947 ?_
  refine k_sld (j := j + 4) (nI_add _ _) (kz_le hj (by decide)) hL dL_law_948 ?_
  refine k_callD (Mc := mX10_item) (C := RX10) (ci := 10) (k := 85) (d := 9) (as := [.int (xs (j + 1)), .int (xs (j + 2)), .int (xs (j + 3)), .int (xs (j + 4))]) (st := [.int v]) kp_85 (by decide) rfl rfl (td_in 1430 (by decide +kernel) rfl) (td_in 1431 (by decide +kernel) rfl) (td_in 1432 (by decide +kernel) rfl) (td_in 117 (by decide +kernel) rfl) (td_in 1433 (by decide +kernel) rfl) no_X10_item (by decide) hcs dL_law_949 (Nat.le_of_ble_eq_true rfl) (cM h1 (J.fm F1)) ?_
  rintro _ h2 ⟨rfl, J2, F2⟩
  exact k_icmp_eq (tgt := 1000) dL_law_952 (by decide) (fun _ => nx s' h2 (I1.fd F2) J2) (fun z => absurd rfl z)
theorem lwc_25 (hj : j + 6 ≤ Ln) (hL : Ln ≤ 3072) (hcs : cc ≤ room_1.cells ∧ sl ≤ room_1.slots) (I : DI s h) (J : MI s h) (nx : ∀ s' h', DI s' h' → MI s' h' → k_J G room_1 mL_law (lwC G b Ln xs) Qf 1000 (lwL G b j) [] (td_ws G h') cc sl) : k_J G room_1 mL_law (lwC G b Ln xs) Qf 957 (lwL G b j) [] (td_ws G h) cc sl := by
  obtain ⟨v, s', cD, cM⟩ := p_film (G := G) ((xs (j + 1))) ((xs (j + 2))) ((xs (j + 3))) I
  refine k_aload_n 1 dL_law_957 rfl ?_
  refine k_aload_n 0 dL_law_958 rfl ?_
  refine k_iload_n 3 dL_law_959 rfl ?_
  refine k_iconst (v := nI 1) dL_law_960 rfl ?_
  refine k_iadd dL_law_961 ?_
  refine k_sld (j := j + 1) (nI_add _ _) (kz_le hj (by decide)) hL dL_law_962 ?_
  refine k_aload_n 0 dL_law_963 rfl ?_
  refine k_iload_n 3 dL_law_964 rfl ?_
  refine k_iconst (v := nI 2) dL_law_965 rfl ?_
  refine k_iadd dL_law_966 ?_
  refine k_sld (j := j + 2) (nI_add _ _) (kz_le hj (by decide)) hL dL_law_967 ?_
  refine k_aload_n 0 dL_law_968 rfl ?_
  refine k_iload_n 3 dL_law_969 rfl ?_
  refine k_iconst (v := nI 3) dL_law_970 rfl ?_
  refine k_iadd dL_law_971 ?_
  refine k_sld (j := j + 3) (nI_add _ _) (kz_le hj (by decide)) hL dL_law_972 ?_
  refine k_callD (Mc := mX9_film) (C := RX9) (ci := 9) (k := 0) (d := 9) (as := [.int (xs (j + 1)), .int (xs (j + 2)), .int (xs (j + 3))]) (st := []) kp_0 (by decide) rfl rfl (td_in 1067 (by decide +kernel) rfl) (td_in 1068 (by decide +kernel) rfl) (td_in 1069 (by decide +kernel) rfl) (td_in 106 (by decide +kernel) rfl) (td_in 1070 (by decide +kernel) rfl) no_X9_film (by decide) hcs dL_law_973 (Nat.le_of_ble_eq_true rfl) cD ?_
  rintro _ h1 ⟨rfl, I1, F1⟩
  refine k_aload_n 2 dL_law_976 rfl ?_
  refine k_aload_n 0 dL_law_977 rfl ?_
  refine k_iload_n 3 dL_law_978 rfl ?_
  refine k_iconst (v := nI 1) dL_law_979 rfl ?_
  refine k_iadd dL_law_980 ?_
  refine k_sld (j := j + 1) (nI_add _ _) (kz_le hj (by decide)) hL dL_law_981 ?_
  refine k_aload_n 0 dL_law_982 rfl ?_
  refine k_iload_n 3 dL_law_983 rfl ?_
  refine k_iconst (v := nI 2) dL_law_984 rfl ?_
  refine k_iadd dL_law_985 ?_
  refine k_sld (j := j + 2) (nI_add _ _) (kz_le hj (by decide)) hL dL_law_986 ?_
  refine k_aload_n 0 dL_law_987 rfl ?_
  refine k_iload_n 3 dL_law_988 rfl ?_
  refine k_iconst (v := nI 3) dL_law_989 rfl ?_
  refine k_iadd dL_law_990 ?_
  refine k_sld (j := j + 3) (nI_add _ _) (kz_le hj (by decide)) hL dL_law_991 ?_
  refine k_callD (Mc := mX10_film) (C := RX10) (ci := 10) (k := 85) (d := 9) (as := [.int (xs (j + 1)), .int (xs (j + 2)), .int (xs (j + 3))]) (st := [.int v]) kp_85 (by decide) rfl rfl (td_in 1437 (by decide +kernel) rfl) (td_in 1438 (by decide +kernel) rfl) (td_in 1439 (by decide +kernel) rfl) (td_in 117 (by decide +kernel) rfl) (td_in 1440 (by decide +kernel) rfl) no_X10_film (by decide) hcs dL_law_992 (Nat.le_of_ble_eq_true rfl) (cM h1 (J.fm F1)) ?_
  rintro _ h2 ⟨rfl, J2, F2⟩
  exact k_icmp_eq (tgt := 1000) dL_law_995 (by decide) (fun _ => nx s' h2 (I1.fd F2) J2) (fun z => absurd rfl z)
end LW
