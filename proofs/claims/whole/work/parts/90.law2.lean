/-! ===== the law's loop, case by case ===== -/
section WWK1
variable {g : ww_G} {M M1 M2 M3 : ww_M} {mo ol : Nat} {ar : Nat → Nat} {c : Nat → Nat} {b b' d kc ks : Nat} {S S1 S2 : Nat → Nat → Int32} {code : Int32} {Q : Option Value → ww_M → Prop} {X : String → ww_M → Prop}
theorem ww_more {Y : ww_Yd} {pc k1 s1 : Nat} {lv : List (Nat × Value)} {st : List Value} (k : ww_A g Y d k1 s1 M pc lv st Q X) (hk : k1 ≤ kc) (hs : s1 ≤ ks) : ww_A g Y d kc ks M pc lv st Q X := fun p l e R s m args below meth c H locs cells slots mc ms ls C B hl hH hS => k p l e R s m args below meth c H locs cells slots mc ms ls C ⟨Nat.le_trans (Nat.add_le_add_left hk cells) B.1, Nat.le_trans (Nat.add_le_add_left hs slots) B.2.1, B.2.2⟩ hl hH hS
theorem ww_cmp_s {x : Int64} : lg_cmp x x = 0 := by simp [lg_cmp]
theorem ww_J (k1 : ww_mc g c b' S2 M2) (k2 : ww_mm mo ar ol c S M2) (hu : ww_up mo ar M2 S1 M3) : ww_mc g c b' S2 M3 ∧ ww_mm mo ar ol c S1 M3 ∧ ww_Z M3 = ww_Z M2 := by
  obtain ⟨ea, P, W, kl, f, z, D, E, n, u, w, m, h1, h2⟩ := k1
  have t := ww_up_ft k2.1.1 hu
  have hL : ww_L M3 = ww_L M2 := by unfold ww_L; rw [hu.1]
  refine ⟨⟨ea, P, W, kl, f, z, D, E, n, u, w, m, ww_rc_ft h1 t (fun _ z => z) (fun y hy ⟨k, hk, e⟩ => ?_) (by rw [hL]; exact h1.2.2.2.2.2.2), h2⟩, ⟨⟨ww_up_mo k2.1.1 hu, hu.2.2.2.2.2.2⟩, ⟨by rw [hu.1]; exact k2.2.1.1, by unfold ww_N; rw [hu.1]; exact k2.2.1.2⟩, k2.2.2⟩, hu.2.2.2.1⟩
  have e1 : ww_K M2 (ar k) = ww_mk k := (k2.1.1.2.2.1 k hk).1.2
  have e2 : ww_mk k ≤ 10 := by
    unfold ww_mk
    split <;> decide
  rw [e]
  omega
theorem ww_thrn (k1 : ww_mc g c b' S2 M3) (k2 : ww_mm mo ar ol c S2 M3) (hc : S2 0 0 = code) : ww_C g wy_X7_thrown 1 0 0 [.ref mo] M3 (fun v M4 => v = some (.int code) ∧ ww_mc g c b' S2 M4 ∧ ww_mm mo ar ol c S2 M4 ∧ ww_Z M4 = ww_Z M3) ww_no := by
  obtain ⟨ea, P, W, kl, f, z, D, E, n, u, w, m, h1, h2⟩ := id k1
  have hG : q_G (q_S M3 mo ar) n := by rw [k2.1.2]; exact h2.1
  refine ww_C_mono (m_thrown (g := g) k2.1.1 hG) (fun v M' h => ?_) (fun _ _ h => h)
  obtain ⟨rfl, hu⟩ := h
  obtain ⟨j1, j2, j3⟩ := ww_J k1 k2 hu
  rw [k2.1.2] at j2 ⊢
  exact ⟨by rw [hc], j1, j2, j3⟩
set_option maxRecDepth 20000 in
theorem law_part (h : ww_mc g c b S M) (hm : ww_mm mo ar ol c S M) (hb : b < 512) (hL : 5 * b + 5 ≤ ww_gl g) (hgl : ww_gl g ≤ 2560) (hd : 16 ≤ d) (hkc : 10 ≤ kc) (hks : 1100 ≤ ks) (kk : ∀ M' S', ww_mc g c (b + 1) S' M' → ww_mm mo ar ol c S' M' → ww_A g wy_L_law d (kc - 10) (ks - 1100) M' 2013 [(0, .ref (ww_gb g)), (1, .ref (c 0)), (2, .ref mo), (3, .ref ol), (4, .int (nI (5 * b)))] [] Q X) : ww_A g wy_L_law d kc ks M 176 [(0, .ref (ww_gb g)), (1, .ref (c 0)), (2, .ref mo), (3, .ref ol), (4, .int (nI (5 * b)))] [] Q X := by
  obtain ⟨ea, P, W, kl, f, z, D, E, n, u, w, m, hr, H⟩ := h
  have e1 : nI (5 * b) + 1 = nI (5 * b + 1) := by rw [show (1 : Int32) = nI 1 from by decide, nI_add]
  have e2 : nI (5 * b) + 2 = nI (5 * b + 2) := by rw [show (2 : Int32) = nI 2 from by decide, nI_add]
  have e3 : nI (5 * b) + 3 = nI (5 * b + 3) := by rw [show (3 : Int32) = nI 3 from by decide, nI_add]
  have e4 : nI (5 * b) + 4 = nI (5 * b + 4) := by rw [show (4 : Int32) = nI 4 from by decide, nI_add]
  obtain ⟨code, r, r2, S2, dm, hdm, hL1, hY, hc, hr2⟩ := sp_part hr H hm hb (ww_gx g (5 * b + 1)) (ww_gx g (5 * b + 2)) (ww_gx g (5 * b + 3))
  refine ww_aload_n (i := 1) dL_law_176 rfl rfl ?_
  refine ww_aload_n (i := 0) dL_law_177 rfl rfl ?_
  refine ww_iload (i := 4) dL_law_178 rfl ?_
  refine ww_iconst (v := 1) dL_law_180 (by decide) ?_
  refine ww_iadd dL_law_181 ?_
  refine ww_sld dL_law_182 e1 (by omega) (by omega) ?_
  refine ww_aload_n (i := 0) dL_law_183 rfl rfl ?_
  refine ww_iload (i := 4) dL_law_184 rfl ?_
  refine ww_iconst (v := 2) dL_law_186 (by decide) ?_
  refine ww_iadd dL_law_187 ?_
  refine ww_sld dL_law_188 e2 (by omega) (by omega) ?_
  refine ww_aload_n (i := 0) dL_law_189 rfl rfl ?_
  refine ww_iload (i := 4) dL_law_190 rfl ?_
  refine ww_iconst (v := 3) dL_law_192 (by decide) ?_
  refine ww_iadd dL_law_193 ?_
  refine ww_sld dL_law_194 e3 (by omega) (by omega) ?_
  refine ww_aload_n (i := 3) dL_law_195 rfl rfl ?_
  refine ww_callSH wk_L_115 rfl dL_law_196 hL1 rfl rfl (by omega) hkc hks (Nat.le_of_ble_eq_true rfl) rfl (fun E M9 h9 => h9.elim) (fun v9 M2 h9 => ?_)
  obtain ⟨rfl, k1, k2, k3⟩ := h9
  refine ww_istore (i := 5) (lv2 := [(0, _), (1, _), (2, _), (3, _), (4, _), (5, _)]) dL_law_199 (Nat.le_of_ble_eq_true rfl) rfl ?_
  refine ww_aload_n (i := 2) dL_law_201 rfl rfl ?_
  refine ww_aload_n (i := 0) dL_law_202 rfl rfl ?_
  refine ww_iload (i := 4) dL_law_203 rfl ?_
  refine ww_iconst (v := 1) dL_law_205 (by decide) ?_
  refine ww_iadd dL_law_206 ?_
  refine ww_sld dL_law_207 e1 (by omega) (by omega) ?_
  refine ww_aload_n (i := 0) dL_law_208 rfl rfl ?_
  refine ww_iload (i := 4) dL_law_209 rfl ?_
  refine ww_iconst (v := 2) dL_law_211 (by decide) ?_
  refine ww_iadd dL_law_212 ?_
  refine ww_sld dL_law_213 e2 (by omega) (by omega) ?_
  refine ww_aload_n (i := 0) dL_law_214 rfl rfl ?_
  refine ww_iload (i := 4) dL_law_215 rfl ?_
  refine ww_iconst (v := 3) dL_law_217 (by decide) ?_
  refine ww_iadd dL_law_218 ?_
  refine ww_sld dL_law_219 e3 (by omega) (by omega) ?_
  refine ww_callV (κ := 8) (r := (RX7, TX7, 33)) wk_L_120 dL_law_220 (hY M2 k2.1.1 k2.1.2) rfl rfl k2.1.1.1.1 k2.1.1.1.2 rfl rfl (by omega) (Nat.zero_le _) (Nat.zero_le _) (Nat.le_of_ble_eq_true rfl) rfl (fun E M9 h9 => h9.elim) (fun v9 M3 h9 => ?_)
  obtain ⟨rfl, hu⟩ := h9
  obtain ⟨j1, j2, j3⟩ := ww_J k1 k2 hu
  refine ww_istore (i := 6) (lv2 := [(0, _), (1, _), (2, _), (3, _), (4, _), (5, _), (6, _)]) dL_law_223 (Nat.le_of_ble_eq_true rfl) rfl ?_
  refine ww_aload_n (i := 2) dL_law_225 rfl rfl ?_
  refine ww_callV (κ := 8) (r := (RX7, TX7, 33)) wk_L_121 dL_law_226 (ww_thrn j1 j2 hc) rfl rfl j2.1.1.1.1 j2.1.1.1.2 rfl rfl (by omega) (Nat.zero_le _) (Nat.zero_le _) (Nat.le_of_ble_eq_true rfl) rfl (fun E M9 h9 => h9.elim) (fun v9 M4 h9 => ?_)
  obtain ⟨rfl, i1, i2, i3⟩ := h9
  refine ww_iload (i := 5) dL_law_229 rfl ?_
  refine ww_icmp_eq_t (tgt := 236) dL_law_231 (by decide) rfl ?_
  refine ww_iload (i := 5) dL_law_236 rfl ?_
  by_cases hcd : code = 0
  · refine ww_if_ne_f (tgt := 253) dL_law_238 (by decide) hcd ?_
    obtain ⟨rfl, hB⟩ := hr2 hcd
    have ez : ww_Z M4 ol 0 = r2.toInt64 := by rw [i3, j3]; exact k3 trivial hcd
    refine ww_aload_n (i := 3) dL_law_241 rfl rfl ?_
    refine ww_iconst (v := 0) dL_law_242 (by decide) ?_
    refine ww_lald (j := 0) dL_law_243 i2.2.1.1.1 i2.2.1.1.2 nI_0.symm (by rw [i2.2.1.2]; decide) (by rw [i2.2.1.2]; decide) ?_
    rw [ez]
    refine ww_iload (i := 6) dL_law_244 rfl ?_
    refine ww_i2l dL_law_246 ?_
    refine ww_lcmp dL_law_247 ?_
    refine ww_if_eq_t (tgt := 253) dL_law_248 (by decide) ww_cmp_s ?_
    refine ww_goto (tgt := 2013) dL_law_253 (by decide) ?_
    exact ww_subk (kk M4 S2 i1 i2) ⟨rfl, rfl, rfl, rfl, rfl, trivial⟩
  · refine ww_if_ne_t (tgt := 253) dL_law_238 (by decide) hcd ?_
    refine ww_goto (tgt := 2013) dL_law_253 (by decide) ?_
    exact ww_subk (kk M4 S2 i1 i2) ⟨rfl, rfl, rfl, rfl, rfl, trivial⟩
set_option maxRecDepth 20000 in
theorem law_limits (h : ww_mc g c b S M) (hm : ww_mm mo ar ol c S M) (hb : b < 512) (hL : 5 * b + 5 ≤ ww_gl g) (hgl : ww_gl g ≤ 2560) (hd : 16 ≤ d) (hkc : 10 ≤ kc) (hks : 1100 ≤ ks) (kk : ∀ M' S', ww_mc g c (b + 1) S' M' → ww_mm mo ar ol c S' M' → ww_A g wy_L_law d (kc - 10) (ks - 1100) M' 2013 [(0, .ref (ww_gb g)), (1, .ref (c 0)), (2, .ref mo), (3, .ref ol), (4, .int (nI (5 * b)))] [] Q X) : ww_A g wy_L_law d kc ks M 256 [(0, .ref (ww_gb g)), (1, .ref (c 0)), (2, .ref mo), (3, .ref ol), (4, .int (nI (5 * b)))] [] Q X := by
  obtain ⟨ea, P, W, kl, f, z, D, E, n, u, w, m, hr, H⟩ := h
  have e1 : nI (5 * b) + 1 = nI (5 * b + 1) := by rw [show (1 : Int32) = nI 1 from by decide, nI_add]
  have e2 : nI (5 * b) + 2 = nI (5 * b + 2) := by rw [show (2 : Int32) = nI 2 from by decide, nI_add]
  have e3 : nI (5 * b) + 3 = nI (5 * b + 3) := by rw [show (3 : Int32) = nI 3 from by decide, nI_add]
  have e4 : nI (5 * b) + 4 = nI (5 * b + 4) := by rw [show (4 : Int32) = nI 4 from by decide, nI_add]
  obtain ⟨code, r, r2, S2, dm, hdm, hL1, hY, hc, hr2⟩ := sp_limits hr H hm hb (ww_gx g (5 * b + 1)) (ww_gx g (5 * b + 2)) (ww_gx g (5 * b + 3)) (ww_gx g (5 * b + 4))
  refine ww_aload_n (i := 1) dL_law_256 rfl rfl ?_
  refine ww_aload_n (i := 0) dL_law_257 rfl rfl ?_
  refine ww_iload (i := 4) dL_law_258 rfl ?_
  refine ww_iconst (v := 1) dL_law_260 (by decide) ?_
  refine ww_iadd dL_law_261 ?_
  refine ww_sld dL_law_262 e1 (by omega) (by omega) ?_
  refine ww_aload_n (i := 0) dL_law_263 rfl rfl ?_
  refine ww_iload (i := 4) dL_law_264 rfl ?_
  refine ww_iconst (v := 2) dL_law_266 (by decide) ?_
  refine ww_iadd dL_law_267 ?_
  refine ww_sld dL_law_268 e2 (by omega) (by omega) ?_
  refine ww_aload_n (i := 0) dL_law_269 rfl rfl ?_
  refine ww_iload (i := 4) dL_law_270 rfl ?_
  refine ww_iconst (v := 3) dL_law_272 (by decide) ?_
  refine ww_iadd dL_law_273 ?_
  refine ww_sld dL_law_274 e3 (by omega) (by omega) ?_
  refine ww_aload_n (i := 0) dL_law_275 rfl rfl ?_
  refine ww_iload (i := 4) dL_law_276 rfl ?_
  refine ww_iconst (v := 4) dL_law_278 (by decide) ?_
  refine ww_iadd dL_law_279 ?_
  refine ww_sld dL_law_280 e4 (by omega) (by omega) ?_
  refine ww_aload_n (i := 3) dL_law_281 rfl rfl ?_
  refine ww_callSH wk_L_124 rfl dL_law_282 hL1 rfl rfl (by omega) hkc hks (Nat.le_of_ble_eq_true rfl) rfl (fun E M9 h9 => h9.elim) (fun v9 M2 h9 => ?_)
  obtain ⟨rfl, k1, k2, k3⟩ := h9
  refine ww_istore (i := 5) (lv2 := [(0, _), (1, _), (2, _), (3, _), (4, _), (5, _)]) dL_law_285 (Nat.le_of_ble_eq_true rfl) rfl ?_
  refine ww_aload_n (i := 2) dL_law_287 rfl rfl ?_
  refine ww_aload_n (i := 0) dL_law_288 rfl rfl ?_
  refine ww_iload (i := 4) dL_law_289 rfl ?_
  refine ww_iconst (v := 1) dL_law_291 (by decide) ?_
  refine ww_iadd dL_law_292 ?_
  refine ww_sld dL_law_293 e1 (by omega) (by omega) ?_
  refine ww_aload_n (i := 0) dL_law_294 rfl rfl ?_
  refine ww_iload (i := 4) dL_law_295 rfl ?_
  refine ww_iconst (v := 2) dL_law_297 (by decide) ?_
  refine ww_iadd dL_law_298 ?_
  refine ww_sld dL_law_299 e2 (by omega) (by omega) ?_
  refine ww_aload_n (i := 0) dL_law_300 rfl rfl ?_
  refine ww_iload (i := 4) dL_law_301 rfl ?_
  refine ww_iconst (v := 3) dL_law_303 (by decide) ?_
  refine ww_iadd dL_law_304 ?_
  refine ww_sld dL_law_305 e3 (by omega) (by omega) ?_
  refine ww_aload_n (i := 0) dL_law_306 rfl rfl ?_
  refine ww_iload (i := 4) dL_law_307 rfl ?_
  refine ww_iconst (v := 4) dL_law_309 (by decide) ?_
  refine ww_iadd dL_law_310 ?_
  refine ww_sld dL_law_311 e4 (by omega) (by omega) ?_
  refine ww_callV (κ := 8) (r := (RX7, TX7, 33)) wk_L_127 dL_law_312 (hY M2 k2.1.1 k2.1.2) rfl rfl k2.1.1.1.1 k2.1.1.1.2 rfl rfl (by omega) (Nat.zero_le _) (Nat.zero_le _) (Nat.le_of_ble_eq_true rfl) rfl (fun E M9 h9 => h9.elim) (fun v9 M3 h9 => ?_)
  obtain ⟨rfl, hu⟩ := h9
  obtain ⟨j1, j2, j3⟩ := ww_J k1 k2 hu
  refine ww_istore (i := 6) (lv2 := [(0, _), (1, _), (2, _), (3, _), (4, _), (5, _), (6, _)]) dL_law_315 (Nat.le_of_ble_eq_true rfl) rfl ?_
  refine ww_aload_n (i := 2) dL_law_317 rfl rfl ?_
  refine ww_callV (κ := 8) (r := (RX7, TX7, 33)) wk_L_121 dL_law_318 (ww_thrn j1 j2 hc) rfl rfl j2.1.1.1.1 j2.1.1.1.2 rfl rfl (by omega) (Nat.zero_le _) (Nat.zero_le _) (Nat.le_of_ble_eq_true rfl) rfl (fun E M9 h9 => h9.elim) (fun v9 M4 h9 => ?_)
  obtain ⟨rfl, i1, i2, i3⟩ := h9
  refine ww_iload (i := 5) dL_law_321 rfl ?_
  refine ww_icmp_eq_t (tgt := 328) dL_law_323 (by decide) rfl ?_
  refine ww_iload (i := 5) dL_law_328 rfl ?_
  by_cases hcd : code = 0
  · refine ww_if_ne_f (tgt := 345) dL_law_330 (by decide) hcd ?_
    obtain ⟨rfl, hB⟩ := hr2 hcd
    have ez : ww_Z M4 ol 0 = r2.toInt64 := by rw [i3, j3]; exact k3 trivial hcd
    refine ww_aload_n (i := 3) dL_law_333 rfl rfl ?_
    refine ww_iconst (v := 0) dL_law_334 (by decide) ?_
    refine ww_lald (j := 0) dL_law_335 i2.2.1.1.1 i2.2.1.1.2 nI_0.symm (by rw [i2.2.1.2]; decide) (by rw [i2.2.1.2]; decide) ?_
    rw [ez]
    refine ww_iload (i := 6) dL_law_336 rfl ?_
    refine ww_i2l dL_law_338 ?_
    refine ww_lcmp dL_law_339 ?_
    refine ww_if_eq_t (tgt := 345) dL_law_340 (by decide) ww_cmp_s ?_
    refine ww_goto (tgt := 2013) dL_law_345 (by decide) ?_
    exact ww_subk (kk M4 S2 i1 i2) ⟨rfl, rfl, rfl, rfl, rfl, trivial⟩
  · refine ww_if_ne_t (tgt := 345) dL_law_330 (by decide) hcd ?_
    refine ww_goto (tgt := 2013) dL_law_345 (by decide) ?_
    exact ww_subk (kk M4 S2 i1 i2) ⟨rfl, rfl, rfl, rfl, rfl, trivial⟩
set_option maxRecDepth 20000 in
theorem law_fit (h : ww_mc g c b S M) (hm : ww_mm mo ar ol c S M) (hb : b < 512) (hL : 5 * b + 5 ≤ ww_gl g) (hgl : ww_gl g ≤ 2560) (hd : 16 ≤ d) (hkc : 10 ≤ kc) (hks : 1100 ≤ ks) (kk : ∀ M' S', ww_mc g c (b + 1) S' M' → ww_mm mo ar ol c S' M' → ww_A g wy_L_law d (kc - 10) (ks - 1100) M' 2013 [(0, .ref (ww_gb g)), (1, .ref (c 0)), (2, .ref mo), (3, .ref ol), (4, .int (nI (5 * b)))] [] Q X) : ww_A g wy_L_law d kc ks M 348 [(0, .ref (ww_gb g)), (1, .ref (c 0)), (2, .ref mo), (3, .ref ol), (4, .int (nI (5 * b)))] [] Q X := by
  obtain ⟨ea, P, W, kl, f, z, D, E, n, u, w, m, hr, H⟩ := h
  have e1 : nI (5 * b) + 1 = nI (5 * b + 1) := by rw [show (1 : Int32) = nI 1 from by decide, nI_add]
  have e2 : nI (5 * b) + 2 = nI (5 * b + 2) := by rw [show (2 : Int32) = nI 2 from by decide, nI_add]
  have e3 : nI (5 * b) + 3 = nI (5 * b + 3) := by rw [show (3 : Int32) = nI 3 from by decide, nI_add]
  have e4 : nI (5 * b) + 4 = nI (5 * b + 4) := by rw [show (4 : Int32) = nI 4 from by decide, nI_add]
  obtain ⟨code, r, r2, S2, dm, hdm, hL1, hY, hc, hr2⟩ := sp_fit hr H hm hb (ww_gx g (5 * b + 1)) (ww_gx g (5 * b + 2))
  refine ww_aload_n (i := 1) dL_law_348 rfl rfl ?_
  refine ww_aload_n (i := 0) dL_law_349 rfl rfl ?_
  refine ww_iload (i := 4) dL_law_350 rfl ?_
  refine ww_iconst (v := 1) dL_law_352 (by decide) ?_
  refine ww_iadd dL_law_353 ?_
  refine ww_sld dL_law_354 e1 (by omega) (by omega) ?_
  refine ww_aload_n (i := 0) dL_law_355 rfl rfl ?_
  refine ww_iload (i := 4) dL_law_356 rfl ?_
  refine ww_iconst (v := 2) dL_law_358 (by decide) ?_
  refine ww_iadd dL_law_359 ?_
  refine ww_sld dL_law_360 e2 (by omega) (by omega) ?_
  refine ww_aload_n (i := 3) dL_law_361 rfl rfl ?_
  refine ww_callSH wk_L_128 rfl dL_law_362 hL1 rfl rfl (by omega) hkc hks (Nat.le_of_ble_eq_true rfl) rfl (fun E M9 h9 => h9.elim) (fun v9 M2 h9 => ?_)
  obtain ⟨rfl, k1, k2, k3⟩ := h9
  refine ww_istore (i := 5) (lv2 := [(0, _), (1, _), (2, _), (3, _), (4, _), (5, _)]) dL_law_365 (Nat.le_of_ble_eq_true rfl) rfl ?_
  refine ww_aload_n (i := 2) dL_law_367 rfl rfl ?_
  refine ww_aload_n (i := 0) dL_law_368 rfl rfl ?_
  refine ww_iload (i := 4) dL_law_369 rfl ?_
  refine ww_iconst (v := 1) dL_law_371 (by decide) ?_
  refine ww_iadd dL_law_372 ?_
  refine ww_sld dL_law_373 e1 (by omega) (by omega) ?_
  refine ww_aload_n (i := 0) dL_law_374 rfl rfl ?_
  refine ww_iload (i := 4) dL_law_375 rfl ?_
  refine ww_iconst (v := 2) dL_law_377 (by decide) ?_
  refine ww_iadd dL_law_378 ?_
  refine ww_sld dL_law_379 e2 (by omega) (by omega) ?_
  refine ww_callV (κ := 8) (r := (RX7, TX7, 33)) wk_L_131 dL_law_380 (hY M2 k2.1.1 k2.1.2) rfl rfl k2.1.1.1.1 k2.1.1.1.2 rfl rfl (by omega) (Nat.zero_le _) (Nat.zero_le _) (Nat.le_of_ble_eq_true rfl) rfl (fun E M9 h9 => h9.elim) (fun v9 M3 h9 => ?_)
  obtain ⟨rfl, hu⟩ := h9
  obtain ⟨j1, j2, j3⟩ := ww_J k1 k2 hu
  refine ww_istore (i := 6) (lv2 := [(0, _), (1, _), (2, _), (3, _), (4, _), (5, _), (6, _)]) dL_law_383 (Nat.le_of_ble_eq_true rfl) rfl ?_
  refine ww_aload_n (i := 2) dL_law_385 rfl rfl ?_
  refine ww_callV (κ := 8) (r := (RX7, TX7, 33)) wk_L_121 dL_law_386 (ww_thrn j1 j2 hc) rfl rfl j2.1.1.1.1 j2.1.1.1.2 rfl rfl (by omega) (Nat.zero_le _) (Nat.zero_le _) (Nat.le_of_ble_eq_true rfl) rfl (fun E M9 h9 => h9.elim) (fun v9 M4 h9 => ?_)
  obtain ⟨rfl, i1, i2, i3⟩ := h9
  refine ww_iload (i := 5) dL_law_389 rfl ?_
  refine ww_icmp_eq_t (tgt := 396) dL_law_391 (by decide) rfl ?_
  refine ww_iload (i := 5) dL_law_396 rfl ?_
  by_cases hcd : code = 0
  · refine ww_if_ne_f (tgt := 413) dL_law_398 (by decide) hcd ?_
    obtain ⟨rfl, hB⟩ := hr2 hcd
    have ez : ww_Z M4 ol 0 = r2.toInt64 := by rw [i3, j3]; exact k3 trivial hcd
    refine ww_aload_n (i := 3) dL_law_401 rfl rfl ?_
    refine ww_iconst (v := 0) dL_law_402 (by decide) ?_
    refine ww_lald (j := 0) dL_law_403 i2.2.1.1.1 i2.2.1.1.2 nI_0.symm (by rw [i2.2.1.2]; decide) (by rw [i2.2.1.2]; decide) ?_
    rw [ez]
    refine ww_iload (i := 6) dL_law_404 rfl ?_
    refine ww_i2l dL_law_406 ?_
    refine ww_lcmp dL_law_407 ?_
    refine ww_if_eq_t (tgt := 413) dL_law_408 (by decide) ww_cmp_s ?_
    refine ww_goto (tgt := 2013) dL_law_413 (by decide) ?_
    exact ww_subk (kk M4 S2 i1 i2) ⟨rfl, rfl, rfl, rfl, rfl, trivial⟩
  · refine ww_if_ne_t (tgt := 413) dL_law_398 (by decide) hcd ?_
    refine ww_goto (tgt := 2013) dL_law_413 (by decide) ?_
    exact ww_subk (kk M4 S2 i1 i2) ⟨rfl, rfl, rfl, rfl, rfl, trivial⟩
set_option maxRecDepth 20000 in
theorem law_take (h : ww_mc g c b S M) (hm : ww_mm mo ar ol c S M) (hb : b < 512) (hL : 5 * b + 5 ≤ ww_gl g) (hgl : ww_gl g ≤ 2560) (hd : 16 ≤ d) (hkc : 10 ≤ kc) (hks : 1100 ≤ ks) (kk : ∀ M' S', ww_mc g c (b + 1) S' M' → ww_mm mo ar ol c S' M' → ww_A g wy_L_law d (kc - 10) (ks - 1100) M' 2013 [(0, .ref (ww_gb g)), (1, .ref (c 0)), (2, .ref mo), (3, .ref ol), (4, .int (nI (5 * b)))] [] Q X) : ww_A g wy_L_law d kc ks M 416 [(0, .ref (ww_gb g)), (1, .ref (c 0)), (2, .ref mo), (3, .ref ol), (4, .int (nI (5 * b)))] [] Q X := by
  obtain ⟨ea, P, W, kl, f, z, D, E, n, u, w, m, hr, H⟩ := h
  have e1 : nI (5 * b) + 1 = nI (5 * b + 1) := by rw [show (1 : Int32) = nI 1 from by decide, nI_add]
  have e2 : nI (5 * b) + 2 = nI (5 * b + 2) := by rw [show (2 : Int32) = nI 2 from by decide, nI_add]
  have e3 : nI (5 * b) + 3 = nI (5 * b + 3) := by rw [show (3 : Int32) = nI 3 from by decide, nI_add]
  have e4 : nI (5 * b) + 4 = nI (5 * b + 4) := by rw [show (4 : Int32) = nI 4 from by decide, nI_add]
  obtain ⟨code, r, r2, S2, dm, hdm, hL1, hY, hc, hr2⟩ := sp_take hr H hm hb (ww_gx g (5 * b + 1))
  refine ww_aload_n (i := 1) dL_law_416 rfl rfl ?_
  refine ww_aload_n (i := 0) dL_law_417 rfl rfl ?_
  refine ww_iload (i := 4) dL_law_418 rfl ?_
  refine ww_iconst (v := 1) dL_law_420 (by decide) ?_
  refine ww_iadd dL_law_421 ?_
  refine ww_sld dL_law_422 e1 (by omega) (by omega) ?_
  refine ww_aload_n (i := 3) dL_law_423 rfl rfl ?_
  refine ww_callSH wk_L_132 rfl dL_law_424 hL1 rfl rfl (by omega) hkc hks (Nat.le_of_ble_eq_true rfl) rfl (fun E M9 h9 => h9.elim) (fun v9 M2 h9 => ?_)
  obtain ⟨rfl, k1, k2, k3⟩ := h9
  refine ww_istore (i := 5) (lv2 := [(0, _), (1, _), (2, _), (3, _), (4, _), (5, _)]) dL_law_427 (Nat.le_of_ble_eq_true rfl) rfl ?_
  refine ww_aload_n (i := 2) dL_law_429 rfl rfl ?_
  refine ww_aload_n (i := 0) dL_law_430 rfl rfl ?_
  refine ww_iload (i := 4) dL_law_431 rfl ?_
  refine ww_iconst (v := 1) dL_law_433 (by decide) ?_
  refine ww_iadd dL_law_434 ?_
  refine ww_sld dL_law_435 e1 (by omega) (by omega) ?_
  refine ww_callV (κ := 8) (r := (RX7, TX7, 33)) wk_L_135 dL_law_436 (hY M2 k2.1.1 k2.1.2) rfl rfl k2.1.1.1.1 k2.1.1.1.2 rfl rfl (by omega) (Nat.zero_le _) (Nat.zero_le _) (Nat.le_of_ble_eq_true rfl) rfl (fun E M9 h9 => h9.elim) (fun v9 M3 h9 => ?_)
  obtain ⟨rfl, hu⟩ := h9
  obtain ⟨j1, j2, j3⟩ := ww_J k1 k2 hu
  refine ww_istore (i := 6) (lv2 := [(0, _), (1, _), (2, _), (3, _), (4, _), (5, _), (6, _)]) dL_law_439 (Nat.le_of_ble_eq_true rfl) rfl ?_
  refine ww_aload_n (i := 2) dL_law_441 rfl rfl ?_
  refine ww_callV (κ := 8) (r := (RX7, TX7, 33)) wk_L_121 dL_law_442 (ww_thrn j1 j2 hc) rfl rfl j2.1.1.1.1 j2.1.1.1.2 rfl rfl (by omega) (Nat.zero_le _) (Nat.zero_le _) (Nat.le_of_ble_eq_true rfl) rfl (fun E M9 h9 => h9.elim) (fun v9 M4 h9 => ?_)
  obtain ⟨rfl, i1, i2, i3⟩ := h9
  refine ww_iload (i := 5) dL_law_445 rfl ?_
  refine ww_icmp_eq_t (tgt := 452) dL_law_447 (by decide) rfl ?_
  refine ww_iload (i := 5) dL_law_452 rfl ?_
  by_cases hcd : code = 0
  · refine ww_if_ne_f (tgt := 469) dL_law_454 (by decide) hcd ?_
    obtain ⟨rfl, hB⟩ := hr2 hcd
    have ez : ww_Z M4 ol 0 = r2.toInt64 := by rw [i3, j3]; exact k3 trivial hcd
    refine ww_aload_n (i := 3) dL_law_457 rfl rfl ?_
    refine ww_iconst (v := 0) dL_law_458 (by decide) ?_
    refine ww_lald (j := 0) dL_law_459 i2.2.1.1.1 i2.2.1.1.2 nI_0.symm (by rw [i2.2.1.2]; decide) (by rw [i2.2.1.2]; decide) ?_
    rw [ez]
    refine ww_iload (i := 6) dL_law_460 rfl ?_
    refine ww_i2l dL_law_462 ?_
    refine ww_lcmp dL_law_463 ?_
    refine ww_if_eq_t (tgt := 469) dL_law_464 (by decide) ww_cmp_s ?_
    refine ww_goto (tgt := 2013) dL_law_469 (by decide) ?_
    exact ww_subk (kk M4 S2 i1 i2) ⟨rfl, rfl, rfl, rfl, rfl, trivial⟩
  · refine ww_if_ne_t (tgt := 469) dL_law_454 (by decide) hcd ?_
    refine ww_goto (tgt := 2013) dL_law_469 (by decide) ?_
    exact ww_subk (kk M4 S2 i1 i2) ⟨rfl, rfl, rfl, rfl, rfl, trivial⟩
set_option maxRecDepth 20000 in
theorem law_scrap (h : ww_mc g c b S M) (hm : ww_mm mo ar ol c S M) (hb : b < 512) (hL : 5 * b + 5 ≤ ww_gl g) (hgl : ww_gl g ≤ 2560) (hd : 16 ≤ d) (hkc : 10 ≤ kc) (hks : 1100 ≤ ks) (kk : ∀ M' S', ww_mc g c (b + 1) S' M' → ww_mm mo ar ol c S' M' → ww_A g wy_L_law d (kc - 10) (ks - 1100) M' 2013 [(0, .ref (ww_gb g)), (1, .ref (c 0)), (2, .ref mo), (3, .ref ol), (4, .int (nI (5 * b)))] [] Q X) : ww_A g wy_L_law d kc ks M 472 [(0, .ref (ww_gb g)), (1, .ref (c 0)), (2, .ref mo), (3, .ref ol), (4, .int (nI (5 * b)))] [] Q X := by
  obtain ⟨ea, P, W, kl, f, z, D, E, n, u, w, m, hr, H⟩ := h
  have e1 : nI (5 * b) + 1 = nI (5 * b + 1) := by rw [show (1 : Int32) = nI 1 from by decide, nI_add]
  have e2 : nI (5 * b) + 2 = nI (5 * b + 2) := by rw [show (2 : Int32) = nI 2 from by decide, nI_add]
  have e3 : nI (5 * b) + 3 = nI (5 * b + 3) := by rw [show (3 : Int32) = nI 3 from by decide, nI_add]
  have e4 : nI (5 * b) + 4 = nI (5 * b + 4) := by rw [show (4 : Int32) = nI 4 from by decide, nI_add]
  obtain ⟨code, r, r2, S2, dm, hdm, hL1, hY, hc, hr2⟩ := sp_scrap hr H hm hb (ww_gx g (5 * b + 1))
  refine ww_aload_n (i := 1) dL_law_472 rfl rfl ?_
  refine ww_aload_n (i := 0) dL_law_473 rfl rfl ?_
  refine ww_iload (i := 4) dL_law_474 rfl ?_
  refine ww_iconst (v := 1) dL_law_476 (by decide) ?_
  refine ww_iadd dL_law_477 ?_
  refine ww_sld dL_law_478 e1 (by omega) (by omega) ?_
  refine ww_callSH wk_L_136 rfl dL_law_479 hL1 rfl rfl (by omega) hkc hks (Nat.le_of_ble_eq_true rfl) rfl (fun E M9 h9 => h9.elim) (fun v9 M2 h9 => ?_)
  obtain ⟨rfl, k1, k2, k3⟩ := h9
  refine ww_istore (i := 5) (lv2 := [(0, _), (1, _), (2, _), (3, _), (4, _), (5, _)]) dL_law_482 (Nat.le_of_ble_eq_true rfl) rfl ?_
  refine ww_aload_n (i := 2) dL_law_484 rfl rfl ?_
  refine ww_aload_n (i := 0) dL_law_485 rfl rfl ?_
  refine ww_iload (i := 4) dL_law_486 rfl ?_
  refine ww_iconst (v := 1) dL_law_488 (by decide) ?_
  refine ww_iadd dL_law_489 ?_
  refine ww_sld dL_law_490 e1 (by omega) (by omega) ?_
  refine ww_callV (κ := 8) (r := (RX7, TX7, 33)) wk_L_139 dL_law_491 (hY M2 k2.1.1 k2.1.2) rfl rfl k2.1.1.1.1 k2.1.1.1.2 rfl rfl (by omega) (Nat.zero_le _) (Nat.zero_le _) (Nat.le_of_ble_eq_true rfl) rfl (fun E M9 h9 => h9.elim) (fun v9 M3 h9 => ?_)
  obtain ⟨rfl, hu⟩ := h9
  obtain ⟨j1, j2, j3⟩ := ww_J k1 k2 hu
  refine ww_aload_n (i := 2) dL_law_494 rfl rfl ?_
  refine ww_callV (κ := 8) (r := (RX7, TX7, 33)) wk_L_121 dL_law_495 (ww_thrn j1 j2 hc) rfl rfl j2.1.1.1.1 j2.1.1.1.2 rfl rfl (by omega) (Nat.zero_le _) (Nat.zero_le _) (Nat.le_of_ble_eq_true rfl) rfl (fun E M9 h9 => h9.elim) (fun v9 M4 h9 => ?_)
  obtain ⟨rfl, i1, i2, i3⟩ := h9
  refine ww_iload (i := 5) dL_law_498 rfl ?_
  refine ww_icmp_eq_t (tgt := 505) dL_law_500 (by decide) rfl ?_
  refine ww_goto (tgt := 2013) dL_law_505 (by decide) ?_
  exact ww_subk (kk M4 S2 i1 i2) ⟨rfl, rfl, rfl, rfl, rfl, trivial⟩
set_option maxRecDepth 20000 in
theorem law_run (h : ww_mc g c b S M) (hm : ww_mm mo ar ol c S M) (hb : b < 512) (hL : 5 * b + 5 ≤ ww_gl g) (hgl : ww_gl g ≤ 2560) (hd : 16 ≤ d) (hkc : 10 ≤ kc) (hks : 1100 ≤ ks) (kk : ∀ M' S', ww_mc g c (b + 1) S' M' → ww_mm mo ar ol c S' M' → ww_A g wy_L_law d (kc - 10) (ks - 1100) M' 2013 [(0, .ref (ww_gb g)), (1, .ref (c 0)), (2, .ref mo), (3, .ref ol), (4, .int (nI (5 * b)))] [] Q X) : ww_A g wy_L_law d kc ks M 508 [(0, .ref (ww_gb g)), (1, .ref (c 0)), (2, .ref mo), (3, .ref ol), (4, .int (nI (5 * b)))] [] Q X := by
  obtain ⟨ea, P, W, kl, f, z, D, E, n, u, w, m, hr, H⟩ := h
  have e1 : nI (5 * b) + 1 = nI (5 * b + 1) := by rw [show (1 : Int32) = nI 1 from by decide, nI_add]
  have e2 : nI (5 * b) + 2 = nI (5 * b + 2) := by rw [show (2 : Int32) = nI 2 from by decide, nI_add]
  have e3 : nI (5 * b) + 3 = nI (5 * b + 3) := by rw [show (3 : Int32) = nI 3 from by decide, nI_add]
  have e4 : nI (5 * b) + 4 = nI (5 * b + 4) := by rw [show (4 : Int32) = nI 4 from by decide, nI_add]
  obtain ⟨code, r, r2, S2, dm, hdm, hL1, hY, hc, hr2⟩ := sp_run hr H hm hb (ww_gx g (5 * b + 1)) (ww_gx g (5 * b + 2)) (ww_gx g (5 * b + 3))
  refine ww_aload_n (i := 1) dL_law_508 rfl rfl ?_
  refine ww_aload_n (i := 0) dL_law_509 rfl rfl ?_
  refine ww_iload (i := 4) dL_law_510 rfl ?_
  refine ww_iconst (v := 1) dL_law_512 (by decide) ?_
  refine ww_iadd dL_law_513 ?_
  refine ww_sld dL_law_514 e1 (by omega) (by omega) ?_
  refine ww_aload_n (i := 0) dL_law_515 rfl rfl ?_
  refine ww_iload (i := 4) dL_law_516 rfl ?_
  refine ww_iconst (v := 2) dL_law_518 (by decide) ?_
  refine ww_iadd dL_law_519 ?_
  refine ww_sld dL_law_520 e2 (by omega) (by omega) ?_
  refine ww_aload_n (i := 0) dL_law_521 rfl rfl ?_
  refine ww_iload (i := 4) dL_law_522 rfl ?_
  refine ww_iconst (v := 3) dL_law_524 (by decide) ?_
  refine ww_iadd dL_law_525 ?_
  refine ww_sld dL_law_526 e3 (by omega) (by omega) ?_
  refine ww_aload_n (i := 3) dL_law_527 rfl rfl ?_
  refine ww_callSH wk_L_140 rfl dL_law_528 hL1 rfl rfl (by omega) hkc hks (Nat.le_of_ble_eq_true rfl) rfl (fun E M9 h9 => h9.elim) (fun v9 M2 h9 => ?_)
  obtain ⟨rfl, k1, k2, k3⟩ := h9
  refine ww_istore (i := 5) (lv2 := [(0, _), (1, _), (2, _), (3, _), (4, _), (5, _)]) dL_law_531 (Nat.le_of_ble_eq_true rfl) rfl ?_
  refine ww_aload_n (i := 2) dL_law_533 rfl rfl ?_
  refine ww_aload_n (i := 0) dL_law_534 rfl rfl ?_
  refine ww_iload (i := 4) dL_law_535 rfl ?_
  refine ww_iconst (v := 1) dL_law_537 (by decide) ?_
  refine ww_iadd dL_law_538 ?_
  refine ww_sld dL_law_539 e1 (by omega) (by omega) ?_
  refine ww_aload_n (i := 0) dL_law_540 rfl rfl ?_
  refine ww_iload (i := 4) dL_law_541 rfl ?_
  refine ww_iconst (v := 2) dL_law_543 (by decide) ?_
  refine ww_iadd dL_law_544 ?_
  refine ww_sld dL_law_545 e2 (by omega) (by omega) ?_
  refine ww_aload_n (i := 0) dL_law_546 rfl rfl ?_
  refine ww_iload (i := 4) dL_law_547 rfl ?_
  refine ww_iconst (v := 3) dL_law_549 (by decide) ?_
  refine ww_iadd dL_law_550 ?_
  refine ww_sld dL_law_551 e3 (by omega) (by omega) ?_
  refine ww_callV (κ := 8) (r := (RX7, TX7, 33)) wk_L_142 dL_law_552 (hY M2 k2.1.1 k2.1.2) rfl rfl k2.1.1.1.1 k2.1.1.1.2 rfl rfl (by omega) (Nat.zero_le _) (Nat.zero_le _) (Nat.le_of_ble_eq_true rfl) rfl (fun E M9 h9 => h9.elim) (fun v9 M3 h9 => ?_)
  obtain ⟨rfl, hu⟩ := h9
  obtain ⟨j1, j2, j3⟩ := ww_J k1 k2 hu
  refine ww_istore (i := 6) (lv2 := [(0, _), (1, _), (2, _), (3, _), (4, _), (5, _), (6, _)]) dL_law_555 (Nat.le_of_ble_eq_true rfl) rfl ?_
  refine ww_aload_n (i := 2) dL_law_557 rfl rfl ?_
  refine ww_callV (κ := 8) (r := (RX7, TX7, 33)) wk_L_121 dL_law_558 (ww_thrn j1 j2 hc) rfl rfl j2.1.1.1.1 j2.1.1.1.2 rfl rfl (by omega) (Nat.zero_le _) (Nat.zero_le _) (Nat.le_of_ble_eq_true rfl) rfl (fun E M9 h9 => h9.elim) (fun v9 M4 h9 => ?_)
  obtain ⟨rfl, i1, i2, i3⟩ := h9
  refine ww_iload (i := 5) dL_law_561 rfl ?_
  refine ww_icmp_eq_t (tgt := 568) dL_law_563 (by decide) rfl ?_
  refine ww_iload (i := 5) dL_law_568 rfl ?_
  by_cases hcd : code = 0
  · refine ww_if_ne_f (tgt := 585) dL_law_570 (by decide) hcd ?_
    obtain ⟨rfl, hB⟩ := hr2 hcd
    have ez : ww_Z M4 ol 0 = r2.toInt64 := by rw [i3, j3]; exact k3 trivial hcd
    refine ww_aload_n (i := 3) dL_law_573 rfl rfl ?_
    refine ww_iconst (v := 0) dL_law_574 (by decide) ?_
    refine ww_lald (j := 0) dL_law_575 i2.2.1.1.1 i2.2.1.1.2 nI_0.symm (by rw [i2.2.1.2]; decide) (by rw [i2.2.1.2]; decide) ?_
    rw [ez]
    refine ww_iload (i := 6) dL_law_576 rfl ?_
    refine ww_i2l dL_law_578 ?_
    refine ww_lcmp dL_law_579 ?_
    refine ww_if_eq_t (tgt := 585) dL_law_580 (by decide) ww_cmp_s ?_
    refine ww_goto (tgt := 2013) dL_law_585 (by decide) ?_
    exact ww_subk (kk M4 S2 i1 i2) ⟨rfl, rfl, rfl, rfl, rfl, trivial⟩
  · refine ww_if_ne_t (tgt := 585) dL_law_570 (by decide) hcd ?_
    refine ww_goto (tgt := 2013) dL_law_585 (by decide) ?_
    exact ww_subk (kk M4 S2 i1 i2) ⟨rfl, rfl, rfl, rfl, rfl, trivial⟩
set_option maxRecDepth 20000 in
theorem law_turn (h : ww_mc g c b S M) (hm : ww_mm mo ar ol c S M) (hb : b < 512) (hL : 5 * b + 5 ≤ ww_gl g) (hgl : ww_gl g ≤ 2560) (hd : 16 ≤ d) (hkc : 10 ≤ kc) (hks : 1100 ≤ ks) (kk : ∀ M' S', ww_mc g c (b + 1) S' M' → ww_mm mo ar ol c S' M' → ww_A g wy_L_law d (kc - 10) (ks - 1100) M' 2013 [(0, .ref (ww_gb g)), (1, .ref (c 0)), (2, .ref mo), (3, .ref ol), (4, .int (nI (5 * b)))] [] Q X) : ww_A g wy_L_law d kc ks M 588 [(0, .ref (ww_gb g)), (1, .ref (c 0)), (2, .ref mo), (3, .ref ol), (4, .int (nI (5 * b)))] [] Q X := by
  obtain ⟨ea, P, W, kl, f, z, D, E, n, u, w, m, hr, H⟩ := h
  have e1 : nI (5 * b) + 1 = nI (5 * b + 1) := by rw [show (1 : Int32) = nI 1 from by decide, nI_add]
  have e2 : nI (5 * b) + 2 = nI (5 * b + 2) := by rw [show (2 : Int32) = nI 2 from by decide, nI_add]
  have e3 : nI (5 * b) + 3 = nI (5 * b + 3) := by rw [show (3 : Int32) = nI 3 from by decide, nI_add]
  have e4 : nI (5 * b) + 4 = nI (5 * b + 4) := by rw [show (4 : Int32) = nI 4 from by decide, nI_add]
  obtain ⟨code, r, r2, S2, dm, hdm, hL1, hY, hc, hr2⟩ := sp_turn hr H hm hb (ww_gx g (5 * b + 1))
  refine ww_aload_n (i := 1) dL_law_588 rfl rfl ?_
  refine ww_aload_n (i := 0) dL_law_589 rfl rfl ?_
  refine ww_iload (i := 4) dL_law_590 rfl ?_
  refine ww_iconst (v := 1) dL_law_592 (by decide) ?_
  refine ww_iadd dL_law_593 ?_
  refine ww_sld dL_law_594 e1 (by omega) (by omega) ?_
  refine ww_aload_n (i := 3) dL_law_595 rfl rfl ?_
  refine ww_callSH wk_L_143 rfl dL_law_596 hL1 rfl rfl (by omega) hkc hks (Nat.le_of_ble_eq_true rfl) rfl (fun E M9 h9 => h9.elim) (fun v9 M2 h9 => ?_)
  obtain ⟨rfl, k1, k2, k3⟩ := h9
  refine ww_istore (i := 5) (lv2 := [(0, _), (1, _), (2, _), (3, _), (4, _), (5, _)]) dL_law_599 (Nat.le_of_ble_eq_true rfl) rfl ?_
  refine ww_aload_n (i := 2) dL_law_601 rfl rfl ?_
  refine ww_aload_n (i := 0) dL_law_602 rfl rfl ?_
  refine ww_iload (i := 4) dL_law_603 rfl ?_
  refine ww_iconst (v := 1) dL_law_605 (by decide) ?_
  refine ww_iadd dL_law_606 ?_
  refine ww_sld dL_law_607 e1 (by omega) (by omega) ?_
  refine ww_callV (κ := 8) (r := (RX7, TX7, 33)) wk_L_145 dL_law_608 (hY M2 k2.1.1 k2.1.2) rfl rfl k2.1.1.1.1 k2.1.1.1.2 rfl rfl (by omega) (Nat.zero_le _) (Nat.zero_le _) (Nat.le_of_ble_eq_true rfl) rfl (fun E M9 h9 => h9.elim) (fun v9 M3 h9 => ?_)
  obtain ⟨rfl, hu⟩ := h9
  obtain ⟨j1, j2, j3⟩ := ww_J k1 k2 hu
  refine ww_istore (i := 6) (lv2 := [(0, _), (1, _), (2, _), (3, _), (4, _), (5, _), (6, _)]) dL_law_611 (Nat.le_of_ble_eq_true rfl) rfl ?_
  refine ww_aload_n (i := 2) dL_law_613 rfl rfl ?_
  refine ww_callV (κ := 8) (r := (RX7, TX7, 33)) wk_L_121 dL_law_614 (ww_thrn j1 j2 hc) rfl rfl j2.1.1.1.1 j2.1.1.1.2 rfl rfl (by omega) (Nat.zero_le _) (Nat.zero_le _) (Nat.le_of_ble_eq_true rfl) rfl (fun E M9 h9 => h9.elim) (fun v9 M4 h9 => ?_)
  obtain ⟨rfl, i1, i2, i3⟩ := h9
  refine ww_iload (i := 5) dL_law_617 rfl ?_
  refine ww_icmp_eq_t (tgt := 624) dL_law_619 (by decide) rfl ?_
  refine ww_iload (i := 5) dL_law_624 rfl ?_
  by_cases hcd : code = 0
  · refine ww_if_ne_f (tgt := 641) dL_law_626 (by decide) hcd ?_
    obtain ⟨rfl, hB⟩ := hr2 hcd
    have ez : ww_Z M4 ol 0 = r2.toInt64 := by rw [i3, j3]; exact k3 trivial hcd
    refine ww_aload_n (i := 3) dL_law_629 rfl rfl ?_
    refine ww_iconst (v := 0) dL_law_630 (by decide) ?_
    refine ww_lald (j := 0) dL_law_631 i2.2.1.1.1 i2.2.1.1.2 nI_0.symm (by rw [i2.2.1.2]; decide) (by rw [i2.2.1.2]; decide) ?_
    rw [ez]
    refine ww_iload (i := 6) dL_law_632 rfl ?_
    refine ww_i2l dL_law_634 ?_
    refine ww_lcmp dL_law_635 ?_
    refine ww_if_eq_t (tgt := 641) dL_law_636 (by decide) ww_cmp_s ?_
    refine ww_goto (tgt := 2013) dL_law_641 (by decide) ?_
    exact ww_subk (kk M4 S2 i1 i2) ⟨rfl, rfl, rfl, rfl, rfl, trivial⟩
  · refine ww_if_ne_t (tgt := 641) dL_law_626 (by decide) hcd ?_
    refine ww_goto (tgt := 2013) dL_law_641 (by decide) ?_
    exact ww_subk (kk M4 S2 i1 i2) ⟨rfl, rfl, rfl, rfl, rfl, trivial⟩
set_option maxRecDepth 20000 in
theorem law_gate (h : ww_mc g c b S M) (hm : ww_mm mo ar ol c S M) (hb : b < 512) (hL : 5 * b + 5 ≤ ww_gl g) (hgl : ww_gl g ≤ 2560) (hd : 16 ≤ d) (hkc : 10 ≤ kc) (hks : 1100 ≤ ks) (kk : ∀ M' S', ww_mc g c (b + 1) S' M' → ww_mm mo ar ol c S' M' → ww_A g wy_L_law d (kc - 10) (ks - 1100) M' 2013 [(0, .ref (ww_gb g)), (1, .ref (c 0)), (2, .ref mo), (3, .ref ol), (4, .int (nI (5 * b)))] [] Q X) : ww_A g wy_L_law d kc ks M 644 [(0, .ref (ww_gb g)), (1, .ref (c 0)), (2, .ref mo), (3, .ref ol), (4, .int (nI (5 * b)))] [] Q X := by
  obtain ⟨ea, P, W, kl, f, z, D, E, n, u, w, m, hr, H⟩ := h
  have e1 : nI (5 * b) + 1 = nI (5 * b + 1) := by rw [show (1 : Int32) = nI 1 from by decide, nI_add]
  have e2 : nI (5 * b) + 2 = nI (5 * b + 2) := by rw [show (2 : Int32) = nI 2 from by decide, nI_add]
  have e3 : nI (5 * b) + 3 = nI (5 * b + 3) := by rw [show (3 : Int32) = nI 3 from by decide, nI_add]
  have e4 : nI (5 * b) + 4 = nI (5 * b + 4) := by rw [show (4 : Int32) = nI 4 from by decide, nI_add]
  obtain ⟨code, r, r2, S2, dm, hdm, hL1, hY, hc, hr2⟩ := sp_gate hr H hm hb (ww_gx g (5 * b + 1)) (ww_gx g (5 * b + 2))
  refine ww_aload_n (i := 1) dL_law_644 rfl rfl ?_
  refine ww_aload_n (i := 0) dL_law_645 rfl rfl ?_
  refine ww_iload (i := 4) dL_law_646 rfl ?_
  refine ww_iconst (v := 1) dL_law_648 (by decide) ?_
  refine ww_iadd dL_law_649 ?_
  refine ww_sld dL_law_650 e1 (by omega) (by omega) ?_
  refine ww_aload_n (i := 0) dL_law_651 rfl rfl ?_
  refine ww_iload (i := 4) dL_law_652 rfl ?_
  refine ww_iconst (v := 2) dL_law_654 (by decide) ?_
  refine ww_iadd dL_law_655 ?_
  refine ww_sld dL_law_656 e2 (by omega) (by omega) ?_
  refine ww_aload_n (i := 3) dL_law_657 rfl rfl ?_
  refine ww_callSH wk_L_146 rfl dL_law_658 hL1 rfl rfl (by omega) hkc hks (Nat.le_of_ble_eq_true rfl) rfl (fun E M9 h9 => h9.elim) (fun v9 M2 h9 => ?_)
  obtain ⟨rfl, k1, k2, k3⟩ := h9
  refine ww_istore (i := 5) (lv2 := [(0, _), (1, _), (2, _), (3, _), (4, _), (5, _)]) dL_law_661 (Nat.le_of_ble_eq_true rfl) rfl ?_
  refine ww_aload_n (i := 2) dL_law_663 rfl rfl ?_
  refine ww_aload_n (i := 0) dL_law_664 rfl rfl ?_
  refine ww_iload (i := 4) dL_law_665 rfl ?_
  refine ww_iconst (v := 1) dL_law_667 (by decide) ?_
  refine ww_iadd dL_law_668 ?_
  refine ww_sld dL_law_669 e1 (by omega) (by omega) ?_
  refine ww_aload_n (i := 0) dL_law_670 rfl rfl ?_
  refine ww_iload (i := 4) dL_law_671 rfl ?_
  refine ww_iconst (v := 2) dL_law_673 (by decide) ?_
  refine ww_iadd dL_law_674 ?_
  refine ww_sld dL_law_675 e2 (by omega) (by omega) ?_
  refine ww_callV (κ := 8) (r := (RX7, TX7, 33)) wk_L_148 dL_law_676 (hY M2 k2.1.1 k2.1.2) rfl rfl k2.1.1.1.1 k2.1.1.1.2 rfl rfl (by omega) (Nat.zero_le _) (Nat.zero_le _) (Nat.le_of_ble_eq_true rfl) rfl (fun E M9 h9 => h9.elim) (fun v9 M3 h9 => ?_)
  obtain ⟨rfl, hu⟩ := h9
  obtain ⟨j1, j2, j3⟩ := ww_J k1 k2 hu
  refine ww_istore (i := 6) (lv2 := [(0, _), (1, _), (2, _), (3, _), (4, _), (5, _), (6, _)]) dL_law_679 (Nat.le_of_ble_eq_true rfl) rfl ?_
  refine ww_aload_n (i := 2) dL_law_681 rfl rfl ?_
  refine ww_callV (κ := 8) (r := (RX7, TX7, 33)) wk_L_121 dL_law_682 (ww_thrn j1 j2 hc) rfl rfl j2.1.1.1.1 j2.1.1.1.2 rfl rfl (by omega) (Nat.zero_le _) (Nat.zero_le _) (Nat.le_of_ble_eq_true rfl) rfl (fun E M9 h9 => h9.elim) (fun v9 M4 h9 => ?_)
  obtain ⟨rfl, i1, i2, i3⟩ := h9
  refine ww_iload (i := 5) dL_law_685 rfl ?_
  refine ww_icmp_eq_t (tgt := 692) dL_law_687 (by decide) rfl ?_
  refine ww_iload (i := 5) dL_law_692 rfl ?_
  by_cases hcd : code = 0
  · refine ww_if_ne_f (tgt := 709) dL_law_694 (by decide) hcd ?_
    obtain ⟨rfl, hB⟩ := hr2 hcd
    have ez : ww_Z M4 ol 0 = r2.toInt64 := by rw [i3, j3]; exact k3 trivial hcd
    refine ww_aload_n (i := 3) dL_law_697 rfl rfl ?_
    refine ww_iconst (v := 0) dL_law_698 (by decide) ?_
    refine ww_lald (j := 0) dL_law_699 i2.2.1.1.1 i2.2.1.1.2 nI_0.symm (by rw [i2.2.1.2]; decide) (by rw [i2.2.1.2]; decide) ?_
    rw [ez]
    refine ww_iload (i := 6) dL_law_700 rfl ?_
    refine ww_i2l dL_law_702 ?_
    refine ww_lcmp dL_law_703 ?_
    refine ww_if_eq_t (tgt := 709) dL_law_704 (by decide) ww_cmp_s ?_
    refine ww_goto (tgt := 2013) dL_law_709 (by decide) ?_
    exact ww_subk (kk M4 S2 i1 i2) ⟨rfl, rfl, rfl, rfl, rfl, trivial⟩
  · refine ww_if_ne_t (tgt := 709) dL_law_694 (by decide) hcd ?_
    refine ww_goto (tgt := 2013) dL_law_709 (by decide) ?_
    exact ww_subk (kk M4 S2 i1 i2) ⟨rfl, rfl, rfl, rfl, rfl, trivial⟩
set_option maxRecDepth 20000 in
theorem law_examine (h : ww_mc g c b S M) (hm : ww_mm mo ar ol c S M) (hb : b < 512) (hL : 5 * b + 5 ≤ ww_gl g) (hgl : ww_gl g ≤ 2560) (hd : 16 ≤ d) (hkc : 10 ≤ kc) (hks : 1100 ≤ ks) (kk : ∀ M' S', ww_mc g c (b + 1) S' M' → ww_mm mo ar ol c S' M' → ww_A g wy_L_law d (kc - 10) (ks - 1100) M' 2013 [(0, .ref (ww_gb g)), (1, .ref (c 0)), (2, .ref mo), (3, .ref ol), (4, .int (nI (5 * b)))] [] Q X) : ww_A g wy_L_law d kc ks M 712 [(0, .ref (ww_gb g)), (1, .ref (c 0)), (2, .ref mo), (3, .ref ol), (4, .int (nI (5 * b)))] [] Q X := by
  obtain ⟨ea, P, W, kl, f, z, D, E, n, u, w, m, hr, H⟩ := h
  have e1 : nI (5 * b) + 1 = nI (5 * b + 1) := by rw [show (1 : Int32) = nI 1 from by decide, nI_add]
  have e2 : nI (5 * b) + 2 = nI (5 * b + 2) := by rw [show (2 : Int32) = nI 2 from by decide, nI_add]
  have e3 : nI (5 * b) + 3 = nI (5 * b + 3) := by rw [show (3 : Int32) = nI 3 from by decide, nI_add]
  have e4 : nI (5 * b) + 4 = nI (5 * b + 4) := by rw [show (4 : Int32) = nI 4 from by decide, nI_add]
  obtain ⟨code, r, r2, S2, dm, hdm, hL1, hY, hc, hr2⟩ := sp_examine hr H hm hb (ww_gx g (5 * b + 1))
  refine ww_aload_n (i := 1) dL_law_712 rfl rfl ?_
  refine ww_aload_n (i := 0) dL_law_713 rfl rfl ?_
  refine ww_iload (i := 4) dL_law_714 rfl ?_
  refine ww_iconst (v := 1) dL_law_716 (by decide) ?_
  refine ww_iadd dL_law_717 ?_
  refine ww_sld dL_law_718 e1 (by omega) (by omega) ?_
  refine ww_aload_n (i := 3) dL_law_719 rfl rfl ?_
  refine ww_callSH wk_L_149 rfl dL_law_720 hL1 rfl rfl (by omega) hkc hks (Nat.le_of_ble_eq_true rfl) rfl (fun E M9 h9 => h9.elim) (fun v9 M2 h9 => ?_)
  obtain ⟨rfl, k1, k2, k3⟩ := h9
  refine ww_istore (i := 5) (lv2 := [(0, _), (1, _), (2, _), (3, _), (4, _), (5, _)]) dL_law_723 (Nat.le_of_ble_eq_true rfl) rfl ?_
  refine ww_aload_n (i := 2) dL_law_725 rfl rfl ?_
  refine ww_aload_n (i := 0) dL_law_726 rfl rfl ?_
  refine ww_iload (i := 4) dL_law_727 rfl ?_
  refine ww_iconst (v := 1) dL_law_729 (by decide) ?_
  refine ww_iadd dL_law_730 ?_
  refine ww_sld dL_law_731 e1 (by omega) (by omega) ?_
  refine ww_callV (κ := 8) (r := (RX7, TX7, 33)) wk_L_151 dL_law_732 (hY M2 k2.1.1 k2.1.2) rfl rfl k2.1.1.1.1 k2.1.1.1.2 rfl rfl (by omega) (Nat.zero_le _) (Nat.zero_le _) (Nat.le_of_ble_eq_true rfl) rfl (fun E M9 h9 => h9.elim) (fun v9 M3 h9 => ?_)
  obtain ⟨rfl, hu⟩ := h9
  obtain ⟨j1, j2, j3⟩ := ww_J k1 k2 hu
  refine ww_istore (i := 6) (lv2 := [(0, _), (1, _), (2, _), (3, _), (4, _), (5, _), (6, _)]) dL_law_735 (Nat.le_of_ble_eq_true rfl) rfl ?_
  refine ww_aload_n (i := 2) dL_law_737 rfl rfl ?_
  refine ww_callV (κ := 8) (r := (RX7, TX7, 33)) wk_L_121 dL_law_738 (ww_thrn j1 j2 hc) rfl rfl j2.1.1.1.1 j2.1.1.1.2 rfl rfl (by omega) (Nat.zero_le _) (Nat.zero_le _) (Nat.le_of_ble_eq_true rfl) rfl (fun E M9 h9 => h9.elim) (fun v9 M4 h9 => ?_)
  obtain ⟨rfl, i1, i2, i3⟩ := h9
  refine ww_iload (i := 5) dL_law_741 rfl ?_
  refine ww_icmp_eq_t (tgt := 748) dL_law_743 (by decide) rfl ?_
  refine ww_iload (i := 5) dL_law_748 rfl ?_
  by_cases hcd : code = 0
  · refine ww_if_ne_f (tgt := 765) dL_law_750 (by decide) hcd ?_
    obtain ⟨rfl, hB⟩ := hr2 hcd
    have ez : ww_Z M4 ol 0 = r2.toInt64 := by rw [i3, j3]; exact k3 trivial hcd
    refine ww_aload_n (i := 3) dL_law_753 rfl rfl ?_
    refine ww_iconst (v := 0) dL_law_754 (by decide) ?_
    refine ww_lald (j := 0) dL_law_755 i2.2.1.1.1 i2.2.1.1.2 nI_0.symm (by rw [i2.2.1.2]; decide) (by rw [i2.2.1.2]; decide) ?_
    rw [ez]
    refine ww_iload (i := 6) dL_law_756 rfl ?_
    refine ww_i2l dL_law_758 ?_
    refine ww_lcmp dL_law_759 ?_
    refine ww_if_eq_t (tgt := 765) dL_law_760 (by decide) ww_cmp_s ?_
    refine ww_goto (tgt := 2013) dL_law_765 (by decide) ?_
    exact ww_subk (kk M4 S2 i1 i2) ⟨rfl, rfl, rfl, rfl, rfl, trivial⟩
  · refine ww_if_ne_t (tgt := 765) dL_law_750 (by decide) hcd ?_
    refine ww_goto (tgt := 2013) dL_law_765 (by decide) ?_
    exact ww_subk (kk M4 S2 i1 i2) ⟨rfl, rfl, rfl, rfl, rfl, trivial⟩
set_option maxRecDepth 20000 in
theorem law_waive (h : ww_mc g c b S M) (hm : ww_mm mo ar ol c S M) (hb : b < 512) (hL : 5 * b + 5 ≤ ww_gl g) (hgl : ww_gl g ≤ 2560) (hd : 16 ≤ d) (hkc : 10 ≤ kc) (hks : 1100 ≤ ks) (kk : ∀ M' S', ww_mc g c (b + 1) S' M' → ww_mm mo ar ol c S' M' → ww_A g wy_L_law d (kc - 10) (ks - 1100) M' 2013 [(0, .ref (ww_gb g)), (1, .ref (c 0)), (2, .ref mo), (3, .ref ol), (4, .int (nI (5 * b)))] [] Q X) : ww_A g wy_L_law d kc ks M 768 [(0, .ref (ww_gb g)), (1, .ref (c 0)), (2, .ref mo), (3, .ref ol), (4, .int (nI (5 * b)))] [] Q X := by
  obtain ⟨ea, P, W, kl, f, z, D, E, n, u, w, m, hr, H⟩ := h
  have e1 : nI (5 * b) + 1 = nI (5 * b + 1) := by rw [show (1 : Int32) = nI 1 from by decide, nI_add]
  have e2 : nI (5 * b) + 2 = nI (5 * b + 2) := by rw [show (2 : Int32) = nI 2 from by decide, nI_add]
  have e3 : nI (5 * b) + 3 = nI (5 * b + 3) := by rw [show (3 : Int32) = nI 3 from by decide, nI_add]
  have e4 : nI (5 * b) + 4 = nI (5 * b + 4) := by rw [show (4 : Int32) = nI 4 from by decide, nI_add]
  obtain ⟨code, r, r2, S2, dm, hdm, hL1, hY, hc, hr2⟩ := sp_waive hr H hm hb (ww_gx g (5 * b + 1)) (ww_gx g (5 * b + 2))
  refine ww_aload_n (i := 1) dL_law_768 rfl rfl ?_
  refine ww_aload_n (i := 0) dL_law_769 rfl rfl ?_
  refine ww_iload (i := 4) dL_law_770 rfl ?_
  refine ww_iconst (v := 1) dL_law_772 (by decide) ?_
  refine ww_iadd dL_law_773 ?_
  refine ww_sld dL_law_774 e1 (by omega) (by omega) ?_
  refine ww_aload_n (i := 0) dL_law_775 rfl rfl ?_
  refine ww_iload (i := 4) dL_law_776 rfl ?_
  refine ww_iconst (v := 2) dL_law_778 (by decide) ?_
  refine ww_iadd dL_law_779 ?_
  refine ww_sld dL_law_780 e2 (by omega) (by omega) ?_
  refine ww_callSH wk_L_152 rfl dL_law_781 hL1 rfl rfl (by omega) hkc hks (Nat.le_of_ble_eq_true rfl) rfl (fun E M9 h9 => h9.elim) (fun v9 M2 h9 => ?_)
  obtain ⟨rfl, k1, k2, k3⟩ := h9
  refine ww_istore (i := 5) (lv2 := [(0, _), (1, _), (2, _), (3, _), (4, _), (5, _)]) dL_law_784 (Nat.le_of_ble_eq_true rfl) rfl ?_
  refine ww_aload_n (i := 2) dL_law_786 rfl rfl ?_
  refine ww_aload_n (i := 0) dL_law_787 rfl rfl ?_
  refine ww_iload (i := 4) dL_law_788 rfl ?_
  refine ww_iconst (v := 1) dL_law_790 (by decide) ?_
  refine ww_iadd dL_law_791 ?_
  refine ww_sld dL_law_792 e1 (by omega) (by omega) ?_
  refine ww_aload_n (i := 0) dL_law_793 rfl rfl ?_
  refine ww_iload (i := 4) dL_law_794 rfl ?_
  refine ww_iconst (v := 2) dL_law_796 (by decide) ?_
  refine ww_iadd dL_law_797 ?_
  refine ww_sld dL_law_798 e2 (by omega) (by omega) ?_
  refine ww_callV (κ := 8) (r := (RX7, TX7, 33)) wk_L_155 dL_law_799 (hY M2 k2.1.1 k2.1.2) rfl rfl k2.1.1.1.1 k2.1.1.1.2 rfl rfl (by omega) (Nat.zero_le _) (Nat.zero_le _) (Nat.le_of_ble_eq_true rfl) rfl (fun E M9 h9 => h9.elim) (fun v9 M3 h9 => ?_)
  obtain ⟨rfl, hu⟩ := h9
  obtain ⟨j1, j2, j3⟩ := ww_J k1 k2 hu
  refine ww_aload_n (i := 2) dL_law_802 rfl rfl ?_
  refine ww_callV (κ := 8) (r := (RX7, TX7, 33)) wk_L_121 dL_law_803 (ww_thrn j1 j2 hc) rfl rfl j2.1.1.1.1 j2.1.1.1.2 rfl rfl (by omega) (Nat.zero_le _) (Nat.zero_le _) (Nat.le_of_ble_eq_true rfl) rfl (fun E M9 h9 => h9.elim) (fun v9 M4 h9 => ?_)
  obtain ⟨rfl, i1, i2, i3⟩ := h9
  refine ww_iload (i := 5) dL_law_806 rfl ?_
  refine ww_icmp_eq_t (tgt := 813) dL_law_808 (by decide) rfl ?_
  refine ww_goto (tgt := 2013) dL_law_813 (by decide) ?_
  exact ww_subk (kk M4 S2 i1 i2) ⟨rfl, rfl, rfl, rfl, rfl, trivial⟩
set_option maxRecDepth 20000 in
theorem law_flaw (h : ww_mc g c b S M) (hm : ww_mm mo ar ol c S M) (hb : b < 512) (hL : 5 * b + 5 ≤ ww_gl g) (hgl : ww_gl g ≤ 2560) (hd : 16 ≤ d) (hkc : 10 ≤ kc) (hks : 1100 ≤ ks) (kk : ∀ M' S', ww_mc g c (b + 1) S' M' → ww_mm mo ar ol c S' M' → ww_A g wy_L_law d (kc - 10) (ks - 1100) M' 2013 [(0, .ref (ww_gb g)), (1, .ref (c 0)), (2, .ref mo), (3, .ref ol), (4, .int (nI (5 * b)))] [] Q X) : ww_A g wy_L_law d kc ks M 816 [(0, .ref (ww_gb g)), (1, .ref (c 0)), (2, .ref mo), (3, .ref ol), (4, .int (nI (5 * b)))] [] Q X := by
  obtain ⟨ea, P, W, kl, f, z, D, E, n, u, w, m, hr, H⟩ := h
  have e1 : nI (5 * b) + 1 = nI (5 * b + 1) := by rw [show (1 : Int32) = nI 1 from by decide, nI_add]
  have e2 : nI (5 * b) + 2 = nI (5 * b + 2) := by rw [show (2 : Int32) = nI 2 from by decide, nI_add]
  have e3 : nI (5 * b) + 3 = nI (5 * b + 3) := by rw [show (3 : Int32) = nI 3 from by decide, nI_add]
  have e4 : nI (5 * b) + 4 = nI (5 * b + 4) := by rw [show (4 : Int32) = nI 4 from by decide, nI_add]
  obtain ⟨code, r, r2, S2, dm, hdm, hL1, hY, hc, hr2⟩ := sp_flaw hr H hm hb (ww_gx g (5 * b + 1)) (ww_gx g (5 * b + 2))
  refine ww_aload_n (i := 1) dL_law_816 rfl rfl ?_
  refine ww_aload_n (i := 0) dL_law_817 rfl rfl ?_
  refine ww_iload (i := 4) dL_law_818 rfl ?_
  refine ww_iconst (v := 1) dL_law_820 (by decide) ?_
  refine ww_iadd dL_law_821 ?_
  refine ww_sld dL_law_822 e1 (by omega) (by omega) ?_
  refine ww_aload_n (i := 0) dL_law_823 rfl rfl ?_
  refine ww_iload (i := 4) dL_law_824 rfl ?_
  refine ww_iconst (v := 2) dL_law_826 (by decide) ?_
  refine ww_iadd dL_law_827 ?_
  refine ww_sld dL_law_828 e2 (by omega) (by omega) ?_
  refine ww_aload_n (i := 3) dL_law_829 rfl rfl ?_
  refine ww_callSH wk_L_156 rfl dL_law_830 hL1 rfl rfl (by omega) hkc hks (Nat.le_of_ble_eq_true rfl) rfl (fun E M9 h9 => h9.elim) (fun v9 M2 h9 => ?_)
  obtain ⟨rfl, k1, k2, k3⟩ := h9
  refine ww_istore (i := 5) (lv2 := [(0, _), (1, _), (2, _), (3, _), (4, _), (5, _)]) dL_law_833 (Nat.le_of_ble_eq_true rfl) rfl ?_
  refine ww_aload_n (i := 2) dL_law_835 rfl rfl ?_
  refine ww_aload_n (i := 0) dL_law_836 rfl rfl ?_
  refine ww_iload (i := 4) dL_law_837 rfl ?_
  refine ww_iconst (v := 1) dL_law_839 (by decide) ?_
  refine ww_iadd dL_law_840 ?_
  refine ww_sld dL_law_841 e1 (by omega) (by omega) ?_
  refine ww_aload_n (i := 0) dL_law_842 rfl rfl ?_
  refine ww_iload (i := 4) dL_law_843 rfl ?_
  refine ww_iconst (v := 2) dL_law_845 (by decide) ?_
  refine ww_iadd dL_law_846 ?_
  refine ww_sld dL_law_847 e2 (by omega) (by omega) ?_
  refine ww_callV (κ := 8) (r := (RX7, TX7, 33)) wk_L_158 dL_law_848 (hY M2 k2.1.1 k2.1.2) rfl rfl k2.1.1.1.1 k2.1.1.1.2 rfl rfl (by omega) (Nat.zero_le _) (Nat.zero_le _) (Nat.le_of_ble_eq_true rfl) rfl (fun E M9 h9 => h9.elim) (fun v9 M3 h9 => ?_)
  obtain ⟨rfl, hu⟩ := h9
  obtain ⟨j1, j2, j3⟩ := ww_J k1 k2 hu
  refine ww_istore (i := 6) (lv2 := [(0, _), (1, _), (2, _), (3, _), (4, _), (5, _), (6, _)]) dL_law_851 (Nat.le_of_ble_eq_true rfl) rfl ?_
  refine ww_aload_n (i := 2) dL_law_853 rfl rfl ?_
  refine ww_callV (κ := 8) (r := (RX7, TX7, 33)) wk_L_121 dL_law_854 (ww_thrn j1 j2 hc) rfl rfl j2.1.1.1.1 j2.1.1.1.2 rfl rfl (by omega) (Nat.zero_le _) (Nat.zero_le _) (Nat.le_of_ble_eq_true rfl) rfl (fun E M9 h9 => h9.elim) (fun v9 M4 h9 => ?_)
  obtain ⟨rfl, i1, i2, i3⟩ := h9
  refine ww_iload (i := 5) dL_law_857 rfl ?_
  refine ww_icmp_eq_t (tgt := 864) dL_law_859 (by decide) rfl ?_
  refine ww_iload (i := 5) dL_law_864 rfl ?_
  by_cases hcd : code = 0
  · refine ww_if_ne_f (tgt := 881) dL_law_866 (by decide) hcd ?_
    obtain ⟨rfl, hB⟩ := hr2 hcd
    have ez : ww_Z M4 ol 0 = r2.toInt64 := by rw [i3, j3]; exact k3 trivial hcd
    refine ww_aload_n (i := 3) dL_law_869 rfl rfl ?_
    refine ww_iconst (v := 0) dL_law_870 (by decide) ?_
    refine ww_lald (j := 0) dL_law_871 i2.2.1.1.1 i2.2.1.1.2 nI_0.symm (by rw [i2.2.1.2]; decide) (by rw [i2.2.1.2]; decide) ?_
    rw [ez]
    refine ww_iload (i := 6) dL_law_872 rfl ?_
    refine ww_i2l dL_law_874 ?_
    refine ww_lcmp dL_law_875 ?_
    refine ww_if_eq_t (tgt := 881) dL_law_876 (by decide) ww_cmp_s ?_
    refine ww_goto (tgt := 2013) dL_law_881 (by decide) ?_
    exact ww_subk (kk M4 S2 i1 i2) ⟨rfl, rfl, rfl, rfl, rfl, trivial⟩
  · refine ww_if_ne_t (tgt := 881) dL_law_866 (by decide) hcd ?_
    refine ww_goto (tgt := 2013) dL_law_881 (by decide) ?_
    exact ww_subk (kk M4 S2 i1 i2) ⟨rfl, rfl, rfl, rfl, rfl, trivial⟩
set_option maxRecDepth 20000 in
theorem law_look (h : ww_mc g c b S M) (hm : ww_mm mo ar ol c S M) (hb : b < 512) (hL : 5 * b + 5 ≤ ww_gl g) (hgl : ww_gl g ≤ 2560) (hd : 16 ≤ d) (hkc : 10 ≤ kc) (hks : 1100 ≤ ks) (kk : ∀ M' S', ww_mc g c (b + 1) S' M' → ww_mm mo ar ol c S' M' → ww_A g wy_L_law d (kc - 10) (ks - 1100) M' 2013 [(0, .ref (ww_gb g)), (1, .ref (c 0)), (2, .ref mo), (3, .ref ol), (4, .int (nI (5 * b)))] [] Q X) : ww_A g wy_L_law d kc ks M 884 [(0, .ref (ww_gb g)), (1, .ref (c 0)), (2, .ref mo), (3, .ref ol), (4, .int (nI (5 * b)))] [] Q X := by
  obtain ⟨ea, P, W, kl, f, z, D, E, n, u, w, m, hr, H⟩ := h
  have e1 : nI (5 * b) + 1 = nI (5 * b + 1) := by rw [show (1 : Int32) = nI 1 from by decide, nI_add]
  have e2 : nI (5 * b) + 2 = nI (5 * b + 2) := by rw [show (2 : Int32) = nI 2 from by decide, nI_add]
  have e3 : nI (5 * b) + 3 = nI (5 * b + 3) := by rw [show (3 : Int32) = nI 3 from by decide, nI_add]
  have e4 : nI (5 * b) + 4 = nI (5 * b + 4) := by rw [show (4 : Int32) = nI 4 from by decide, nI_add]
  by_cases hv : ww_gx g (5 * b + 2) = 0
  · obtain ⟨code, r, r2, S2, dm, hdm, hL1, hY, hc, hr2⟩ := sp_look hr H hm hb (ww_gx g (5 * b + 1)) 0
    refine ww_aload_n (i := 1) dL_law_884 rfl rfl ?_
    refine ww_aload_n (i := 0) dL_law_885 rfl rfl ?_
    refine ww_iload (i := 4) dL_law_886 rfl ?_
    refine ww_iconst (v := 1) dL_law_888 (by decide) ?_
    refine ww_iadd dL_law_889 ?_
    refine ww_sld dL_law_890 e1 (by omega) (by omega) ?_
    refine ww_aload_n (i := 0) dL_law_891 rfl rfl ?_
    refine ww_iload (i := 4) dL_law_892 rfl ?_
    refine ww_iconst (v := 2) dL_law_894 (by decide) ?_
    refine ww_iadd dL_law_895 ?_
    refine ww_sld dL_law_896 e2 (by omega) (by omega) ?_
    refine ww_if_eq_t (tgt := 904) dL_law_897 (by decide) hv ?_
    refine ww_iconst (v := 0) dL_law_904 (by decide) ?_
    refine ww_aload_n (i := 3) dL_law_905 rfl rfl ?_
    refine ww_callSH wk_L_159 rfl dL_law_906 hL1 rfl rfl (by omega) hkc hks (Nat.le_of_ble_eq_true rfl) rfl (fun E M9 h9 => h9.elim) (fun v9 M2 h9 => ?_)
    obtain ⟨rfl, k1, k2, k3⟩ := h9
    refine ww_istore (i := 5) (lv2 := [(0, _), (1, _), (2, _), (3, _), (4, _), (5, _)]) dL_law_909 (Nat.le_of_ble_eq_true rfl) rfl ?_
    refine ww_aload_n (i := 2) dL_law_911 rfl rfl ?_
    refine ww_aload_n (i := 0) dL_law_912 rfl rfl ?_
    refine ww_iload (i := 4) dL_law_913 rfl ?_
    refine ww_iconst (v := 1) dL_law_915 (by decide) ?_
    refine ww_iadd dL_law_916 ?_
    refine ww_sld dL_law_917 e1 (by omega) (by omega) ?_
    refine ww_aload_n (i := 0) dL_law_918 rfl rfl ?_
    refine ww_iload (i := 4) dL_law_919 rfl ?_
    refine ww_iconst (v := 2) dL_law_921 (by decide) ?_
    refine ww_iadd dL_law_922 ?_
    refine ww_sld dL_law_923 e2 (by omega) (by omega) ?_
    refine ww_if_eq_t (tgt := 931) dL_law_924 (by decide) hv ?_
    refine ww_iconst (v := 0) dL_law_931 (by decide) ?_
    refine ww_callV (κ := 8) (r := (RX7, TX7, 33)) wk_L_162 dL_law_932 (hY M2 k2.1.1 k2.1.2) rfl rfl k2.1.1.1.1 k2.1.1.1.2 rfl rfl (by omega) (Nat.zero_le _) (Nat.zero_le _) (Nat.le_of_ble_eq_true rfl) rfl (fun E M9 h9 => h9.elim) (fun v9 M3 h9 => ?_)
    obtain ⟨rfl, hu⟩ := h9
    obtain ⟨j1, j2, j3⟩ := ww_J k1 k2 hu
    refine ww_istore (i := 6) (lv2 := [(0, _), (1, _), (2, _), (3, _), (4, _), (5, _), (6, _)]) dL_law_935 (Nat.le_of_ble_eq_true rfl) rfl ?_
    refine ww_aload_n (i := 2) dL_law_937 rfl rfl ?_
    refine ww_callV (κ := 8) (r := (RX7, TX7, 33)) wk_L_121 dL_law_938 (ww_thrn j1 j2 hc) rfl rfl j2.1.1.1.1 j2.1.1.1.2 rfl rfl (by omega) (Nat.zero_le _) (Nat.zero_le _) (Nat.le_of_ble_eq_true rfl) rfl (fun E M9 h9 => h9.elim) (fun v9 M4 h9 => ?_)
    obtain ⟨rfl, i1, i2, i3⟩ := h9
    refine ww_iload (i := 5) dL_law_941 rfl ?_
    refine ww_icmp_eq_t (tgt := 948) dL_law_943 (by decide) rfl ?_
    refine ww_iload (i := 5) dL_law_948 rfl ?_
    by_cases hcd : code = 0
    · refine ww_if_ne_f (tgt := 965) dL_law_950 (by decide) hcd ?_
      obtain ⟨rfl, hB⟩ := hr2 hcd
      have ez : ww_Z M4 ol 0 = r2.toInt64 := by rw [i3, j3]; exact k3 trivial hcd
      refine ww_aload_n (i := 3) dL_law_953 rfl rfl ?_
      refine ww_iconst (v := 0) dL_law_954 (by decide) ?_
      refine ww_lald (j := 0) dL_law_955 i2.2.1.1.1 i2.2.1.1.2 nI_0.symm (by rw [i2.2.1.2]; decide) (by rw [i2.2.1.2]; decide) ?_
      rw [ez]
      refine ww_iload (i := 6) dL_law_956 rfl ?_
      refine ww_i2l dL_law_958 ?_
      refine ww_lcmp dL_law_959 ?_
      refine ww_if_eq_t (tgt := 965) dL_law_960 (by decide) ww_cmp_s ?_
      refine ww_goto (tgt := 2013) dL_law_965 (by decide) ?_
      exact ww_subk (kk M4 S2 i1 i2) ⟨rfl, rfl, rfl, rfl, rfl, trivial⟩
    · refine ww_if_ne_t (tgt := 965) dL_law_950 (by decide) hcd ?_
      refine ww_goto (tgt := 2013) dL_law_965 (by decide) ?_
      exact ww_subk (kk M4 S2 i1 i2) ⟨rfl, rfl, rfl, rfl, rfl, trivial⟩
  · obtain ⟨code, r, r2, S2, dm, hdm, hL1, hY, hc, hr2⟩ := sp_look hr H hm hb (ww_gx g (5 * b + 1)) 1
    refine ww_aload_n (i := 1) dL_law_884 rfl rfl ?_
    refine ww_aload_n (i := 0) dL_law_885 rfl rfl ?_
    refine ww_iload (i := 4) dL_law_886 rfl ?_
    refine ww_iconst (v := 1) dL_law_888 (by decide) ?_
    refine ww_iadd dL_law_889 ?_
    refine ww_sld dL_law_890 e1 (by omega) (by omega) ?_
    refine ww_aload_n (i := 0) dL_law_891 rfl rfl ?_
    refine ww_iload (i := 4) dL_law_892 rfl ?_
    refine ww_iconst (v := 2) dL_law_894 (by decide) ?_
    refine ww_iadd dL_law_895 ?_
    refine ww_sld dL_law_896 e2 (by omega) (by omega) ?_
    refine ww_if_eq_f (tgt := 904) dL_law_897 (by decide) hv ?_
    refine ww_iconst (v := 1) dL_law_900 (by decide) ?_
    refine ww_goto (tgt := 905) dL_law_901 (by decide) ?_
    refine ww_aload_n (i := 3) dL_law_905 rfl rfl ?_
    refine ww_callSH wk_L_159 rfl dL_law_906 hL1 rfl rfl (by omega) hkc hks (Nat.le_of_ble_eq_true rfl) rfl (fun E M9 h9 => h9.elim) (fun v9 M2 h9 => ?_)
    obtain ⟨rfl, k1, k2, k3⟩ := h9
    refine ww_istore (i := 5) (lv2 := [(0, _), (1, _), (2, _), (3, _), (4, _), (5, _)]) dL_law_909 (Nat.le_of_ble_eq_true rfl) rfl ?_
    refine ww_aload_n (i := 2) dL_law_911 rfl rfl ?_
    refine ww_aload_n (i := 0) dL_law_912 rfl rfl ?_
    refine ww_iload (i := 4) dL_law_913 rfl ?_
    refine ww_iconst (v := 1) dL_law_915 (by decide) ?_
    refine ww_iadd dL_law_916 ?_
    refine ww_sld dL_law_917 e1 (by omega) (by omega) ?_
    refine ww_aload_n (i := 0) dL_law_918 rfl rfl ?_
    refine ww_iload (i := 4) dL_law_919 rfl ?_
    refine ww_iconst (v := 2) dL_law_921 (by decide) ?_
    refine ww_iadd dL_law_922 ?_
    refine ww_sld dL_law_923 e2 (by omega) (by omega) ?_
    refine ww_if_eq_f (tgt := 931) dL_law_924 (by decide) hv ?_
    refine ww_iconst (v := 1) dL_law_927 (by decide) ?_
    refine ww_goto (tgt := 932) dL_law_928 (by decide) ?_
    refine ww_callV (κ := 8) (r := (RX7, TX7, 33)) wk_L_162 dL_law_932 (hY M2 k2.1.1 k2.1.2) rfl rfl k2.1.1.1.1 k2.1.1.1.2 rfl rfl (by omega) (Nat.zero_le _) (Nat.zero_le _) (Nat.le_of_ble_eq_true rfl) rfl (fun E M9 h9 => h9.elim) (fun v9 M3 h9 => ?_)
    obtain ⟨rfl, hu⟩ := h9
    obtain ⟨j1, j2, j3⟩ := ww_J k1 k2 hu
    refine ww_istore (i := 6) (lv2 := [(0, _), (1, _), (2, _), (3, _), (4, _), (5, _), (6, _)]) dL_law_935 (Nat.le_of_ble_eq_true rfl) rfl ?_
    refine ww_aload_n (i := 2) dL_law_937 rfl rfl ?_
    refine ww_callV (κ := 8) (r := (RX7, TX7, 33)) wk_L_121 dL_law_938 (ww_thrn j1 j2 hc) rfl rfl j2.1.1.1.1 j2.1.1.1.2 rfl rfl (by omega) (Nat.zero_le _) (Nat.zero_le _) (Nat.le_of_ble_eq_true rfl) rfl (fun E M9 h9 => h9.elim) (fun v9 M4 h9 => ?_)
    obtain ⟨rfl, i1, i2, i3⟩ := h9
    refine ww_iload (i := 5) dL_law_941 rfl ?_
    refine ww_icmp_eq_t (tgt := 948) dL_law_943 (by decide) rfl ?_
    refine ww_iload (i := 5) dL_law_948 rfl ?_
    by_cases hcd : code = 0
    · refine ww_if_ne_f (tgt := 965) dL_law_950 (by decide) hcd ?_
      obtain ⟨rfl, hB⟩ := hr2 hcd
      have ez : ww_Z M4 ol 0 = r2.toInt64 := by rw [i3, j3]; exact k3 trivial hcd
      refine ww_aload_n (i := 3) dL_law_953 rfl rfl ?_
      refine ww_iconst (v := 0) dL_law_954 (by decide) ?_
      refine ww_lald (j := 0) dL_law_955 i2.2.1.1.1 i2.2.1.1.2 nI_0.symm (by rw [i2.2.1.2]; decide) (by rw [i2.2.1.2]; decide) ?_
      rw [ez]
      refine ww_iload (i := 6) dL_law_956 rfl ?_
      refine ww_i2l dL_law_958 ?_
      refine ww_lcmp dL_law_959 ?_
      refine ww_if_eq_t (tgt := 965) dL_law_960 (by decide) ww_cmp_s ?_
      refine ww_goto (tgt := 2013) dL_law_965 (by decide) ?_
      exact ww_subk (kk M4 S2 i1 i2) ⟨rfl, rfl, rfl, rfl, rfl, trivial⟩
    · refine ww_if_ne_t (tgt := 965) dL_law_950 (by decide) hcd ?_
      refine ww_goto (tgt := 2013) dL_law_965 (by decide) ?_
      exact ww_subk (kk M4 S2 i1 i2) ⟨rfl, rfl, rfl, rfl, rfl, trivial⟩
set_option maxRecDepth 20000 in
theorem law_clear (h : ww_mc g c b S M) (hm : ww_mm mo ar ol c S M) (hb : b < 512) (hL : 5 * b + 5 ≤ ww_gl g) (hgl : ww_gl g ≤ 2560) (hd : 16 ≤ d) (hkc : 10 ≤ kc) (hks : 1100 ≤ ks) (kk : ∀ M' S', ww_mc g c (b + 1) S' M' → ww_mm mo ar ol c S' M' → ww_A g wy_L_law d (kc - 10) (ks - 1100) M' 2013 [(0, .ref (ww_gb g)), (1, .ref (c 0)), (2, .ref mo), (3, .ref ol), (4, .int (nI (5 * b)))] [] Q X) : ww_A g wy_L_law d kc ks M 968 [(0, .ref (ww_gb g)), (1, .ref (c 0)), (2, .ref mo), (3, .ref ol), (4, .int (nI (5 * b)))] [] Q X := by
  obtain ⟨ea, P, W, kl, f, z, D, E, n, u, w, m, hr, H⟩ := h
  have e1 : nI (5 * b) + 1 = nI (5 * b + 1) := by rw [show (1 : Int32) = nI 1 from by decide, nI_add]
  have e2 : nI (5 * b) + 2 = nI (5 * b + 2) := by rw [show (2 : Int32) = nI 2 from by decide, nI_add]
  have e3 : nI (5 * b) + 3 = nI (5 * b + 3) := by rw [show (3 : Int32) = nI 3 from by decide, nI_add]
  have e4 : nI (5 * b) + 4 = nI (5 * b + 4) := by rw [show (4 : Int32) = nI 4 from by decide, nI_add]
  obtain ⟨code, r, r2, S2, dm, hdm, hL1, hY, hc, hr2⟩ := sp_clear hr H hm hb (ww_gx g (5 * b + 1))
  refine ww_aload_n (i := 1) dL_law_968 rfl rfl ?_
  refine ww_aload_n (i := 0) dL_law_969 rfl rfl ?_
  refine ww_iload (i := 4) dL_law_970 rfl ?_
  refine ww_iconst (v := 1) dL_law_972 (by decide) ?_
  refine ww_iadd dL_law_973 ?_
  refine ww_sld dL_law_974 e1 (by omega) (by omega) ?_
  refine ww_aload_n (i := 3) dL_law_975 rfl rfl ?_
  refine ww_callSH wk_L_163 rfl dL_law_976 hL1 rfl rfl (by omega) hkc hks (Nat.le_of_ble_eq_true rfl) rfl (fun E M9 h9 => h9.elim) (fun v9 M2 h9 => ?_)
  obtain ⟨rfl, k1, k2, k3⟩ := h9
  refine ww_istore (i := 5) (lv2 := [(0, _), (1, _), (2, _), (3, _), (4, _), (5, _)]) dL_law_979 (Nat.le_of_ble_eq_true rfl) rfl ?_
  refine ww_aload_n (i := 2) dL_law_981 rfl rfl ?_
  refine ww_aload_n (i := 0) dL_law_982 rfl rfl ?_
  refine ww_iload (i := 4) dL_law_983 rfl ?_
  refine ww_iconst (v := 1) dL_law_985 (by decide) ?_
  refine ww_iadd dL_law_986 ?_
  refine ww_sld dL_law_987 e1 (by omega) (by omega) ?_
  refine ww_callV (κ := 8) (r := (RX7, TX7, 33)) wk_L_165 dL_law_988 (hY M2 k2.1.1 k2.1.2) rfl rfl k2.1.1.1.1 k2.1.1.1.2 rfl rfl (by omega) (Nat.zero_le _) (Nat.zero_le _) (Nat.le_of_ble_eq_true rfl) rfl (fun E M9 h9 => h9.elim) (fun v9 M3 h9 => ?_)
  obtain ⟨rfl, hu⟩ := h9
  obtain ⟨j1, j2, j3⟩ := ww_J k1 k2 hu
  refine ww_istore (i := 6) (lv2 := [(0, _), (1, _), (2, _), (3, _), (4, _), (5, _), (6, _)]) dL_law_991 (Nat.le_of_ble_eq_true rfl) rfl ?_
  refine ww_aload_n (i := 2) dL_law_993 rfl rfl ?_
  refine ww_callV (κ := 8) (r := (RX7, TX7, 33)) wk_L_121 dL_law_994 (ww_thrn j1 j2 hc) rfl rfl j2.1.1.1.1 j2.1.1.1.2 rfl rfl (by omega) (Nat.zero_le _) (Nat.zero_le _) (Nat.le_of_ble_eq_true rfl) rfl (fun E M9 h9 => h9.elim) (fun v9 M4 h9 => ?_)
  obtain ⟨rfl, i1, i2, i3⟩ := h9
  refine ww_iload (i := 5) dL_law_997 rfl ?_
  refine ww_icmp_eq_t (tgt := 1004) dL_law_999 (by decide) rfl ?_
  refine ww_iload (i := 5) dL_law_1004 rfl ?_
  by_cases hcd : code = 0
  · refine ww_if_ne_f (tgt := 1021) dL_law_1006 (by decide) hcd ?_
    obtain ⟨rfl, hB⟩ := hr2 hcd
    have ez : ww_Z M4 ol 0 = r2.toInt64 := by rw [i3, j3]; exact k3 trivial hcd
    refine ww_aload_n (i := 3) dL_law_1009 rfl rfl ?_
    refine ww_iconst (v := 0) dL_law_1010 (by decide) ?_
    refine ww_lald (j := 0) dL_law_1011 i2.2.1.1.1 i2.2.1.1.2 nI_0.symm (by rw [i2.2.1.2]; decide) (by rw [i2.2.1.2]; decide) ?_
    rw [ez]
    refine ww_iload (i := 6) dL_law_1012 rfl ?_
    refine ww_i2l dL_law_1014 ?_
    refine ww_lcmp dL_law_1015 ?_
    refine ww_if_eq_t (tgt := 1021) dL_law_1016 (by decide) ww_cmp_s ?_
    refine ww_goto (tgt := 2013) dL_law_1021 (by decide) ?_
    exact ww_subk (kk M4 S2 i1 i2) ⟨rfl, rfl, rfl, rfl, rfl, trivial⟩
  · refine ww_if_ne_t (tgt := 1021) dL_law_1006 (by decide) hcd ?_
    refine ww_goto (tgt := 2013) dL_law_1021 (by decide) ?_
    exact ww_subk (kk M4 S2 i1 i2) ⟨rfl, rfl, rfl, rfl, rfl, trivial⟩
set_option maxRecDepth 20000 in
theorem law_recall (h : ww_mc g c b S M) (hm : ww_mm mo ar ol c S M) (hb : b < 512) (hL : 5 * b + 5 ≤ ww_gl g) (hgl : ww_gl g ≤ 2560) (hd : 16 ≤ d) (hkc : 10 ≤ kc) (hks : 1100 ≤ ks) (kk : ∀ M' S', ww_mc g c (b + 1) S' M' → ww_mm mo ar ol c S' M' → ww_A g wy_L_law d (kc - 10) (ks - 1100) M' 2013 [(0, .ref (ww_gb g)), (1, .ref (c 0)), (2, .ref mo), (3, .ref ol), (4, .int (nI (5 * b)))] [] Q X) : ww_A g wy_L_law d kc ks M 1024 [(0, .ref (ww_gb g)), (1, .ref (c 0)), (2, .ref mo), (3, .ref ol), (4, .int (nI (5 * b)))] [] Q X := by
  obtain ⟨ea, P, W, kl, f, z, D, E, n, u, w, m, hr, H⟩ := h
  have e1 : nI (5 * b) + 1 = nI (5 * b + 1) := by rw [show (1 : Int32) = nI 1 from by decide, nI_add]
  have e2 : nI (5 * b) + 2 = nI (5 * b + 2) := by rw [show (2 : Int32) = nI 2 from by decide, nI_add]
  have e3 : nI (5 * b) + 3 = nI (5 * b + 3) := by rw [show (3 : Int32) = nI 3 from by decide, nI_add]
  have e4 : nI (5 * b) + 4 = nI (5 * b + 4) := by rw [show (4 : Int32) = nI 4 from by decide, nI_add]
  obtain ⟨code, r, r2, S2, dm, hdm, hL1, hY, hc, hr2⟩ := sp_recall hr H hm hb (ww_gx g (5 * b + 1))
  refine ww_aload_n (i := 1) dL_law_1024 rfl rfl ?_
  refine ww_aload_n (i := 0) dL_law_1025 rfl rfl ?_
  refine ww_iload (i := 4) dL_law_1026 rfl ?_
  refine ww_iconst (v := 1) dL_law_1028 (by decide) ?_
  refine ww_iadd dL_law_1029 ?_
  refine ww_sld dL_law_1030 e1 (by omega) (by omega) ?_
  refine ww_aload_n (i := 3) dL_law_1031 rfl rfl ?_
  refine ww_callSH wk_L_166 rfl dL_law_1032 hL1 rfl rfl (by omega) hkc hks (Nat.le_of_ble_eq_true rfl) rfl (fun E M9 h9 => h9.elim) (fun v9 M2 h9 => ?_)
  obtain ⟨rfl, k1, k2, k3⟩ := h9
  refine ww_istore (i := 5) (lv2 := [(0, _), (1, _), (2, _), (3, _), (4, _), (5, _)]) dL_law_1035 (Nat.le_of_ble_eq_true rfl) rfl ?_
  refine ww_aload_n (i := 2) dL_law_1037 rfl rfl ?_
  refine ww_aload_n (i := 0) dL_law_1038 rfl rfl ?_
  refine ww_iload (i := 4) dL_law_1039 rfl ?_
  refine ww_iconst (v := 1) dL_law_1041 (by decide) ?_
  refine ww_iadd dL_law_1042 ?_
  refine ww_sld dL_law_1043 e1 (by omega) (by omega) ?_
  refine ww_callV (κ := 8) (r := (RX7, TX7, 33)) wk_L_168 dL_law_1044 (hY M2 k2.1.1 k2.1.2) rfl rfl k2.1.1.1.1 k2.1.1.1.2 rfl rfl (by omega) (Nat.zero_le _) (Nat.zero_le _) (Nat.le_of_ble_eq_true rfl) rfl (fun E M9 h9 => h9.elim) (fun v9 M3 h9 => ?_)
  obtain ⟨rfl, hu⟩ := h9
  obtain ⟨j1, j2, j3⟩ := ww_J k1 k2 hu
  refine ww_istore (i := 6) (lv2 := [(0, _), (1, _), (2, _), (3, _), (4, _), (5, _), (6, _)]) dL_law_1047 (Nat.le_of_ble_eq_true rfl) rfl ?_
  refine ww_aload_n (i := 2) dL_law_1049 rfl rfl ?_
  refine ww_callV (κ := 8) (r := (RX7, TX7, 33)) wk_L_121 dL_law_1050 (ww_thrn j1 j2 hc) rfl rfl j2.1.1.1.1 j2.1.1.1.2 rfl rfl (by omega) (Nat.zero_le _) (Nat.zero_le _) (Nat.le_of_ble_eq_true rfl) rfl (fun E M9 h9 => h9.elim) (fun v9 M4 h9 => ?_)
  obtain ⟨rfl, i1, i2, i3⟩ := h9
  refine ww_iload (i := 5) dL_law_1053 rfl ?_
  refine ww_icmp_eq_t (tgt := 1060) dL_law_1055 (by decide) rfl ?_
  refine ww_iload (i := 5) dL_law_1060 rfl ?_
  by_cases hcd : code = 0
  · refine ww_if_ne_f (tgt := 1077) dL_law_1062 (by decide) hcd ?_
    obtain ⟨rfl, hB⟩ := hr2 hcd
    have ez : ww_Z M4 ol 0 = r2.toInt64 := by rw [i3, j3]; exact k3 trivial hcd
    refine ww_aload_n (i := 3) dL_law_1065 rfl rfl ?_
    refine ww_iconst (v := 0) dL_law_1066 (by decide) ?_
    refine ww_lald (j := 0) dL_law_1067 i2.2.1.1.1 i2.2.1.1.2 nI_0.symm (by rw [i2.2.1.2]; decide) (by rw [i2.2.1.2]; decide) ?_
    rw [ez]
    refine ww_iload (i := 6) dL_law_1068 rfl ?_
    refine ww_i2l dL_law_1070 ?_
    refine ww_lcmp dL_law_1071 ?_
    refine ww_if_eq_t (tgt := 1077) dL_law_1072 (by decide) ww_cmp_s ?_
    refine ww_goto (tgt := 2013) dL_law_1077 (by decide) ?_
    exact ww_subk (kk M4 S2 i1 i2) ⟨rfl, rfl, rfl, rfl, rfl, trivial⟩
  · refine ww_if_ne_t (tgt := 1077) dL_law_1062 (by decide) hcd ?_
    refine ww_goto (tgt := 2013) dL_law_1077 (by decide) ?_
    exact ww_subk (kk M4 S2 i1 i2) ⟨rfl, rfl, rfl, rfl, rfl, trivial⟩
set_option maxRecDepth 20000 in
theorem law_release (h : ww_mc g c b S M) (hm : ww_mm mo ar ol c S M) (hb : b < 512) (hL : 5 * b + 5 ≤ ww_gl g) (hgl : ww_gl g ≤ 2560) (hd : 16 ≤ d) (hkc : 10 ≤ kc) (hks : 1100 ≤ ks) (kk : ∀ M' S', ww_mc g c (b + 1) S' M' → ww_mm mo ar ol c S' M' → ww_A g wy_L_law d (kc - 10) (ks - 1100) M' 2013 [(0, .ref (ww_gb g)), (1, .ref (c 0)), (2, .ref mo), (3, .ref ol), (4, .int (nI (5 * b)))] [] Q X) : ww_A g wy_L_law d kc ks M 1080 [(0, .ref (ww_gb g)), (1, .ref (c 0)), (2, .ref mo), (3, .ref ol), (4, .int (nI (5 * b)))] [] Q X := by
  obtain ⟨ea, P, W, kl, f, z, D, E, n, u, w, m, hr, H⟩ := h
  have e1 : nI (5 * b) + 1 = nI (5 * b + 1) := by rw [show (1 : Int32) = nI 1 from by decide, nI_add]
  have e2 : nI (5 * b) + 2 = nI (5 * b + 2) := by rw [show (2 : Int32) = nI 2 from by decide, nI_add]
  have e3 : nI (5 * b) + 3 = nI (5 * b + 3) := by rw [show (3 : Int32) = nI 3 from by decide, nI_add]
  have e4 : nI (5 * b) + 4 = nI (5 * b + 4) := by rw [show (4 : Int32) = nI 4 from by decide, nI_add]
  obtain ⟨code, r, r2, S2, dm, hdm, hL1, hY, hc, hr2⟩ := sp_release hr H hm hb (ww_gx g (5 * b + 1))
  refine ww_aload_n (i := 1) dL_law_1080 rfl rfl ?_
  refine ww_aload_n (i := 0) dL_law_1081 rfl rfl ?_
  refine ww_iload (i := 4) dL_law_1082 rfl ?_
  refine ww_iconst (v := 1) dL_law_1084 (by decide) ?_
  refine ww_iadd dL_law_1085 ?_
  refine ww_sld dL_law_1086 e1 (by omega) (by omega) ?_
  refine ww_aload_n (i := 3) dL_law_1087 rfl rfl ?_
  refine ww_callSH wk_L_169 rfl dL_law_1088 hL1 rfl rfl (by omega) hkc hks (Nat.le_of_ble_eq_true rfl) rfl (fun E M9 h9 => h9.elim) (fun v9 M2 h9 => ?_)
  obtain ⟨rfl, k1, k2, k3⟩ := h9
  refine ww_istore (i := 5) (lv2 := [(0, _), (1, _), (2, _), (3, _), (4, _), (5, _)]) dL_law_1091 (Nat.le_of_ble_eq_true rfl) rfl ?_
  refine ww_aload_n (i := 2) dL_law_1093 rfl rfl ?_
  refine ww_aload_n (i := 0) dL_law_1094 rfl rfl ?_
  refine ww_iload (i := 4) dL_law_1095 rfl ?_
  refine ww_iconst (v := 1) dL_law_1097 (by decide) ?_
  refine ww_iadd dL_law_1098 ?_
  refine ww_sld dL_law_1099 e1 (by omega) (by omega) ?_
  refine ww_callV (κ := 8) (r := (RX7, TX7, 33)) wk_L_171 dL_law_1100 (hY M2 k2.1.1 k2.1.2) rfl rfl k2.1.1.1.1 k2.1.1.1.2 rfl rfl (by omega) (Nat.zero_le _) (Nat.zero_le _) (Nat.le_of_ble_eq_true rfl) rfl (fun E M9 h9 => h9.elim) (fun v9 M3 h9 => ?_)
  obtain ⟨rfl, hu⟩ := h9
  obtain ⟨j1, j2, j3⟩ := ww_J k1 k2 hu
  refine ww_istore (i := 6) (lv2 := [(0, _), (1, _), (2, _), (3, _), (4, _), (5, _), (6, _)]) dL_law_1103 (Nat.le_of_ble_eq_true rfl) rfl ?_
  refine ww_aload_n (i := 2) dL_law_1105 rfl rfl ?_
  refine ww_callV (κ := 8) (r := (RX7, TX7, 33)) wk_L_121 dL_law_1106 (ww_thrn j1 j2 hc) rfl rfl j2.1.1.1.1 j2.1.1.1.2 rfl rfl (by omega) (Nat.zero_le _) (Nat.zero_le _) (Nat.le_of_ble_eq_true rfl) rfl (fun E M9 h9 => h9.elim) (fun v9 M4 h9 => ?_)
  obtain ⟨rfl, i1, i2, i3⟩ := h9
  refine ww_iload (i := 5) dL_law_1109 rfl ?_
  refine ww_icmp_eq_t (tgt := 1116) dL_law_1111 (by decide) rfl ?_
  refine ww_iload (i := 5) dL_law_1116 rfl ?_
  by_cases hcd : code = 0
  · refine ww_if_ne_f (tgt := 1133) dL_law_1118 (by decide) hcd ?_
    obtain ⟨rfl, hB⟩ := hr2 hcd
    have ez : ww_Z M4 ol 0 = r2.toInt64 := by rw [i3, j3]; exact k3 trivial hcd
    refine ww_aload_n (i := 3) dL_law_1121 rfl rfl ?_
    refine ww_iconst (v := 0) dL_law_1122 (by decide) ?_
    refine ww_lald (j := 0) dL_law_1123 i2.2.1.1.1 i2.2.1.1.2 nI_0.symm (by rw [i2.2.1.2]; decide) (by rw [i2.2.1.2]; decide) ?_
    rw [ez]
    refine ww_iload (i := 6) dL_law_1124 rfl ?_
    refine ww_i2l dL_law_1126 ?_
    refine ww_lcmp dL_law_1127 ?_
    refine ww_if_eq_t (tgt := 1133) dL_law_1128 (by decide) ww_cmp_s ?_
    refine ww_goto (tgt := 2013) dL_law_1133 (by decide) ?_
    exact ww_subk (kk M4 S2 i1 i2) ⟨rfl, rfl, rfl, rfl, rfl, trivial⟩
  · refine ww_if_ne_t (tgt := 1133) dL_law_1118 (by decide) hcd ?_
    refine ww_goto (tgt := 2013) dL_law_1133 (by decide) ?_
    exact ww_subk (kk M4 S2 i1 i2) ⟨rfl, rfl, rfl, rfl, rfl, trivial⟩
set_option maxRecDepth 20000 in
theorem law_comes (h : ww_mc g c b S M) (hm : ww_mm mo ar ol c S M) (hb : b < 512) (hL : 5 * b + 5 ≤ ww_gl g) (hgl : ww_gl g ≤ 2560) (hd : 16 ≤ d) (hkc : 10 ≤ kc) (hks : 1100 ≤ ks) (kk : ∀ M' S', ww_mc g c (b + 1) S' M' → ww_mm mo ar ol c S' M' → ww_A g wy_L_law d (kc - 10) (ks - 1100) M' 2013 [(0, .ref (ww_gb g)), (1, .ref (c 0)), (2, .ref mo), (3, .ref ol), (4, .int (nI (5 * b)))] [] Q X) : ww_A g wy_L_law d kc ks M 1136 [(0, .ref (ww_gb g)), (1, .ref (c 0)), (2, .ref mo), (3, .ref ol), (4, .int (nI (5 * b)))] [] Q X := by
  obtain ⟨ea, P, W, kl, f, z, D, E, n, u, w, m, hr, H⟩ := h
  have e1 : nI (5 * b) + 1 = nI (5 * b + 1) := by rw [show (1 : Int32) = nI 1 from by decide, nI_add]
  have e2 : nI (5 * b) + 2 = nI (5 * b + 2) := by rw [show (2 : Int32) = nI 2 from by decide, nI_add]
  have e3 : nI (5 * b) + 3 = nI (5 * b + 3) := by rw [show (3 : Int32) = nI 3 from by decide, nI_add]
  have e4 : nI (5 * b) + 4 = nI (5 * b + 4) := by rw [show (4 : Int32) = nI 4 from by decide, nI_add]
  obtain ⟨code, r, r2, S2, dm, hdm, hL1, hY, hc, hr2⟩ := sp_comes hr H hm hb (ww_gx g (5 * b + 1)) (ww_gx g (5 * b + 2))
  refine ww_aload_n (i := 1) dL_law_1136 rfl rfl ?_
  refine ww_aload_n (i := 0) dL_law_1137 rfl rfl ?_
  refine ww_iload (i := 4) dL_law_1138 rfl ?_
  refine ww_iconst (v := 1) dL_law_1140 (by decide) ?_
  refine ww_iadd dL_law_1141 ?_
  refine ww_sld dL_law_1142 e1 (by omega) (by omega) ?_
  refine ww_aload_n (i := 0) dL_law_1143 rfl rfl ?_
  refine ww_iload (i := 4) dL_law_1144 rfl ?_
  refine ww_iconst (v := 2) dL_law_1146 (by decide) ?_
  refine ww_iadd dL_law_1147 ?_
  refine ww_sld dL_law_1148 e2 (by omega) (by omega) ?_
  refine ww_aload_n (i := 3) dL_law_1149 rfl rfl ?_
  refine ww_callSH wk_L_172 rfl dL_law_1150 hL1 rfl rfl (by omega) hkc hks (Nat.le_of_ble_eq_true rfl) rfl (fun E M9 h9 => h9.elim) (fun v9 M2 h9 => ?_)
  obtain ⟨rfl, k1, k2, k3⟩ := h9
  refine ww_istore (i := 5) (lv2 := [(0, _), (1, _), (2, _), (3, _), (4, _), (5, _)]) dL_law_1153 (Nat.le_of_ble_eq_true rfl) rfl ?_
  refine ww_aload_n (i := 2) dL_law_1155 rfl rfl ?_
  refine ww_aload_n (i := 0) dL_law_1156 rfl rfl ?_
  refine ww_iload (i := 4) dL_law_1157 rfl ?_
  refine ww_iconst (v := 1) dL_law_1159 (by decide) ?_
  refine ww_iadd dL_law_1160 ?_
  refine ww_sld dL_law_1161 e1 (by omega) (by omega) ?_
  refine ww_aload_n (i := 0) dL_law_1162 rfl rfl ?_
  refine ww_iload (i := 4) dL_law_1163 rfl ?_
  refine ww_iconst (v := 2) dL_law_1165 (by decide) ?_
  refine ww_iadd dL_law_1166 ?_
  refine ww_sld dL_law_1167 e2 (by omega) (by omega) ?_
  refine ww_callV (κ := 8) (r := (RX7, TX7, 33)) wk_L_174 dL_law_1168 (hY M2 k2.1.1 k2.1.2) rfl rfl k2.1.1.1.1 k2.1.1.1.2 rfl rfl (by omega) (Nat.zero_le _) (Nat.zero_le _) (Nat.le_of_ble_eq_true rfl) rfl (fun E M9 h9 => h9.elim) (fun v9 M3 h9 => ?_)
  obtain ⟨rfl, hu⟩ := h9
  obtain ⟨j1, j2, j3⟩ := ww_J k1 k2 hu
  refine ww_istore (i := 6) (lv2 := [(0, _), (1, _), (2, _), (3, _), (4, _), (5, _), (6, _)]) dL_law_1171 (Nat.le_of_ble_eq_true rfl) rfl ?_
  refine ww_aload_n (i := 2) dL_law_1173 rfl rfl ?_
  refine ww_callV (κ := 8) (r := (RX7, TX7, 33)) wk_L_121 dL_law_1174 (ww_thrn j1 j2 hc) rfl rfl j2.1.1.1.1 j2.1.1.1.2 rfl rfl (by omega) (Nat.zero_le _) (Nat.zero_le _) (Nat.le_of_ble_eq_true rfl) rfl (fun E M9 h9 => h9.elim) (fun v9 M4 h9 => ?_)
  obtain ⟨rfl, i1, i2, i3⟩ := h9
  refine ww_iload (i := 5) dL_law_1177 rfl ?_
  refine ww_icmp_eq_t (tgt := 1184) dL_law_1179 (by decide) rfl ?_
  refine ww_iload (i := 5) dL_law_1184 rfl ?_
  by_cases hcd : code = 0
  · refine ww_if_ne_f (tgt := 1201) dL_law_1186 (by decide) hcd ?_
    obtain ⟨rfl, hB⟩ := hr2 hcd
    have ez : ww_Z M4 ol 0 = r2.toInt64 := by rw [i3, j3]; exact k3 trivial hcd
    refine ww_aload_n (i := 3) dL_law_1189 rfl rfl ?_
    refine ww_iconst (v := 0) dL_law_1190 (by decide) ?_
    refine ww_lald (j := 0) dL_law_1191 i2.2.1.1.1 i2.2.1.1.2 nI_0.symm (by rw [i2.2.1.2]; decide) (by rw [i2.2.1.2]; decide) ?_
    rw [ez]
    refine ww_iload (i := 6) dL_law_1192 rfl ?_
    refine ww_i2l dL_law_1194 ?_
    refine ww_lcmp dL_law_1195 ?_
    refine ww_if_eq_t (tgt := 1201) dL_law_1196 (by decide) ww_cmp_s ?_
    refine ww_goto (tgt := 2013) dL_law_1201 (by decide) ?_
    exact ww_subk (kk M4 S2 i1 i2) ⟨rfl, rfl, rfl, rfl, rfl, trivial⟩
  · refine ww_if_ne_t (tgt := 1201) dL_law_1186 (by decide) hcd ?_
    refine ww_goto (tgt := 2013) dL_law_1201 (by decide) ?_
    exact ww_subk (kk M4 S2 i1 i2) ⟨rfl, rfl, rfl, rfl, rfl, trivial⟩
set_option maxRecDepth 20000 in
theorem law_night (h : ww_mc g c b S M) (hm : ww_mm mo ar ol c S M) (hb : b < 512) (hL : 5 * b + 5 ≤ ww_gl g) (hgl : ww_gl g ≤ 2560) (hd : 16 ≤ d) (hkc : 10 ≤ kc) (hks : 1100 ≤ ks) (kk : ∀ M' S', ww_mc g c (b + 1) S' M' → ww_mm mo ar ol c S' M' → ww_A g wy_L_law d (kc - 10) (ks - 1100) M' 2013 [(0, .ref (ww_gb g)), (1, .ref (c 0)), (2, .ref mo), (3, .ref ol), (4, .int (nI (5 * b)))] [] Q X) : ww_A g wy_L_law d kc ks M 1204 [(0, .ref (ww_gb g)), (1, .ref (c 0)), (2, .ref mo), (3, .ref ol), (4, .int (nI (5 * b)))] [] Q X := by
  obtain ⟨ea, P, W, kl, f, z, D, E, n, u, w, m, hr, H⟩ := h
  have e1 : nI (5 * b) + 1 = nI (5 * b + 1) := by rw [show (1 : Int32) = nI 1 from by decide, nI_add]
  have e2 : nI (5 * b) + 2 = nI (5 * b + 2) := by rw [show (2 : Int32) = nI 2 from by decide, nI_add]
  have e3 : nI (5 * b) + 3 = nI (5 * b + 3) := by rw [show (3 : Int32) = nI 3 from by decide, nI_add]
  have e4 : nI (5 * b) + 4 = nI (5 * b + 4) := by rw [show (4 : Int32) = nI 4 from by decide, nI_add]
  obtain ⟨code, r, r2, S2, dm, hdm, hL1, hY, hc, hr2⟩ := sp_night hr H hm hb 
  refine ww_aload_n (i := 1) dL_law_1204 rfl rfl ?_
  refine ww_aload_n (i := 3) dL_law_1205 rfl rfl ?_
  refine ww_callSH wk_L_175 rfl dL_law_1206 hL1 rfl rfl (by omega) hkc hks (Nat.le_of_ble_eq_true rfl) rfl (fun E M9 h9 => h9.elim) (fun v9 M2 h9 => ?_)
  obtain ⟨rfl, k1, k2, k3⟩ := h9
  refine ww_istore (i := 5) (lv2 := [(0, _), (1, _), (2, _), (3, _), (4, _), (5, _)]) dL_law_1209 (Nat.le_of_ble_eq_true rfl) rfl ?_
  refine ww_aload_n (i := 2) dL_law_1211 rfl rfl ?_
  refine ww_callV (κ := 8) (r := (RX7, TX7, 33)) wk_L_178 dL_law_1212 (hY M2 k2.1.1 k2.1.2) rfl rfl k2.1.1.1.1 k2.1.1.1.2 rfl rfl (by omega) (Nat.zero_le _) (Nat.zero_le _) (Nat.le_of_ble_eq_true rfl) rfl (fun E M9 h9 => h9.elim) (fun v9 M3 h9 => ?_)
  obtain ⟨rfl, hu⟩ := h9
  obtain ⟨j1, j2, j3⟩ := ww_J k1 k2 hu
  refine ww_istore (i := 6) (lv2 := [(0, _), (1, _), (2, _), (3, _), (4, _), (5, _), (6, _)]) dL_law_1215 (Nat.le_of_ble_eq_true rfl) rfl ?_
  refine ww_aload_n (i := 2) dL_law_1217 rfl rfl ?_
  refine ww_callV (κ := 8) (r := (RX7, TX7, 33)) wk_L_121 dL_law_1218 (ww_thrn j1 j2 hc) rfl rfl j2.1.1.1.1 j2.1.1.1.2 rfl rfl (by omega) (Nat.zero_le _) (Nat.zero_le _) (Nat.le_of_ble_eq_true rfl) rfl (fun E M9 h9 => h9.elim) (fun v9 M4 h9 => ?_)
  obtain ⟨rfl, i1, i2, i3⟩ := h9
  refine ww_iload (i := 5) dL_law_1221 rfl ?_
  refine ww_icmp_eq_t (tgt := 1228) dL_law_1223 (by decide) rfl ?_
  refine ww_iload (i := 5) dL_law_1228 rfl ?_
  by_cases hcd : code = 0
  · refine ww_if_ne_f (tgt := 1245) dL_law_1230 (by decide) hcd ?_
    obtain ⟨rfl, hB⟩ := hr2 hcd
    have ez : ww_Z M4 ol 0 = r2.toInt64 := by rw [i3, j3]; exact k3 trivial hcd
    refine ww_aload_n (i := 3) dL_law_1233 rfl rfl ?_
    refine ww_iconst (v := 0) dL_law_1234 (by decide) ?_
    refine ww_lald (j := 0) dL_law_1235 i2.2.1.1.1 i2.2.1.1.2 nI_0.symm (by rw [i2.2.1.2]; decide) (by rw [i2.2.1.2]; decide) ?_
    rw [ez]
    refine ww_iload (i := 6) dL_law_1236 rfl ?_
    refine ww_i2l dL_law_1238 ?_
    refine ww_lcmp dL_law_1239 ?_
    refine ww_if_eq_t (tgt := 1245) dL_law_1240 (by decide) ww_cmp_s ?_
    refine ww_goto (tgt := 2013) dL_law_1245 (by decide) ?_
    exact ww_subk (kk M4 S2 i1 i2) ⟨rfl, rfl, rfl, rfl, rfl, trivial⟩
  · refine ww_if_ne_t (tgt := 1245) dL_law_1230 (by decide) hcd ?_
    refine ww_goto (tgt := 2013) dL_law_1245 (by decide) ?_
    exact ww_subk (kk M4 S2 i1 i2) ⟨rfl, rfl, rfl, rfl, rfl, trivial⟩
set_option maxRecDepth 20000 in
theorem law_out (h : ww_mc g c b S M) (hm : ww_mm mo ar ol c S M) (hb : b < 512) (hL : 5 * b + 5 ≤ ww_gl g) (hgl : ww_gl g ≤ 2560) (hd : 16 ≤ d) (hkc : 10 ≤ kc) (hks : 1100 ≤ ks) (kk : ∀ M' S', ww_mc g c (b + 1) S' M' → ww_mm mo ar ol c S' M' → ww_A g wy_L_law d (kc - 10) (ks - 1100) M' 2013 [(0, .ref (ww_gb g)), (1, .ref (c 0)), (2, .ref mo), (3, .ref ol), (4, .int (nI (5 * b)))] [] Q X) : ww_A g wy_L_law d kc ks M 1248 [(0, .ref (ww_gb g)), (1, .ref (c 0)), (2, .ref mo), (3, .ref ol), (4, .int (nI (5 * b)))] [] Q X := by
  obtain ⟨ea, P, W, kl, f, z, D, E, n, u, w, m, hr, H⟩ := h
  have e1 : nI (5 * b) + 1 = nI (5 * b + 1) := by rw [show (1 : Int32) = nI 1 from by decide, nI_add]
  have e2 : nI (5 * b) + 2 = nI (5 * b + 2) := by rw [show (2 : Int32) = nI 2 from by decide, nI_add]
  have e3 : nI (5 * b) + 3 = nI (5 * b + 3) := by rw [show (3 : Int32) = nI 3 from by decide, nI_add]
  have e4 : nI (5 * b) + 4 = nI (5 * b + 4) := by rw [show (4 : Int32) = nI 4 from by decide, nI_add]
  obtain ⟨code, r, r2, S2, dm, hdm, hL1, hY, hc, hr2⟩ := sp_out hr H hm hb 
  refine ww_aload_n (i := 1) dL_law_1248 rfl rfl ?_
  refine ww_aload_n (i := 3) dL_law_1249 rfl rfl ?_
  refine ww_callSH wk_L_179 rfl dL_law_1250 hL1 rfl rfl (by omega) hkc hks (Nat.le_of_ble_eq_true rfl) rfl (fun E M9 h9 => h9.elim) (fun v9 M2 h9 => ?_)
  obtain ⟨rfl, k1, k2, k3⟩ := h9
  refine ww_istore (i := 5) (lv2 := [(0, _), (1, _), (2, _), (3, _), (4, _), (5, _)]) dL_law_1253 (Nat.le_of_ble_eq_true rfl) rfl ?_
  refine ww_aload_n (i := 2) dL_law_1255 rfl rfl ?_
  refine ww_callV (κ := 8) (r := (RX7, TX7, 33)) wk_L_181 dL_law_1256 (hY M2 k2.1.1 k2.1.2) rfl rfl k2.1.1.1.1 k2.1.1.1.2 rfl rfl (by omega) (Nat.zero_le _) (Nat.zero_le _) (Nat.le_of_ble_eq_true rfl) rfl (fun E M9 h9 => h9.elim) (fun v9 M3 h9 => ?_)
  obtain ⟨rfl, hu⟩ := h9
  obtain ⟨j1, j2, j3⟩ := ww_J k1 k2 hu
  refine ww_istore (i := 6) (lv2 := [(0, _), (1, _), (2, _), (3, _), (4, _), (5, _), (6, _)]) dL_law_1259 (Nat.le_of_ble_eq_true rfl) rfl ?_
  refine ww_aload_n (i := 2) dL_law_1261 rfl rfl ?_
  refine ww_callV (κ := 8) (r := (RX7, TX7, 33)) wk_L_121 dL_law_1262 (ww_thrn j1 j2 hc) rfl rfl j2.1.1.1.1 j2.1.1.1.2 rfl rfl (by omega) (Nat.zero_le _) (Nat.zero_le _) (Nat.le_of_ble_eq_true rfl) rfl (fun E M9 h9 => h9.elim) (fun v9 M4 h9 => ?_)
  obtain ⟨rfl, i1, i2, i3⟩ := h9
  refine ww_iload (i := 5) dL_law_1265 rfl ?_
  refine ww_icmp_eq_t (tgt := 1272) dL_law_1267 (by decide) rfl ?_
  refine ww_iload (i := 5) dL_law_1272 rfl ?_
  by_cases hcd : code = 0
  · refine ww_if_ne_f (tgt := 1289) dL_law_1274 (by decide) hcd ?_
    obtain ⟨rfl, hB⟩ := hr2 hcd
    have ez : ww_Z M4 ol 0 = r2.toInt64 := by rw [i3, j3]; exact k3 trivial hcd
    refine ww_aload_n (i := 3) dL_law_1277 rfl rfl ?_
    refine ww_iconst (v := 0) dL_law_1278 (by decide) ?_
    refine ww_lald (j := 0) dL_law_1279 i2.2.1.1.1 i2.2.1.1.2 nI_0.symm (by rw [i2.2.1.2]; decide) (by rw [i2.2.1.2]; decide) ?_
    rw [ez]
    refine ww_iload (i := 6) dL_law_1280 rfl ?_
    refine ww_i2l dL_law_1282 ?_
    refine ww_lcmp dL_law_1283 ?_
    refine ww_if_eq_t (tgt := 1289) dL_law_1284 (by decide) ww_cmp_s ?_
    refine ww_goto (tgt := 2013) dL_law_1289 (by decide) ?_
    exact ww_subk (kk M4 S2 i1 i2) ⟨rfl, rfl, rfl, rfl, rfl, trivial⟩
  · refine ww_if_ne_t (tgt := 1289) dL_law_1274 (by decide) hcd ?_
    refine ww_goto (tgt := 2013) dL_law_1289 (by decide) ?_
    exact ww_subk (kk M4 S2 i1 i2) ⟨rfl, rfl, rfl, rfl, rfl, trivial⟩
set_option maxRecDepth 20000 in
theorem law_host (h : ww_mc g c b S M) (hm : ww_mm mo ar ol c S M) (hb : b < 512) (hL : 5 * b + 5 ≤ ww_gl g) (hgl : ww_gl g ≤ 2560) (hd : 16 ≤ d) (hkc : 10 ≤ kc) (hks : 1100 ≤ ks) (kk : ∀ M' S', ww_mc g c (b + 1) S' M' → ww_mm mo ar ol c S' M' → ww_A g wy_L_law d (kc - 10) (ks - 1100) M' 2013 [(0, .ref (ww_gb g)), (1, .ref (c 0)), (2, .ref mo), (3, .ref ol), (4, .int (nI (5 * b)))] [] Q X) : ww_A g wy_L_law d kc ks M 1292 [(0, .ref (ww_gb g)), (1, .ref (c 0)), (2, .ref mo), (3, .ref ol), (4, .int (nI (5 * b)))] [] Q X := by
  obtain ⟨ea, P, W, kl, f, z, D, E, n, u, w, m, hr, H⟩ := h
  have e1 : nI (5 * b) + 1 = nI (5 * b + 1) := by rw [show (1 : Int32) = nI 1 from by decide, nI_add]
  have e2 : nI (5 * b) + 2 = nI (5 * b + 2) := by rw [show (2 : Int32) = nI 2 from by decide, nI_add]
  have e3 : nI (5 * b) + 3 = nI (5 * b + 3) := by rw [show (3 : Int32) = nI 3 from by decide, nI_add]
  have e4 : nI (5 * b) + 4 = nI (5 * b + 4) := by rw [show (4 : Int32) = nI 4 from by decide, nI_add]
  obtain ⟨code, r, r2, S2, dm, hdm, hL1, hY, hc, hr2⟩ := sp_host hr H hm hb (ww_gx g (5 * b + 1))
  refine ww_aload_n (i := 1) dL_law_1292 rfl rfl ?_
  refine ww_aload_n (i := 0) dL_law_1293 rfl rfl ?_
  refine ww_iload (i := 4) dL_law_1294 rfl ?_
  refine ww_iconst (v := 1) dL_law_1296 (by decide) ?_
  refine ww_iadd dL_law_1297 ?_
  refine ww_sld dL_law_1298 e1 (by omega) (by omega) ?_
  refine ww_aload_n (i := 3) dL_law_1299 rfl rfl ?_
  refine ww_callSH wk_L_182 rfl dL_law_1300 hL1 rfl rfl (by omega) hkc hks (Nat.le_of_ble_eq_true rfl) rfl (fun E M9 h9 => h9.elim) (fun v9 M2 h9 => ?_)
  obtain ⟨rfl, k1, k2, k3⟩ := h9
  refine ww_istore (i := 5) (lv2 := [(0, _), (1, _), (2, _), (3, _), (4, _), (5, _)]) dL_law_1303 (Nat.le_of_ble_eq_true rfl) rfl ?_
  refine ww_aload_n (i := 2) dL_law_1305 rfl rfl ?_
  refine ww_aload_n (i := 0) dL_law_1306 rfl rfl ?_
  refine ww_iload (i := 4) dL_law_1307 rfl ?_
  refine ww_iconst (v := 1) dL_law_1309 (by decide) ?_
  refine ww_iadd dL_law_1310 ?_
  refine ww_sld dL_law_1311 e1 (by omega) (by omega) ?_
  refine ww_callV (κ := 8) (r := (RX7, TX7, 33)) wk_L_184 dL_law_1312 (hY M2 k2.1.1 k2.1.2) rfl rfl k2.1.1.1.1 k2.1.1.1.2 rfl rfl (by omega) (Nat.zero_le _) (Nat.zero_le _) (Nat.le_of_ble_eq_true rfl) rfl (fun E M9 h9 => h9.elim) (fun v9 M3 h9 => ?_)
  obtain ⟨rfl, hu⟩ := h9
  obtain ⟨j1, j2, j3⟩ := ww_J k1 k2 hu
  refine ww_istore (i := 6) (lv2 := [(0, _), (1, _), (2, _), (3, _), (4, _), (5, _), (6, _)]) dL_law_1315 (Nat.le_of_ble_eq_true rfl) rfl ?_
  refine ww_aload_n (i := 2) dL_law_1317 rfl rfl ?_
  refine ww_callV (κ := 8) (r := (RX7, TX7, 33)) wk_L_121 dL_law_1318 (ww_thrn j1 j2 hc) rfl rfl j2.1.1.1.1 j2.1.1.1.2 rfl rfl (by omega) (Nat.zero_le _) (Nat.zero_le _) (Nat.le_of_ble_eq_true rfl) rfl (fun E M9 h9 => h9.elim) (fun v9 M4 h9 => ?_)
  obtain ⟨rfl, i1, i2, i3⟩ := h9
  refine ww_iload (i := 5) dL_law_1321 rfl ?_
  refine ww_icmp_eq_t (tgt := 1328) dL_law_1323 (by decide) rfl ?_
  refine ww_iload (i := 5) dL_law_1328 rfl ?_
  by_cases hcd : code = 0
  · refine ww_if_ne_f (tgt := 1345) dL_law_1330 (by decide) hcd ?_
    obtain ⟨rfl, hB⟩ := hr2 hcd
    have ez : ww_Z M4 ol 0 = r2.toInt64 := by rw [i3, j3]; exact k3 trivial hcd
    refine ww_aload_n (i := 3) dL_law_1333 rfl rfl ?_
    refine ww_iconst (v := 0) dL_law_1334 (by decide) ?_
    refine ww_lald (j := 0) dL_law_1335 i2.2.1.1.1 i2.2.1.1.2 nI_0.symm (by rw [i2.2.1.2]; decide) (by rw [i2.2.1.2]; decide) ?_
    rw [ez]
    refine ww_iload (i := 6) dL_law_1336 rfl ?_
    refine ww_i2l dL_law_1338 ?_
    refine ww_lcmp dL_law_1339 ?_
    refine ww_if_eq_t (tgt := 1345) dL_law_1340 (by decide) ww_cmp_s ?_
    refine ww_goto (tgt := 2013) dL_law_1345 (by decide) ?_
    exact ww_subk (kk M4 S2 i1 i2) ⟨rfl, rfl, rfl, rfl, rfl, trivial⟩
  · refine ww_if_ne_t (tgt := 1345) dL_law_1330 (by decide) hcd ?_
    refine ww_goto (tgt := 2013) dL_law_1345 (by decide) ?_
    exact ww_subk (kk M4 S2 i1 i2) ⟨rfl, rfl, rfl, rfl, rfl, trivial⟩
set_option maxRecDepth 20000 in
theorem law_head (h : ww_mc g c b S M) (hm : ww_mm mo ar ol c S M) (hb : b < 512) (hL : 5 * b + 5 ≤ ww_gl g) (hgl : ww_gl g ≤ 2560) (hd : 16 ≤ d) (hkc : 10 ≤ kc) (hks : 1100 ≤ ks) (kk : ∀ M' S', ww_mc g c (b + 1) S' M' → ww_mm mo ar ol c S' M' → ww_A g wy_L_law d (kc - 10) (ks - 1100) M' 2013 [(0, .ref (ww_gb g)), (1, .ref (c 0)), (2, .ref mo), (3, .ref ol), (4, .int (nI (5 * b)))] [] Q X) : ww_A g wy_L_law d kc ks M 1348 [(0, .ref (ww_gb g)), (1, .ref (c 0)), (2, .ref mo), (3, .ref ol), (4, .int (nI (5 * b)))] [] Q X := by
  obtain ⟨ea, P, W, kl, f, z, D, E, n, u, w, m, hr, H⟩ := h
  have e1 : nI (5 * b) + 1 = nI (5 * b + 1) := by rw [show (1 : Int32) = nI 1 from by decide, nI_add]
  have e2 : nI (5 * b) + 2 = nI (5 * b + 2) := by rw [show (2 : Int32) = nI 2 from by decide, nI_add]
  have e3 : nI (5 * b) + 3 = nI (5 * b + 3) := by rw [show (3 : Int32) = nI 3 from by decide, nI_add]
  have e4 : nI (5 * b) + 4 = nI (5 * b + 4) := by rw [show (4 : Int32) = nI 4 from by decide, nI_add]
  obtain ⟨code, r, r2, S2, dm, hdm, hL1, hY, hc, hr2⟩ := sp_head hr H hm hb (ww_gx g (5 * b + 1))
  refine ww_aload_n (i := 1) dL_law_1348 rfl rfl ?_
  refine ww_aload_n (i := 0) dL_law_1349 rfl rfl ?_
  refine ww_iload (i := 4) dL_law_1350 rfl ?_
  refine ww_iconst (v := 1) dL_law_1352 (by decide) ?_
  refine ww_iadd dL_law_1353 ?_
  refine ww_sld dL_law_1354 e1 (by omega) (by omega) ?_
  refine ww_aload_n (i := 3) dL_law_1355 rfl rfl ?_
  refine ww_callSH wk_L_185 rfl dL_law_1356 hL1 rfl rfl (by omega) hkc hks (Nat.le_of_ble_eq_true rfl) rfl (fun E M9 h9 => h9.elim) (fun v9 M2 h9 => ?_)
  obtain ⟨rfl, k1, k2, k3⟩ := h9
  refine ww_istore (i := 5) (lv2 := [(0, _), (1, _), (2, _), (3, _), (4, _), (5, _)]) dL_law_1359 (Nat.le_of_ble_eq_true rfl) rfl ?_
  refine ww_aload_n (i := 2) dL_law_1361 rfl rfl ?_
  refine ww_aload_n (i := 0) dL_law_1362 rfl rfl ?_
  refine ww_iload (i := 4) dL_law_1363 rfl ?_
  refine ww_iconst (v := 1) dL_law_1365 (by decide) ?_
  refine ww_iadd dL_law_1366 ?_
  refine ww_sld dL_law_1367 e1 (by omega) (by omega) ?_
  refine ww_callV (κ := 8) (r := (RX7, TX7, 33)) wk_L_187 dL_law_1368 (hY M2 k2.1.1 k2.1.2) rfl rfl k2.1.1.1.1 k2.1.1.1.2 rfl rfl (by omega) (Nat.zero_le _) (Nat.zero_le _) (Nat.le_of_ble_eq_true rfl) rfl (fun E M9 h9 => h9.elim) (fun v9 M3 h9 => ?_)
  obtain ⟨rfl, hu⟩ := h9
  obtain ⟨j1, j2, j3⟩ := ww_J k1 k2 hu
  refine ww_istore (i := 6) (lv2 := [(0, _), (1, _), (2, _), (3, _), (4, _), (5, _), (6, _)]) dL_law_1371 (Nat.le_of_ble_eq_true rfl) rfl ?_
  refine ww_aload_n (i := 2) dL_law_1373 rfl rfl ?_
  refine ww_callV (κ := 8) (r := (RX7, TX7, 33)) wk_L_121 dL_law_1374 (ww_thrn j1 j2 hc) rfl rfl j2.1.1.1.1 j2.1.1.1.2 rfl rfl (by omega) (Nat.zero_le _) (Nat.zero_le _) (Nat.le_of_ble_eq_true rfl) rfl (fun E M9 h9 => h9.elim) (fun v9 M4 h9 => ?_)
  obtain ⟨rfl, i1, i2, i3⟩ := h9
  refine ww_iload (i := 5) dL_law_1377 rfl ?_
  refine ww_icmp_eq_t (tgt := 1384) dL_law_1379 (by decide) rfl ?_
  refine ww_iload (i := 5) dL_law_1384 rfl ?_
  by_cases hcd : code = 0
  · refine ww_if_ne_f (tgt := 1401) dL_law_1386 (by decide) hcd ?_
    obtain ⟨rfl, hB⟩ := hr2 hcd
    have ez : ww_Z M4 ol 0 = r2.toInt64 := by rw [i3, j3]; exact k3 trivial hcd
    refine ww_aload_n (i := 3) dL_law_1389 rfl rfl ?_
    refine ww_iconst (v := 0) dL_law_1390 (by decide) ?_
    refine ww_lald (j := 0) dL_law_1391 i2.2.1.1.1 i2.2.1.1.2 nI_0.symm (by rw [i2.2.1.2]; decide) (by rw [i2.2.1.2]; decide) ?_
    rw [ez]
    refine ww_iload (i := 6) dL_law_1392 rfl ?_
    refine ww_i2l dL_law_1394 ?_
    refine ww_lcmp dL_law_1395 ?_
    refine ww_if_eq_t (tgt := 1401) dL_law_1396 (by decide) ww_cmp_s ?_
    refine ww_goto (tgt := 2013) dL_law_1401 (by decide) ?_
    exact ww_subk (kk M4 S2 i1 i2) ⟨rfl, rfl, rfl, rfl, rfl, trivial⟩
  · refine ww_if_ne_t (tgt := 1401) dL_law_1386 (by decide) hcd ?_
    refine ww_goto (tgt := 2013) dL_law_1401 (by decide) ?_
    exact ww_subk (kk M4 S2 i1 i2) ⟨rfl, rfl, rfl, rfl, rfl, trivial⟩
set_option maxRecDepth 20000 in
theorem law_ofPart (h : ww_mc g c b S M) (hm : ww_mm mo ar ol c S M) (hb : b < 512) (hL : 5 * b + 5 ≤ ww_gl g) (hgl : ww_gl g ≤ 2560) (hd : 16 ≤ d) (hkc : 10 ≤ kc) (hks : 1100 ≤ ks) (kk : ∀ M' S', ww_mc g c (b + 1) S' M' → ww_mm mo ar ol c S' M' → ww_A g wy_L_law d (kc - 10) (ks - 1100) M' 2013 [(0, .ref (ww_gb g)), (1, .ref (c 0)), (2, .ref mo), (3, .ref ol), (4, .int (nI (5 * b)))] [] Q X) : ww_A g wy_L_law d kc ks M 1404 [(0, .ref (ww_gb g)), (1, .ref (c 0)), (2, .ref mo), (3, .ref ol), (4, .int (nI (5 * b)))] [] Q X := by
  obtain ⟨ea, P, W, kl, f, z, D, E, n, u, w, m, hr, H⟩ := h
  have e1 : nI (5 * b) + 1 = nI (5 * b + 1) := by rw [show (1 : Int32) = nI 1 from by decide, nI_add]
  have e2 : nI (5 * b) + 2 = nI (5 * b + 2) := by rw [show (2 : Int32) = nI 2 from by decide, nI_add]
  have e3 : nI (5 * b) + 3 = nI (5 * b + 3) := by rw [show (3 : Int32) = nI 3 from by decide, nI_add]
  have e4 : nI (5 * b) + 4 = nI (5 * b + 4) := by rw [show (4 : Int32) = nI 4 from by decide, nI_add]
  obtain ⟨code, r, r2, S2, dm, hdm, hL1, hY, hc, hr2⟩ := sp_ofPart hr H hm hb (ww_gx g (5 * b + 1)) (ww_gx g (5 * b + 2))
  refine ww_aload_n (i := 1) dL_law_1404 rfl rfl ?_
  refine ww_aload_n (i := 0) dL_law_1405 rfl rfl ?_
  refine ww_iload (i := 4) dL_law_1406 rfl ?_
  refine ww_iconst (v := 1) dL_law_1408 (by decide) ?_
  refine ww_iadd dL_law_1409 ?_
  refine ww_sld dL_law_1410 e1 (by omega) (by omega) ?_
  refine ww_aload_n (i := 0) dL_law_1411 rfl rfl ?_
  refine ww_iload (i := 4) dL_law_1412 rfl ?_
  refine ww_iconst (v := 2) dL_law_1414 (by decide) ?_
  refine ww_iadd dL_law_1415 ?_
  refine ww_sld dL_law_1416 e2 (by omega) (by omega) ?_
  refine ww_aload_n (i := 3) dL_law_1417 rfl rfl ?_
  refine ww_callSH wk_L_188 rfl dL_law_1418 hL1 rfl rfl (by omega) hkc hks (Nat.le_of_ble_eq_true rfl) rfl (fun E M9 h9 => h9.elim) (fun v9 M2 h9 => ?_)
  obtain ⟨rfl, k1, k2, k3⟩ := h9
  refine ww_istore (i := 5) (lv2 := [(0, _), (1, _), (2, _), (3, _), (4, _), (5, _)]) dL_law_1421 (Nat.le_of_ble_eq_true rfl) rfl ?_
  refine ww_aload_n (i := 2) dL_law_1423 rfl rfl ?_
  refine ww_aload_n (i := 0) dL_law_1424 rfl rfl ?_
  refine ww_iload (i := 4) dL_law_1425 rfl ?_
  refine ww_iconst (v := 1) dL_law_1427 (by decide) ?_
  refine ww_iadd dL_law_1428 ?_
  refine ww_sld dL_law_1429 e1 (by omega) (by omega) ?_
  refine ww_aload_n (i := 0) dL_law_1430 rfl rfl ?_
  refine ww_iload (i := 4) dL_law_1431 rfl ?_
  refine ww_iconst (v := 2) dL_law_1433 (by decide) ?_
  refine ww_iadd dL_law_1434 ?_
  refine ww_sld dL_law_1435 e2 (by omega) (by omega) ?_
  refine ww_callV (κ := 8) (r := (RX7, TX7, 33)) wk_L_190 dL_law_1436 (hY M2 k2.1.1 k2.1.2) rfl rfl k2.1.1.1.1 k2.1.1.1.2 rfl rfl (by omega) (Nat.zero_le _) (Nat.zero_le _) (Nat.le_of_ble_eq_true rfl) rfl (fun E M9 h9 => h9.elim) (fun v9 M3 h9 => ?_)
  obtain ⟨rfl, hu⟩ := h9
  obtain ⟨j1, j2, j3⟩ := ww_J k1 k2 hu
  refine ww_istore (i := 6) (lv2 := [(0, _), (1, _), (2, _), (3, _), (4, _), (5, _), (6, _)]) dL_law_1439 (Nat.le_of_ble_eq_true rfl) rfl ?_
  refine ww_aload_n (i := 2) dL_law_1441 rfl rfl ?_
  refine ww_callV (κ := 8) (r := (RX7, TX7, 33)) wk_L_121 dL_law_1442 (ww_thrn j1 j2 hc) rfl rfl j2.1.1.1.1 j2.1.1.1.2 rfl rfl (by omega) (Nat.zero_le _) (Nat.zero_le _) (Nat.le_of_ble_eq_true rfl) rfl (fun E M9 h9 => h9.elim) (fun v9 M4 h9 => ?_)
  obtain ⟨rfl, i1, i2, i3⟩ := h9
  refine ww_iload (i := 5) dL_law_1445 rfl ?_
  refine ww_icmp_eq_t (tgt := 1452) dL_law_1447 (by decide) rfl ?_
  refine ww_iload (i := 5) dL_law_1452 rfl ?_
  by_cases hcd : code = 0
  · refine ww_if_ne_f (tgt := 1469) dL_law_1454 (by decide) hcd ?_
    obtain ⟨rfl, hB⟩ := hr2 hcd
    have ez : ww_Z M4 ol 0 = r2.toInt64 := by rw [i3, j3]; exact k3 trivial hcd
    refine ww_aload_n (i := 3) dL_law_1457 rfl rfl ?_
    refine ww_iconst (v := 0) dL_law_1458 (by decide) ?_
    refine ww_lald (j := 0) dL_law_1459 i2.2.1.1.1 i2.2.1.1.2 nI_0.symm (by rw [i2.2.1.2]; decide) (by rw [i2.2.1.2]; decide) ?_
    rw [ez]
    refine ww_iload (i := 6) dL_law_1460 rfl ?_
    refine ww_i2l dL_law_1462 ?_
    refine ww_lcmp dL_law_1463 ?_
    refine ww_if_eq_t (tgt := 1469) dL_law_1464 (by decide) ww_cmp_s ?_
    refine ww_goto (tgt := 2013) dL_law_1469 (by decide) ?_
    exact ww_subk (kk M4 S2 i1 i2) ⟨rfl, rfl, rfl, rfl, rfl, trivial⟩
  · refine ww_if_ne_t (tgt := 1469) dL_law_1454 (by decide) hcd ?_
    refine ww_goto (tgt := 2013) dL_law_1469 (by decide) ?_
    exact ww_subk (kk M4 S2 i1 i2) ⟨rfl, rfl, rfl, rfl, rfl, trivial⟩
set_option maxRecDepth 20000 in
theorem law_trace (h : ww_mc g c b S M) (hm : ww_mm mo ar ol c S M) (hb : b < 512) (hL : 5 * b + 5 ≤ ww_gl g) (hgl : ww_gl g ≤ 2560) (hd : 16 ≤ d) (hkc : 10 ≤ kc) (hks : 1100 ≤ ks) (kk : ∀ M' S', ww_mc g c (b + 1) S' M' → ww_mm mo ar ol c S' M' → ww_A g wy_L_law d (kc - 10) (ks - 1100) M' 2013 [(0, .ref (ww_gb g)), (1, .ref (c 0)), (2, .ref mo), (3, .ref ol), (4, .int (nI (5 * b)))] [] Q X) : ww_A g wy_L_law d kc ks M 1472 [(0, .ref (ww_gb g)), (1, .ref (c 0)), (2, .ref mo), (3, .ref ol), (4, .int (nI (5 * b)))] [] Q X := by
  obtain ⟨ea, P, W, kl, f, z, D, E, n, u, w, m, hr, H⟩ := h
  have e1 : nI (5 * b) + 1 = nI (5 * b + 1) := by rw [show (1 : Int32) = nI 1 from by decide, nI_add]
  have e2 : nI (5 * b) + 2 = nI (5 * b + 2) := by rw [show (2 : Int32) = nI 2 from by decide, nI_add]
  have e3 : nI (5 * b) + 3 = nI (5 * b + 3) := by rw [show (3 : Int32) = nI 3 from by decide, nI_add]
  have e4 : nI (5 * b) + 4 = nI (5 * b + 4) := by rw [show (4 : Int32) = nI 4 from by decide, nI_add]
  obtain ⟨code, r, r2, S2, dm, hdm, hL1, hY, hc, hr2⟩ := sp_trace hr H hm hb (ww_gx g (5 * b + 1)) (ww_gx g (5 * b + 2))
  refine ww_aload_n (i := 1) dL_law_1472 rfl rfl ?_
  refine ww_aload_n (i := 0) dL_law_1473 rfl rfl ?_
  refine ww_iload (i := 4) dL_law_1474 rfl ?_
  refine ww_iconst (v := 1) dL_law_1476 (by decide) ?_
  refine ww_iadd dL_law_1477 ?_
  refine ww_sld dL_law_1478 e1 (by omega) (by omega) ?_
  refine ww_aload_n (i := 0) dL_law_1479 rfl rfl ?_
  refine ww_iload (i := 4) dL_law_1480 rfl ?_
  refine ww_iconst (v := 2) dL_law_1482 (by decide) ?_
  refine ww_iadd dL_law_1483 ?_
  refine ww_sld dL_law_1484 e2 (by omega) (by omega) ?_
  refine ww_aload_n (i := 3) dL_law_1485 rfl rfl ?_
  refine ww_callSH wk_L_191 rfl dL_law_1486 hL1 rfl rfl (by omega) hkc hks (Nat.le_of_ble_eq_true rfl) rfl (fun E M9 h9 => h9.elim) (fun v9 M2 h9 => ?_)
  obtain ⟨rfl, k1, k2, k3⟩ := h9
  refine ww_istore (i := 5) (lv2 := [(0, _), (1, _), (2, _), (3, _), (4, _), (5, _)]) dL_law_1489 (Nat.le_of_ble_eq_true rfl) rfl ?_
  refine ww_aload_n (i := 2) dL_law_1491 rfl rfl ?_
  refine ww_aload_n (i := 0) dL_law_1492 rfl rfl ?_
  refine ww_iload (i := 4) dL_law_1493 rfl ?_
  refine ww_iconst (v := 1) dL_law_1495 (by decide) ?_
  refine ww_iadd dL_law_1496 ?_
  refine ww_sld dL_law_1497 e1 (by omega) (by omega) ?_
  refine ww_aload_n (i := 0) dL_law_1498 rfl rfl ?_
  refine ww_iload (i := 4) dL_law_1499 rfl ?_
  refine ww_iconst (v := 2) dL_law_1501 (by decide) ?_
  refine ww_iadd dL_law_1502 ?_
  refine ww_sld dL_law_1503 e2 (by omega) (by omega) ?_
  refine ww_callV (κ := 8) (r := (RX7, TX7, 33)) wk_L_193 dL_law_1504 (hY M2 k2.1.1 k2.1.2) rfl rfl k2.1.1.1.1 k2.1.1.1.2 rfl rfl (by omega) (Nat.zero_le _) (Nat.zero_le _) (Nat.le_of_ble_eq_true rfl) rfl (fun E M9 h9 => h9.elim) (fun v9 M3 h9 => ?_)
  obtain ⟨rfl, hu⟩ := h9
  obtain ⟨j1, j2, j3⟩ := ww_J k1 k2 hu
  refine ww_istore (i := 6) (lv2 := [(0, _), (1, _), (2, _), (3, _), (4, _), (5, _), (6, _)]) dL_law_1507 (Nat.le_of_ble_eq_true rfl) rfl ?_
  refine ww_aload_n (i := 2) dL_law_1509 rfl rfl ?_
  refine ww_callV (κ := 8) (r := (RX7, TX7, 33)) wk_L_121 dL_law_1510 (ww_thrn j1 j2 hc) rfl rfl j2.1.1.1.1 j2.1.1.1.2 rfl rfl (by omega) (Nat.zero_le _) (Nat.zero_le _) (Nat.le_of_ble_eq_true rfl) rfl (fun E M9 h9 => h9.elim) (fun v9 M4 h9 => ?_)
  obtain ⟨rfl, i1, i2, i3⟩ := h9
  refine ww_iload (i := 5) dL_law_1513 rfl ?_
  refine ww_icmp_eq_t (tgt := 1520) dL_law_1515 (by decide) rfl ?_
  refine ww_iload (i := 5) dL_law_1520 rfl ?_
  by_cases hcd : code = 0
  · refine ww_if_ne_f (tgt := 1537) dL_law_1522 (by decide) hcd ?_
    obtain ⟨rfl, hB⟩ := hr2 hcd
    have ez : ww_Z M4 ol 0 = r2.toInt64 := by rw [i3, j3]; exact k3 trivial hcd
    refine ww_aload_n (i := 3) dL_law_1525 rfl rfl ?_
    refine ww_iconst (v := 0) dL_law_1526 (by decide) ?_
    refine ww_lald (j := 0) dL_law_1527 i2.2.1.1.1 i2.2.1.1.2 nI_0.symm (by rw [i2.2.1.2]; decide) (by rw [i2.2.1.2]; decide) ?_
    rw [ez]
    refine ww_iload (i := 6) dL_law_1528 rfl ?_
    refine ww_i2l dL_law_1530 ?_
    refine ww_lcmp dL_law_1531 ?_
    refine ww_if_eq_t (tgt := 1537) dL_law_1532 (by decide) ww_cmp_s ?_
    refine ww_goto (tgt := 2013) dL_law_1537 (by decide) ?_
    exact ww_subk (kk M4 S2 i1 i2) ⟨rfl, rfl, rfl, rfl, rfl, trivial⟩
  · refine ww_if_ne_t (tgt := 1537) dL_law_1522 (by decide) hcd ?_
    refine ww_goto (tgt := 2013) dL_law_1537 (by decide) ?_
    exact ww_subk (kk M4 S2 i1 i2) ⟨rfl, rfl, rfl, rfl, rfl, trivial⟩
set_option maxRecDepth 20000 in
theorem law_lifeAnew (h : ww_mc g c b S M) (hm : ww_mm mo ar ol c S M) (hb : b < 512) (hL : 5 * b + 5 ≤ ww_gl g) (hgl : ww_gl g ≤ 2560) (hd : 16 ≤ d) (hkc : 10 ≤ kc) (hks : 1100 ≤ ks) (kk : ∀ M' S', ww_mc g c (b + 1) S' M' → ww_mm mo ar ol c S' M' → ww_A g wy_L_law d (kc - 10) (ks - 1100) M' 2013 [(0, .ref (ww_gb g)), (1, .ref (c 0)), (2, .ref mo), (3, .ref ol), (4, .int (nI (5 * b)))] [] Q X) : ww_A g wy_L_law d kc ks M 1540 [(0, .ref (ww_gb g)), (1, .ref (c 0)), (2, .ref mo), (3, .ref ol), (4, .int (nI (5 * b)))] [] Q X := by
  obtain ⟨ea, P, W, kl, f, z, D, E, n, u, w, m, hr, H⟩ := h
  have e1 : nI (5 * b) + 1 = nI (5 * b + 1) := by rw [show (1 : Int32) = nI 1 from by decide, nI_add]
  have e2 : nI (5 * b) + 2 = nI (5 * b + 2) := by rw [show (2 : Int32) = nI 2 from by decide, nI_add]
  have e3 : nI (5 * b) + 3 = nI (5 * b + 3) := by rw [show (3 : Int32) = nI 3 from by decide, nI_add]
  have e4 : nI (5 * b) + 4 = nI (5 * b + 4) := by rw [show (4 : Int32) = nI 4 from by decide, nI_add]
  obtain ⟨code, r, r2, S2, dm, hdm, hL1, hY, hc, hr2⟩ := sp_lifeAnew hr H hm hb (ww_gx g (5 * b + 1))
  refine ww_aload_n (i := 1) dL_law_1540 rfl rfl ?_
  refine ww_aload_n (i := 0) dL_law_1541 rfl rfl ?_
  refine ww_iload (i := 4) dL_law_1542 rfl ?_
  refine ww_iconst (v := 1) dL_law_1544 (by decide) ?_
  refine ww_iadd dL_law_1545 ?_
  refine ww_sld dL_law_1546 e1 (by omega) (by omega) ?_
  refine ww_aload_n (i := 3) dL_law_1547 rfl rfl ?_
  refine ww_callSH wk_L_194 rfl dL_law_1548 hL1 rfl rfl (by omega) hkc hks (Nat.le_of_ble_eq_true rfl) rfl (fun E M9 h9 => h9.elim) (fun v9 M2 h9 => ?_)
  obtain ⟨rfl, k1, k2, k3⟩ := h9
  refine ww_istore (i := 5) (lv2 := [(0, _), (1, _), (2, _), (3, _), (4, _), (5, _)]) dL_law_1551 (Nat.le_of_ble_eq_true rfl) rfl ?_
  refine ww_aload_n (i := 2) dL_law_1553 rfl rfl ?_
  refine ww_aload_n (i := 0) dL_law_1554 rfl rfl ?_
  refine ww_iload (i := 4) dL_law_1555 rfl ?_
  refine ww_iconst (v := 1) dL_law_1557 (by decide) ?_
  refine ww_iadd dL_law_1558 ?_
  refine ww_sld dL_law_1559 e1 (by omega) (by omega) ?_
  refine ww_callV (κ := 8) (r := (RX7, TX7, 33)) wk_L_196 dL_law_1560 (hY M2 k2.1.1 k2.1.2) rfl rfl k2.1.1.1.1 k2.1.1.1.2 rfl rfl (by omega) (Nat.zero_le _) (Nat.zero_le _) (Nat.le_of_ble_eq_true rfl) rfl (fun E M9 h9 => h9.elim) (fun v9 M3 h9 => ?_)
  obtain ⟨rfl, hu⟩ := h9
  obtain ⟨j1, j2, j3⟩ := ww_J k1 k2 hu
  refine ww_istore (i := 6) (lv2 := [(0, _), (1, _), (2, _), (3, _), (4, _), (5, _), (6, _)]) dL_law_1563 (Nat.le_of_ble_eq_true rfl) rfl ?_
  refine ww_aload_n (i := 2) dL_law_1565 rfl rfl ?_
  refine ww_callV (κ := 8) (r := (RX7, TX7, 33)) wk_L_121 dL_law_1566 (ww_thrn j1 j2 hc) rfl rfl j2.1.1.1.1 j2.1.1.1.2 rfl rfl (by omega) (Nat.zero_le _) (Nat.zero_le _) (Nat.le_of_ble_eq_true rfl) rfl (fun E M9 h9 => h9.elim) (fun v9 M4 h9 => ?_)
  obtain ⟨rfl, i1, i2, i3⟩ := h9
  refine ww_iload (i := 5) dL_law_1569 rfl ?_
  refine ww_icmp_eq_t (tgt := 1576) dL_law_1571 (by decide) rfl ?_
  refine ww_iload (i := 5) dL_law_1576 rfl ?_
  by_cases hcd : code = 0
  · refine ww_if_ne_f (tgt := 1593) dL_law_1578 (by decide) hcd ?_
    obtain ⟨rfl, hB⟩ := hr2 hcd
    have ez : ww_Z M4 ol 0 = r2.toInt64 := by rw [i3, j3]; exact k3 trivial hcd
    refine ww_aload_n (i := 3) dL_law_1581 rfl rfl ?_
    refine ww_iconst (v := 0) dL_law_1582 (by decide) ?_
    refine ww_lald (j := 0) dL_law_1583 i2.2.1.1.1 i2.2.1.1.2 nI_0.symm (by rw [i2.2.1.2]; decide) (by rw [i2.2.1.2]; decide) ?_
    rw [ez]
    refine ww_iload (i := 6) dL_law_1584 rfl ?_
    refine ww_i2l dL_law_1586 ?_
    refine ww_lcmp dL_law_1587 ?_
    refine ww_if_eq_t (tgt := 1593) dL_law_1588 (by decide) ww_cmp_s ?_
    refine ww_goto (tgt := 2013) dL_law_1593 (by decide) ?_
    exact ww_subk (kk M4 S2 i1 i2) ⟨rfl, rfl, rfl, rfl, rfl, trivial⟩
  · refine ww_if_ne_t (tgt := 1593) dL_law_1578 (by decide) hcd ?_
    refine ww_goto (tgt := 2013) dL_law_1593 (by decide) ?_
    exact ww_subk (kk M4 S2 i1 i2) ⟨rfl, rfl, rfl, rfl, rfl, trivial⟩
set_option maxRecDepth 20000 in
theorem law_wheel (h : ww_mc g c b S M) (hm : ww_mm mo ar ol c S M) (hb : b < 512) (hL : 5 * b + 5 ≤ ww_gl g) (hgl : ww_gl g ≤ 2560) (hd : 16 ≤ d) (hkc : 10 ≤ kc) (hks : 1100 ≤ ks) (kk : ∀ M' S', ww_mc g c (b + 1) S' M' → ww_mm mo ar ol c S' M' → ww_A g wy_L_law d (kc - 10) (ks - 1100) M' 2013 [(0, .ref (ww_gb g)), (1, .ref (c 0)), (2, .ref mo), (3, .ref ol), (4, .int (nI (5 * b)))] [] Q X) : ww_A g wy_L_law d kc ks M 1596 [(0, .ref (ww_gb g)), (1, .ref (c 0)), (2, .ref mo), (3, .ref ol), (4, .int (nI (5 * b)))] [] Q X := by
  obtain ⟨ea, P, W, kl, f, z, D, E, n, u, w, m, hr, H⟩ := h
  have e1 : nI (5 * b) + 1 = nI (5 * b + 1) := by rw [show (1 : Int32) = nI 1 from by decide, nI_add]
  have e2 : nI (5 * b) + 2 = nI (5 * b + 2) := by rw [show (2 : Int32) = nI 2 from by decide, nI_add]
  have e3 : nI (5 * b) + 3 = nI (5 * b + 3) := by rw [show (3 : Int32) = nI 3 from by decide, nI_add]
  have e4 : nI (5 * b) + 4 = nI (5 * b + 4) := by rw [show (4 : Int32) = nI 4 from by decide, nI_add]
  obtain ⟨code, r, r2, S2, dm, hdm, hL1, hY, hc, hr2⟩ := sp_wheel hr H hm hb (ww_gx g (5 * b + 1)) (ww_gx g (5 * b + 2))
  refine ww_aload_n (i := 1) dL_law_1596 rfl rfl ?_
  refine ww_aload_n (i := 0) dL_law_1597 rfl rfl ?_
  refine ww_iload (i := 4) dL_law_1598 rfl ?_
  refine ww_iconst (v := 1) dL_law_1600 (by decide) ?_
  refine ww_iadd dL_law_1601 ?_
  refine ww_sld dL_law_1602 e1 (by omega) (by omega) ?_
  refine ww_aload_n (i := 0) dL_law_1603 rfl rfl ?_
  refine ww_iload (i := 4) dL_law_1604 rfl ?_
  refine ww_iconst (v := 2) dL_law_1606 (by decide) ?_
  refine ww_iadd dL_law_1607 ?_
  refine ww_sld dL_law_1608 e2 (by omega) (by omega) ?_
  refine ww_aload_n (i := 3) dL_law_1609 rfl rfl ?_
  refine ww_callSH wk_L_197 rfl dL_law_1610 hL1 rfl rfl (by omega) hkc hks (Nat.le_of_ble_eq_true rfl) rfl (fun E M9 h9 => h9.elim) (fun v9 M2 h9 => ?_)
  obtain ⟨rfl, k1, k2, k3⟩ := h9
  refine ww_istore (i := 5) (lv2 := [(0, _), (1, _), (2, _), (3, _), (4, _), (5, _)]) dL_law_1613 (Nat.le_of_ble_eq_true rfl) rfl ?_
  refine ww_aload_n (i := 2) dL_law_1615 rfl rfl ?_
  refine ww_aload_n (i := 0) dL_law_1616 rfl rfl ?_
  refine ww_iload (i := 4) dL_law_1617 rfl ?_
  refine ww_iconst (v := 1) dL_law_1619 (by decide) ?_
  refine ww_iadd dL_law_1620 ?_
  refine ww_sld dL_law_1621 e1 (by omega) (by omega) ?_
  refine ww_aload_n (i := 0) dL_law_1622 rfl rfl ?_
  refine ww_iload (i := 4) dL_law_1623 rfl ?_
  refine ww_iconst (v := 2) dL_law_1625 (by decide) ?_
  refine ww_iadd dL_law_1626 ?_
  refine ww_sld dL_law_1627 e2 (by omega) (by omega) ?_
  refine ww_callV (κ := 8) (r := (RX7, TX7, 33)) wk_L_199 dL_law_1628 (hY M2 k2.1.1 k2.1.2) rfl rfl k2.1.1.1.1 k2.1.1.1.2 rfl rfl (by omega) (Nat.zero_le _) (Nat.zero_le _) (Nat.le_of_ble_eq_true rfl) rfl (fun E M9 h9 => h9.elim) (fun v9 M3 h9 => ?_)
  obtain ⟨rfl, hu⟩ := h9
  obtain ⟨j1, j2, j3⟩ := ww_J k1 k2 hu
  refine ww_istore (i := 6) (lv2 := [(0, _), (1, _), (2, _), (3, _), (4, _), (5, _), (6, _)]) dL_law_1631 (Nat.le_of_ble_eq_true rfl) rfl ?_
  refine ww_aload_n (i := 2) dL_law_1633 rfl rfl ?_
  refine ww_callV (κ := 8) (r := (RX7, TX7, 33)) wk_L_121 dL_law_1634 (ww_thrn j1 j2 hc) rfl rfl j2.1.1.1.1 j2.1.1.1.2 rfl rfl (by omega) (Nat.zero_le _) (Nat.zero_le _) (Nat.le_of_ble_eq_true rfl) rfl (fun E M9 h9 => h9.elim) (fun v9 M4 h9 => ?_)
  obtain ⟨rfl, i1, i2, i3⟩ := h9
  refine ww_iload (i := 5) dL_law_1637 rfl ?_
  refine ww_icmp_eq_t (tgt := 1644) dL_law_1639 (by decide) rfl ?_
  refine ww_iload (i := 5) dL_law_1644 rfl ?_
  by_cases hcd : code = 0
  · refine ww_if_ne_f (tgt := 1661) dL_law_1646 (by decide) hcd ?_
    obtain ⟨rfl, hB⟩ := hr2 hcd
    have ez : ww_Z M4 ol 0 = r2.toInt64 := by rw [i3, j3]; exact k3 trivial hcd
    refine ww_aload_n (i := 3) dL_law_1649 rfl rfl ?_
    refine ww_iconst (v := 0) dL_law_1650 (by decide) ?_
    refine ww_lald (j := 0) dL_law_1651 i2.2.1.1.1 i2.2.1.1.2 nI_0.symm (by rw [i2.2.1.2]; decide) (by rw [i2.2.1.2]; decide) ?_
    rw [ez]
    refine ww_iload (i := 6) dL_law_1652 rfl ?_
    refine ww_i2l dL_law_1654 ?_
    refine ww_lcmp dL_law_1655 ?_
    refine ww_if_eq_t (tgt := 1661) dL_law_1656 (by decide) ww_cmp_s ?_
    refine ww_goto (tgt := 2013) dL_law_1661 (by decide) ?_
    exact ww_subk (kk M4 S2 i1 i2) ⟨rfl, rfl, rfl, rfl, rfl, trivial⟩
  · refine ww_if_ne_t (tgt := 1661) dL_law_1646 (by decide) hcd ?_
    refine ww_goto (tgt := 2013) dL_law_1661 (by decide) ?_
    exact ww_subk (kk M4 S2 i1 i2) ⟨rfl, rfl, rfl, rfl, rfl, trivial⟩
set_option maxRecDepth 20000 in
theorem law_foretell (h : ww_mc g c b S M) (hm : ww_mm mo ar ol c S M) (hb : b < 512) (hL : 5 * b + 5 ≤ ww_gl g) (hgl : ww_gl g ≤ 2560) (hd : 16 ≤ d) (hkc : 10 ≤ kc) (hks : 1100 ≤ ks) (kk : ∀ M' S', ww_mc g c (b + 1) S' M' → ww_mm mo ar ol c S' M' → ww_A g wy_L_law d (kc - 10) (ks - 1100) M' 2013 [(0, .ref (ww_gb g)), (1, .ref (c 0)), (2, .ref mo), (3, .ref ol), (4, .int (nI (5 * b)))] [] Q X) : ww_A g wy_L_law d kc ks M 1664 [(0, .ref (ww_gb g)), (1, .ref (c 0)), (2, .ref mo), (3, .ref ol), (4, .int (nI (5 * b)))] [] Q X := by
  obtain ⟨ea, P, W, kl, f, z, D, E, n, u, w, m, hr, H⟩ := h
  have e1 : nI (5 * b) + 1 = nI (5 * b + 1) := by rw [show (1 : Int32) = nI 1 from by decide, nI_add]
  have e2 : nI (5 * b) + 2 = nI (5 * b + 2) := by rw [show (2 : Int32) = nI 2 from by decide, nI_add]
  have e3 : nI (5 * b) + 3 = nI (5 * b + 3) := by rw [show (3 : Int32) = nI 3 from by decide, nI_add]
  have e4 : nI (5 * b) + 4 = nI (5 * b + 4) := by rw [show (4 : Int32) = nI 4 from by decide, nI_add]
  obtain ⟨code, r, r2, S2, dm, hdm, hL1, hY, hc, hr2⟩ := sp_foretell hr H hm hb (ww_gx g (5 * b + 1)) (ww_gx g (5 * b + 2)) (ww_gx g (5 * b + 3))
  refine ww_aload_n (i := 1) dL_law_1664 rfl rfl ?_
  refine ww_aload_n (i := 0) dL_law_1665 rfl rfl ?_
  refine ww_iload (i := 4) dL_law_1666 rfl ?_
  refine ww_iconst (v := 1) dL_law_1668 (by decide) ?_
  refine ww_iadd dL_law_1669 ?_
  refine ww_sld dL_law_1670 e1 (by omega) (by omega) ?_
  refine ww_aload_n (i := 0) dL_law_1671 rfl rfl ?_
  refine ww_iload (i := 4) dL_law_1672 rfl ?_
  refine ww_iconst (v := 2) dL_law_1674 (by decide) ?_
  refine ww_iadd dL_law_1675 ?_
  refine ww_sld dL_law_1676 e2 (by omega) (by omega) ?_
  refine ww_aload_n (i := 0) dL_law_1677 rfl rfl ?_
  refine ww_iload (i := 4) dL_law_1678 rfl ?_
  refine ww_iconst (v := 3) dL_law_1680 (by decide) ?_
  refine ww_iadd dL_law_1681 ?_
  refine ww_sld dL_law_1682 e3 (by omega) (by omega) ?_
  refine ww_aload_n (i := 3) dL_law_1683 rfl rfl ?_
  refine ww_callSH wk_L_200 rfl dL_law_1684 hL1 rfl rfl (by omega) hkc hks (Nat.le_of_ble_eq_true rfl) rfl (fun E M9 h9 => h9.elim) (fun v9 M2 h9 => ?_)
  obtain ⟨rfl, k1, k2, k3⟩ := h9
  refine ww_istore (i := 5) (lv2 := [(0, _), (1, _), (2, _), (3, _), (4, _), (5, _)]) dL_law_1687 (Nat.le_of_ble_eq_true rfl) rfl ?_
  refine ww_aload_n (i := 2) dL_law_1689 rfl rfl ?_
  refine ww_aload_n (i := 0) dL_law_1690 rfl rfl ?_
  refine ww_iload (i := 4) dL_law_1691 rfl ?_
  refine ww_iconst (v := 1) dL_law_1693 (by decide) ?_
  refine ww_iadd dL_law_1694 ?_
  refine ww_sld dL_law_1695 e1 (by omega) (by omega) ?_
  refine ww_aload_n (i := 0) dL_law_1696 rfl rfl ?_
  refine ww_iload (i := 4) dL_law_1697 rfl ?_
  refine ww_iconst (v := 2) dL_law_1699 (by decide) ?_
  refine ww_iadd dL_law_1700 ?_
  refine ww_sld dL_law_1701 e2 (by omega) (by omega) ?_
  refine ww_aload_n (i := 0) dL_law_1702 rfl rfl ?_
  refine ww_iload (i := 4) dL_law_1703 rfl ?_
  refine ww_iconst (v := 3) dL_law_1705 (by decide) ?_
  refine ww_iadd dL_law_1706 ?_
  refine ww_sld dL_law_1707 e3 (by omega) (by omega) ?_
  refine ww_callV (κ := 8) (r := (RX7, TX7, 33)) wk_L_202 dL_law_1708 (hY M2 k2.1.1 k2.1.2) rfl rfl k2.1.1.1.1 k2.1.1.1.2 rfl rfl (by omega) (Nat.zero_le _) (Nat.zero_le _) (Nat.le_of_ble_eq_true rfl) rfl (fun E M9 h9 => h9.elim) (fun v9 M3 h9 => ?_)
  obtain ⟨rfl, hu⟩ := h9
  obtain ⟨j1, j2, j3⟩ := ww_J k1 k2 hu
  refine ww_istore (i := 6) (lv2 := [(0, _), (1, _), (2, _), (3, _), (4, _), (5, _), (6, _)]) dL_law_1711 (Nat.le_of_ble_eq_true rfl) rfl ?_
  refine ww_aload_n (i := 2) dL_law_1713 rfl rfl ?_
  refine ww_callV (κ := 8) (r := (RX7, TX7, 33)) wk_L_121 dL_law_1714 (ww_thrn j1 j2 hc) rfl rfl j2.1.1.1.1 j2.1.1.1.2 rfl rfl (by omega) (Nat.zero_le _) (Nat.zero_le _) (Nat.le_of_ble_eq_true rfl) rfl (fun E M9 h9 => h9.elim) (fun v9 M4 h9 => ?_)
  obtain ⟨rfl, i1, i2, i3⟩ := h9
  refine ww_iload (i := 5) dL_law_1717 rfl ?_
  refine ww_icmp_eq_t (tgt := 1724) dL_law_1719 (by decide) rfl ?_
  refine ww_iload (i := 5) dL_law_1724 rfl ?_
  by_cases hcd : code = 0
  · refine ww_if_ne_f (tgt := 1741) dL_law_1726 (by decide) hcd ?_
    obtain ⟨rfl, hB⟩ := hr2 hcd
    have ez : ww_Z M4 ol 0 = r2.toInt64 := by rw [i3, j3]; exact k3 trivial hcd
    refine ww_aload_n (i := 3) dL_law_1729 rfl rfl ?_
    refine ww_iconst (v := 0) dL_law_1730 (by decide) ?_
    refine ww_lald (j := 0) dL_law_1731 i2.2.1.1.1 i2.2.1.1.2 nI_0.symm (by rw [i2.2.1.2]; decide) (by rw [i2.2.1.2]; decide) ?_
    rw [ez]
    refine ww_iload (i := 6) dL_law_1732 rfl ?_
    refine ww_i2l dL_law_1734 ?_
    refine ww_lcmp dL_law_1735 ?_
    refine ww_if_eq_t (tgt := 1741) dL_law_1736 (by decide) ww_cmp_s ?_
    refine ww_goto (tgt := 2013) dL_law_1741 (by decide) ?_
    exact ww_subk (kk M4 S2 i1 i2) ⟨rfl, rfl, rfl, rfl, rfl, trivial⟩
  · refine ww_if_ne_t (tgt := 1741) dL_law_1726 (by decide) hcd ?_
    refine ww_goto (tgt := 2013) dL_law_1741 (by decide) ?_
    exact ww_subk (kk M4 S2 i1 i2) ⟨rfl, rfl, rfl, rfl, rfl, trivial⟩
set_option maxRecDepth 20000 in
theorem law_bars (h : ww_mc g c b S M) (hm : ww_mm mo ar ol c S M) (hb : b < 512) (hL : 5 * b + 5 ≤ ww_gl g) (hgl : ww_gl g ≤ 2560) (hd : 16 ≤ d) (hkc : 10 ≤ kc) (hks : 1100 ≤ ks) (kk : ∀ M' S', ww_mc g c (b + 1) S' M' → ww_mm mo ar ol c S' M' → ww_A g wy_L_law d (kc - 10) (ks - 1100) M' 2013 [(0, .ref (ww_gb g)), (1, .ref (c 0)), (2, .ref mo), (3, .ref ol), (4, .int (nI (5 * b)))] [] Q X) : ww_A g wy_L_law d kc ks M 1744 [(0, .ref (ww_gb g)), (1, .ref (c 0)), (2, .ref mo), (3, .ref ol), (4, .int (nI (5 * b)))] [] Q X := by
  obtain ⟨ea, P, W, kl, f, z, D, E, n, u, w, m, hr, H⟩ := h
  have e1 : nI (5 * b) + 1 = nI (5 * b + 1) := by rw [show (1 : Int32) = nI 1 from by decide, nI_add]
  have e2 : nI (5 * b) + 2 = nI (5 * b + 2) := by rw [show (2 : Int32) = nI 2 from by decide, nI_add]
  have e3 : nI (5 * b) + 3 = nI (5 * b + 3) := by rw [show (3 : Int32) = nI 3 from by decide, nI_add]
  have e4 : nI (5 * b) + 4 = nI (5 * b + 4) := by rw [show (4 : Int32) = nI 4 from by decide, nI_add]
  obtain ⟨code, r, r2, S2, dm, hdm, hL1, hY, hc, hr2⟩ := sp_bars hr H hm hb (ww_gx g (5 * b + 1))
  refine ww_aload_n (i := 1) dL_law_1744 rfl rfl ?_
  refine ww_aload_n (i := 0) dL_law_1745 rfl rfl ?_
  refine ww_iload (i := 4) dL_law_1746 rfl ?_
  refine ww_iconst (v := 1) dL_law_1748 (by decide) ?_
  refine ww_iadd dL_law_1749 ?_
  refine ww_sld dL_law_1750 e1 (by omega) (by omega) ?_
  refine ww_aload_n (i := 3) dL_law_1751 rfl rfl ?_
  refine ww_callSH wk_L_203 rfl dL_law_1752 hL1 rfl rfl (by omega) hkc hks (Nat.le_of_ble_eq_true rfl) rfl (fun E M9 h9 => h9.elim) (fun v9 M2 h9 => ?_)
  obtain ⟨rfl, k1, k2, k3⟩ := h9
  refine ww_istore (i := 5) (lv2 := [(0, _), (1, _), (2, _), (3, _), (4, _), (5, _)]) dL_law_1755 (Nat.le_of_ble_eq_true rfl) rfl ?_
  refine ww_aload_n (i := 2) dL_law_1757 rfl rfl ?_
  refine ww_aload_n (i := 0) dL_law_1758 rfl rfl ?_
  refine ww_iload (i := 4) dL_law_1759 rfl ?_
  refine ww_iconst (v := 1) dL_law_1761 (by decide) ?_
  refine ww_iadd dL_law_1762 ?_
  refine ww_sld dL_law_1763 e1 (by omega) (by omega) ?_
  refine ww_callV (κ := 8) (r := (RX7, TX7, 33)) wk_L_205 dL_law_1764 (hY M2 k2.1.1 k2.1.2) rfl rfl k2.1.1.1.1 k2.1.1.1.2 rfl rfl (by omega) (Nat.zero_le _) (Nat.zero_le _) (Nat.le_of_ble_eq_true rfl) rfl (fun E M9 h9 => h9.elim) (fun v9 M3 h9 => ?_)
  obtain ⟨rfl, hu⟩ := h9
  obtain ⟨j1, j2, j3⟩ := ww_J k1 k2 hu
  refine ww_istore (i := 6) (lv2 := [(0, _), (1, _), (2, _), (3, _), (4, _), (5, _), (6, _)]) dL_law_1767 (Nat.le_of_ble_eq_true rfl) rfl ?_
  refine ww_aload_n (i := 2) dL_law_1769 rfl rfl ?_
  refine ww_callV (κ := 8) (r := (RX7, TX7, 33)) wk_L_121 dL_law_1770 (ww_thrn j1 j2 hc) rfl rfl j2.1.1.1.1 j2.1.1.1.2 rfl rfl (by omega) (Nat.zero_le _) (Nat.zero_le _) (Nat.le_of_ble_eq_true rfl) rfl (fun E M9 h9 => h9.elim) (fun v9 M4 h9 => ?_)
  obtain ⟨rfl, i1, i2, i3⟩ := h9
  refine ww_iload (i := 5) dL_law_1773 rfl ?_
  refine ww_icmp_eq_t (tgt := 1780) dL_law_1775 (by decide) rfl ?_
  refine ww_iload (i := 5) dL_law_1780 rfl ?_
  by_cases hcd : code = 0
  · refine ww_if_ne_f (tgt := 1797) dL_law_1782 (by decide) hcd ?_
    obtain ⟨rfl, hB⟩ := hr2 hcd
    have ez : ww_Z M4 ol 0 = r2.toInt64 := by rw [i3, j3]; exact k3 trivial hcd
    refine ww_aload_n (i := 3) dL_law_1785 rfl rfl ?_
    refine ww_iconst (v := 0) dL_law_1786 (by decide) ?_
    refine ww_lald (j := 0) dL_law_1787 i2.2.1.1.1 i2.2.1.1.2 nI_0.symm (by rw [i2.2.1.2]; decide) (by rw [i2.2.1.2]; decide) ?_
    rw [ez]
    refine ww_iload (i := 6) dL_law_1788 rfl ?_
    refine ww_i2l dL_law_1790 ?_
    refine ww_lcmp dL_law_1791 ?_
    refine ww_if_eq_t (tgt := 1797) dL_law_1792 (by decide) ww_cmp_s ?_
    refine ww_goto (tgt := 2013) dL_law_1797 (by decide) ?_
    exact ww_subk (kk M4 S2 i1 i2) ⟨rfl, rfl, rfl, rfl, rfl, trivial⟩
  · refine ww_if_ne_t (tgt := 1797) dL_law_1782 (by decide) hcd ?_
    refine ww_goto (tgt := 2013) dL_law_1797 (by decide) ?_
    exact ww_subk (kk M4 S2 i1 i2) ⟨rfl, rfl, rfl, rfl, rfl, trivial⟩
set_option maxRecDepth 20000 in
theorem law_barredBy (h : ww_mc g c b S M) (hm : ww_mm mo ar ol c S M) (hb : b < 512) (hL : 5 * b + 5 ≤ ww_gl g) (hgl : ww_gl g ≤ 2560) (hd : 16 ≤ d) (hkc : 10 ≤ kc) (hks : 1100 ≤ ks) (kk : ∀ M' S', ww_mc g c (b + 1) S' M' → ww_mm mo ar ol c S' M' → ww_A g wy_L_law d (kc - 10) (ks - 1100) M' 2013 [(0, .ref (ww_gb g)), (1, .ref (c 0)), (2, .ref mo), (3, .ref ol), (4, .int (nI (5 * b)))] [] Q X) : ww_A g wy_L_law d kc ks M 1800 [(0, .ref (ww_gb g)), (1, .ref (c 0)), (2, .ref mo), (3, .ref ol), (4, .int (nI (5 * b)))] [] Q X := by
  obtain ⟨ea, P, W, kl, f, z, D, E, n, u, w, m, hr, H⟩ := h
  have e1 : nI (5 * b) + 1 = nI (5 * b + 1) := by rw [show (1 : Int32) = nI 1 from by decide, nI_add]
  have e2 : nI (5 * b) + 2 = nI (5 * b + 2) := by rw [show (2 : Int32) = nI 2 from by decide, nI_add]
  have e3 : nI (5 * b) + 3 = nI (5 * b + 3) := by rw [show (3 : Int32) = nI 3 from by decide, nI_add]
  have e4 : nI (5 * b) + 4 = nI (5 * b + 4) := by rw [show (4 : Int32) = nI 4 from by decide, nI_add]
  obtain ⟨code, r, r2, S2, dm, hdm, hL1, hY, hc, hr2⟩ := sp_barredBy hr H hm hb (ww_gx g (5 * b + 1))
  refine ww_aload_n (i := 1) dL_law_1800 rfl rfl ?_
  refine ww_aload_n (i := 0) dL_law_1801 rfl rfl ?_
  refine ww_iload (i := 4) dL_law_1802 rfl ?_
  refine ww_iconst (v := 1) dL_law_1804 (by decide) ?_
  refine ww_iadd dL_law_1805 ?_
  refine ww_sld dL_law_1806 e1 (by omega) (by omega) ?_
  refine ww_aload_n (i := 3) dL_law_1807 rfl rfl ?_
  refine ww_callSH wk_L_206 rfl dL_law_1808 hL1 rfl rfl (by omega) hkc hks (Nat.le_of_ble_eq_true rfl) rfl (fun E M9 h9 => h9.elim) (fun v9 M2 h9 => ?_)
  obtain ⟨rfl, k1, k2, k3⟩ := h9
  refine ww_istore (i := 5) (lv2 := [(0, _), (1, _), (2, _), (3, _), (4, _), (5, _)]) dL_law_1811 (Nat.le_of_ble_eq_true rfl) rfl ?_
  refine ww_aload_n (i := 2) dL_law_1813 rfl rfl ?_
  refine ww_aload_n (i := 0) dL_law_1814 rfl rfl ?_
  refine ww_iload (i := 4) dL_law_1815 rfl ?_
  refine ww_iconst (v := 1) dL_law_1817 (by decide) ?_
  refine ww_iadd dL_law_1818 ?_
  refine ww_sld dL_law_1819 e1 (by omega) (by omega) ?_
  refine ww_callV (κ := 8) (r := (RX7, TX7, 33)) wk_L_208 dL_law_1820 (hY M2 k2.1.1 k2.1.2) rfl rfl k2.1.1.1.1 k2.1.1.1.2 rfl rfl (by omega) (Nat.zero_le _) (Nat.zero_le _) (Nat.le_of_ble_eq_true rfl) rfl (fun E M9 h9 => h9.elim) (fun v9 M3 h9 => ?_)
  obtain ⟨rfl, hu⟩ := h9
  obtain ⟨j1, j2, j3⟩ := ww_J k1 k2 hu
  refine ww_istore (i := 6) (lv2 := [(0, _), (1, _), (2, _), (3, _), (4, _), (5, _), (6, _)]) dL_law_1823 (Nat.le_of_ble_eq_true rfl) rfl ?_
  refine ww_aload_n (i := 2) dL_law_1825 rfl rfl ?_
  refine ww_callV (κ := 8) (r := (RX7, TX7, 33)) wk_L_121 dL_law_1826 (ww_thrn j1 j2 hc) rfl rfl j2.1.1.1.1 j2.1.1.1.2 rfl rfl (by omega) (Nat.zero_le _) (Nat.zero_le _) (Nat.le_of_ble_eq_true rfl) rfl (fun E M9 h9 => h9.elim) (fun v9 M4 h9 => ?_)
  obtain ⟨rfl, i1, i2, i3⟩ := h9
  refine ww_iload (i := 5) dL_law_1829 rfl ?_
  refine ww_icmp_eq_t (tgt := 1836) dL_law_1831 (by decide) rfl ?_
  refine ww_iload (i := 5) dL_law_1836 rfl ?_
  by_cases hcd : code = 0
  · refine ww_if_ne_f (tgt := 1853) dL_law_1838 (by decide) hcd ?_
    obtain ⟨rfl, hB⟩ := hr2 hcd
    have ez : ww_Z M4 ol 0 = r2.toInt64 := by rw [i3, j3]; exact k3 trivial hcd
    refine ww_aload_n (i := 3) dL_law_1841 rfl rfl ?_
    refine ww_iconst (v := 0) dL_law_1842 (by decide) ?_
    refine ww_lald (j := 0) dL_law_1843 i2.2.1.1.1 i2.2.1.1.2 nI_0.symm (by rw [i2.2.1.2]; decide) (by rw [i2.2.1.2]; decide) ?_
    rw [ez]
    refine ww_iload (i := 6) dL_law_1844 rfl ?_
    refine ww_i2l dL_law_1846 ?_
    refine ww_lcmp dL_law_1847 ?_
    refine ww_if_eq_t (tgt := 1853) dL_law_1848 (by decide) ww_cmp_s ?_
    refine ww_goto (tgt := 2013) dL_law_1853 (by decide) ?_
    exact ww_subk (kk M4 S2 i1 i2) ⟨rfl, rfl, rfl, rfl, rfl, trivial⟩
  · refine ww_if_ne_t (tgt := 1853) dL_law_1838 (by decide) hcd ?_
    refine ww_goto (tgt := 2013) dL_law_1853 (by decide) ?_
    exact ww_subk (kk M4 S2 i1 i2) ⟨rfl, rfl, rfl, rfl, rfl, trivial⟩
set_option maxRecDepth 20000 in
theorem law_isReleased (h : ww_mc g c b S M) (hm : ww_mm mo ar ol c S M) (hb : b < 512) (hL : 5 * b + 5 ≤ ww_gl g) (hgl : ww_gl g ≤ 2560) (hd : 16 ≤ d) (hkc : 10 ≤ kc) (hks : 1100 ≤ ks) (kk : ∀ M' S', ww_mc g c (b + 1) S' M' → ww_mm mo ar ol c S' M' → ww_A g wy_L_law d (kc - 10) (ks - 1100) M' 2013 [(0, .ref (ww_gb g)), (1, .ref (c 0)), (2, .ref mo), (3, .ref ol), (4, .int (nI (5 * b)))] [] Q X) : ww_A g wy_L_law d kc ks M 1856 [(0, .ref (ww_gb g)), (1, .ref (c 0)), (2, .ref mo), (3, .ref ol), (4, .int (nI (5 * b)))] [] Q X := by
  obtain ⟨ea, P, W, kl, f, z, D, E, n, u, w, m, hr, H⟩ := h
  have e1 : nI (5 * b) + 1 = nI (5 * b + 1) := by rw [show (1 : Int32) = nI 1 from by decide, nI_add]
  have e2 : nI (5 * b) + 2 = nI (5 * b + 2) := by rw [show (2 : Int32) = nI 2 from by decide, nI_add]
  have e3 : nI (5 * b) + 3 = nI (5 * b + 3) := by rw [show (3 : Int32) = nI 3 from by decide, nI_add]
  have e4 : nI (5 * b) + 4 = nI (5 * b + 4) := by rw [show (4 : Int32) = nI 4 from by decide, nI_add]
  obtain ⟨code, r, r2, S2, dm, hdm, hL1, hY, hc, hr2⟩ := sp_isReleased hr H hm hb (ww_gx g (5 * b + 1))
  refine ww_aload_n (i := 1) dL_law_1856 rfl rfl ?_
  refine ww_aload_n (i := 0) dL_law_1857 rfl rfl ?_
  refine ww_iload (i := 4) dL_law_1858 rfl ?_
  refine ww_iconst (v := 1) dL_law_1860 (by decide) ?_
  refine ww_iadd dL_law_1861 ?_
  refine ww_sld dL_law_1862 e1 (by omega) (by omega) ?_
  refine ww_aload_n (i := 3) dL_law_1863 rfl rfl ?_
  refine ww_callSH wk_L_209 rfl dL_law_1864 hL1 rfl rfl (by omega) hkc hks (Nat.le_of_ble_eq_true rfl) rfl (fun E M9 h9 => h9.elim) (fun v9 M2 h9 => ?_)
  obtain ⟨rfl, k1, k2, k3⟩ := h9
  refine ww_istore (i := 5) (lv2 := [(0, _), (1, _), (2, _), (3, _), (4, _), (5, _)]) dL_law_1867 (Nat.le_of_ble_eq_true rfl) rfl ?_
  refine ww_aload_n (i := 2) dL_law_1869 rfl rfl ?_
  refine ww_aload_n (i := 0) dL_law_1870 rfl rfl ?_
  refine ww_iload (i := 4) dL_law_1871 rfl ?_
  refine ww_iconst (v := 1) dL_law_1873 (by decide) ?_
  refine ww_iadd dL_law_1874 ?_
  refine ww_sld dL_law_1875 e1 (by omega) (by omega) ?_
  refine ww_callV (κ := 8) (r := (RX7, TX7, 33)) wk_L_211 dL_law_1876 (hY M2 k2.1.1 k2.1.2) rfl rfl k2.1.1.1.1 k2.1.1.1.2 rfl rfl (by omega) (Nat.zero_le _) (Nat.zero_le _) (Nat.le_of_ble_eq_true rfl) rfl (fun E M9 h9 => h9.elim) (fun v9 M3 h9 => ?_)
  obtain ⟨rfl, hu⟩ := h9
  obtain ⟨j1, j2, j3⟩ := ww_J k1 k2 hu
  refine ww_istore (i := 6) (lv2 := [(0, _), (1, _), (2, _), (3, _), (4, _), (5, _), (6, _)]) dL_law_1879 (Nat.le_of_ble_eq_true rfl) rfl ?_
  refine ww_aload_n (i := 2) dL_law_1881 rfl rfl ?_
  refine ww_callV (κ := 8) (r := (RX7, TX7, 33)) wk_L_121 dL_law_1882 (ww_thrn j1 j2 hc) rfl rfl j2.1.1.1.1 j2.1.1.1.2 rfl rfl (by omega) (Nat.zero_le _) (Nat.zero_le _) (Nat.le_of_ble_eq_true rfl) rfl (fun E M9 h9 => h9.elim) (fun v9 M4 h9 => ?_)
  obtain ⟨rfl, i1, i2, i3⟩ := h9
  refine ww_iload (i := 5) dL_law_1885 rfl ?_
  refine ww_icmp_eq_t (tgt := 1892) dL_law_1887 (by decide) rfl ?_
  refine ww_iload (i := 5) dL_law_1892 rfl ?_
  by_cases hcd : code = 0
  · refine ww_if_ne_f (tgt := 1916) dL_law_1894 (by decide) hcd ?_
    obtain ⟨rfl, hB⟩ := hr2 hcd
    have ez : ww_Z M4 ol 0 = r2.toInt64 := by rw [i3, j3]; exact k3 trivial hcd
    rcases hB with rfl | rfl
    · refine ww_aload_n (i := 3) dL_law_1897 rfl rfl ?_
      refine ww_iconst (v := 0) dL_law_1898 (by decide) ?_
      refine ww_lald (j := 0) dL_law_1899 i2.2.1.1.1 i2.2.1.1.2 nI_0.symm (by rw [i2.2.1.2]; decide) (by rw [i2.2.1.2]; decide) ?_
      rw [ez]
      refine ww_iload (i := 6) dL_law_1900 rfl ?_
      refine ww_if_eq_t (tgt := 1909) dL_law_1902 (by decide) rfl ?_
      refine ww_lconst (v := 0) dL_law_1909 (by decide) ?_
      refine ww_lcmp dL_law_1910 ?_
      refine ww_if_eq_t (tgt := 1916) dL_law_1911 (by decide) (by decide) ?_
      refine ww_goto (tgt := 2013) dL_law_1916 (by decide) ?_
      exact ww_subk (kk M4 S2 i1 i2) ⟨rfl, rfl, rfl, rfl, rfl, trivial⟩
    · refine ww_aload_n (i := 3) dL_law_1897 rfl rfl ?_
      refine ww_iconst (v := 0) dL_law_1898 (by decide) ?_
      refine ww_lald (j := 0) dL_law_1899 i2.2.1.1.1 i2.2.1.1.2 nI_0.symm (by rw [i2.2.1.2]; decide) (by rw [i2.2.1.2]; decide) ?_
      rw [ez]
      refine ww_iload (i := 6) dL_law_1900 rfl ?_
      refine ww_if_eq_f (tgt := 1909) dL_law_1902 (by decide) (by decide) ?_
      refine ww_lconst (v := 1) dL_law_1905 (by decide) ?_
      refine ww_goto (tgt := 1910) dL_law_1906 (by decide) ?_
      refine ww_lcmp dL_law_1910 ?_
      refine ww_if_eq_t (tgt := 1916) dL_law_1911 (by decide) (by decide) ?_
      refine ww_goto (tgt := 2013) dL_law_1916 (by decide) ?_
      exact ww_subk (kk M4 S2 i1 i2) ⟨rfl, rfl, rfl, rfl, rfl, trivial⟩
  · refine ww_if_ne_t (tgt := 1916) dL_law_1894 (by decide) hcd ?_
    refine ww_goto (tgt := 2013) dL_law_1916 (by decide) ?_
    exact ww_subk (kk M4 S2 i1 i2) ⟨rfl, rfl, rfl, rfl, rfl, trivial⟩
set_option maxRecDepth 20000 in
theorem law_plan (h : ww_mc g c b S M) (hm : ww_mm mo ar ol c S M) (hb : b < 512) (hL : 5 * b + 5 ≤ ww_gl g) (hgl : ww_gl g ≤ 2560) (hd : 16 ≤ d) (hkc : 10 ≤ kc) (hks : 1100 ≤ ks) (kk : ∀ M' S', ww_mc g c (b + 1) S' M' → ww_mm mo ar ol c S' M' → ww_A g wy_L_law d (kc - 10) (ks - 1100) M' 2013 [(0, .ref (ww_gb g)), (1, .ref (c 0)), (2, .ref mo), (3, .ref ol), (4, .int (nI (5 * b)))] [] Q X) : ww_A g wy_L_law d kc ks M 1919 [(0, .ref (ww_gb g)), (1, .ref (c 0)), (2, .ref mo), (3, .ref ol), (4, .int (nI (5 * b)))] [] Q X := by
  obtain ⟨ea, P, W, kl, f, z, D, E, n, u, w, m, hr, H⟩ := h
  obtain ⟨r, S2, dm, hdm, hL1, hY⟩ := sp_plan hr H hm
  refine ww_aload_n (i := 1) dL_law_1919 rfl rfl ?_
  refine ww_callV (κ := 7) (r := (RX6, TX6, 4)) wk_L_212 dL_law_1920 hL1 rfl rfl hr.1.1.1.1 hr.1.1.1.2 rfl rfl (by omega) (Nat.zero_le _) (Nat.zero_le _) (Nat.le_of_ble_eq_true rfl) rfl (fun E M9 h9 => h9.elim) (fun v9 M2 h9 => ?_)
  obtain ⟨rfl, k1, k2⟩ := h9
  refine ww_aload_n (i := 2) dL_law_1923 rfl rfl ?_
  refine ww_callV (κ := 8) (r := (RX7, TX7, 33)) wk_L_215 dL_law_1924 (hY M2 k2.1.1 k2.1.2) rfl rfl k2.1.1.1.1 k2.1.1.1.2 rfl rfl (by omega) (Nat.zero_le _) (Nat.zero_le _) (Nat.le_of_ble_eq_true rfl) rfl (fun E M9 h9 => h9.elim) (fun v9 M3 h9 => ?_)
  obtain ⟨rfl, hu⟩ := h9
  obtain ⟨j1, j2, j3⟩ := ww_J k1 k2 hu
  refine ww_icmp_eq_t (tgt := 2013) dL_law_1927 (by decide) rfl ?_
  exact ww_more (kk M3 S2 j1 j2) (Nat.sub_le _ _) (Nat.sub_le _ _)
set_option maxRecDepth 20000 in
theorem law_planAnew (h : ww_mc g c b S M) (hm : ww_mm mo ar ol c S M) (hb : b < 512) (hL : 5 * b + 5 ≤ ww_gl g) (hgl : ww_gl g ≤ 2560) (hd : 16 ≤ d) (hkc : 10 ≤ kc) (hks : 1100 ≤ ks) (kk : ∀ M' S', ww_mc g c (b + 1) S' M' → ww_mm mo ar ol c S' M' → ww_A g wy_L_law d (kc - 10) (ks - 1100) M' 2013 [(0, .ref (ww_gb g)), (1, .ref (c 0)), (2, .ref mo), (3, .ref ol), (4, .int (nI (5 * b)))] [] Q X) : ww_A g wy_L_law d kc ks M 1932 [(0, .ref (ww_gb g)), (1, .ref (c 0)), (2, .ref mo), (3, .ref ol), (4, .int (nI (5 * b)))] [] Q X := by
  obtain ⟨ea, P, W, kl, f, z, D, E, n, u, w, m, hr, H⟩ := h
  obtain ⟨r, S2, dm, hdm, hL1, hY⟩ := sp_planAnew hr H hm
  refine ww_aload_n (i := 1) dL_law_1932 rfl rfl ?_
  refine ww_callV (κ := 7) (r := (RX6, TX6, 4)) wk_L_216 dL_law_1933 hL1 rfl rfl hr.1.1.1.1 hr.1.1.1.2 rfl rfl (by omega) (Nat.zero_le _) (Nat.zero_le _) (Nat.le_of_ble_eq_true rfl) rfl (fun E M9 h9 => h9.elim) (fun v9 M2 h9 => ?_)
  obtain ⟨rfl, k1, k2⟩ := h9
  refine ww_aload_n (i := 2) dL_law_1936 rfl rfl ?_
  refine ww_callV (κ := 8) (r := (RX7, TX7, 33)) wk_L_219 dL_law_1937 (hY M2 k2.1.1 k2.1.2) rfl rfl k2.1.1.1.1 k2.1.1.1.2 rfl rfl (by omega) (Nat.zero_le _) (Nat.zero_le _) (Nat.le_of_ble_eq_true rfl) rfl (fun E M9 h9 => h9.elim) (fun v9 M3 h9 => ?_)
  obtain ⟨rfl, hu⟩ := h9
  obtain ⟨j1, j2, j3⟩ := ww_J k1 k2 hu
  refine ww_icmp_eq_t (tgt := 2013) dL_law_1940 (by decide) rfl ?_
  exact ww_more (kk M3 S2 j1 j2) (Nat.sub_le _ _) (Nat.sub_le _ _)
set_option maxRecDepth 20000 in
theorem law_road (h : ww_mc g c b S M) (hm : ww_mm mo ar ol c S M) (hb : b < 512) (hL : 5 * b + 5 ≤ ww_gl g) (hgl : ww_gl g ≤ 2560) (hd : 16 ≤ d) (hkc : 10 ≤ kc) (hks : 1100 ≤ ks) (kk : ∀ M' S', ww_mc g c (b + 1) S' M' → ww_mm mo ar ol c S' M' → ww_A g wy_L_law d (kc - 10) (ks - 1100) M' 2013 [(0, .ref (ww_gb g)), (1, .ref (c 0)), (2, .ref mo), (3, .ref ol), (4, .int (nI (5 * b)))] [] Q X) : ww_A g wy_L_law d kc ks M 1945 [(0, .ref (ww_gb g)), (1, .ref (c 0)), (2, .ref mo), (3, .ref ol), (4, .int (nI (5 * b)))] [] Q X := by
  obtain ⟨ea, P, W, kl, f, z, D, E, n, u, w, m, hr, H⟩ := h
  have e1 : nI (5 * b) + 1 = nI (5 * b + 1) := by rw [show (1 : Int32) = nI 1 from by decide, nI_add]
  have e2 : nI (5 * b) + 2 = nI (5 * b + 2) := by rw [show (2 : Int32) = nI 2 from by decide, nI_add]
  have e3 : nI (5 * b) + 3 = nI (5 * b + 3) := by rw [show (3 : Int32) = nI 3 from by decide, nI_add]
  have e4 : nI (5 * b) + 4 = nI (5 * b + 4) := by rw [show (4 : Int32) = nI 4 from by decide, nI_add]
  obtain ⟨code, r, r2, S2, dm, hdm, hL1, hY, hc, hr2⟩ := sp_road hr H hm hb (ww_gx g (5 * b + 1)) (ww_gx g (5 * b + 2))
  refine ww_aload_n (i := 1) dL_law_1945 rfl rfl ?_
  refine ww_aload_n (i := 0) dL_law_1946 rfl rfl ?_
  refine ww_iload (i := 4) dL_law_1947 rfl ?_
  refine ww_iconst (v := 1) dL_law_1949 (by decide) ?_
  refine ww_iadd dL_law_1950 ?_
  refine ww_sld dL_law_1951 e1 (by omega) (by omega) ?_
  refine ww_aload_n (i := 0) dL_law_1952 rfl rfl ?_
  refine ww_iload (i := 4) dL_law_1953 rfl ?_
  refine ww_iconst (v := 2) dL_law_1955 (by decide) ?_
  refine ww_iadd dL_law_1956 ?_
  refine ww_sld dL_law_1957 e2 (by omega) (by omega) ?_
  refine ww_aload_n (i := 3) dL_law_1958 rfl rfl ?_
  refine ww_callSH wk_L_220 rfl dL_law_1959 hL1 rfl rfl (by omega) hkc hks (Nat.le_of_ble_eq_true rfl) rfl (fun E M9 h9 => h9.elim) (fun v9 M2 h9 => ?_)
  obtain ⟨rfl, k1, k2, k3⟩ := h9
  refine ww_istore (i := 5) (lv2 := [(0, _), (1, _), (2, _), (3, _), (4, _), (5, _)]) dL_law_1962 (Nat.le_of_ble_eq_true rfl) rfl ?_
  refine ww_aload_n (i := 2) dL_law_1964 rfl rfl ?_
  refine ww_aload_n (i := 0) dL_law_1965 rfl rfl ?_
  refine ww_iload (i := 4) dL_law_1966 rfl ?_
  refine ww_iconst (v := 1) dL_law_1968 (by decide) ?_
  refine ww_iadd dL_law_1969 ?_
  refine ww_sld dL_law_1970 e1 (by omega) (by omega) ?_
  refine ww_aload_n (i := 0) dL_law_1971 rfl rfl ?_
  refine ww_iload (i := 4) dL_law_1972 rfl ?_
  refine ww_iconst (v := 2) dL_law_1974 (by decide) ?_
  refine ww_iadd dL_law_1975 ?_
  refine ww_sld dL_law_1976 e2 (by omega) (by omega) ?_
  refine ww_callV (κ := 8) (r := (RX7, TX7, 33)) wk_L_222 dL_law_1977 (hY M2 k2.1.1 k2.1.2) rfl rfl k2.1.1.1.1 k2.1.1.1.2 rfl rfl (by omega) (Nat.zero_le _) (Nat.zero_le _) (Nat.le_of_ble_eq_true rfl) rfl (fun E M9 h9 => h9.elim) (fun v9 M3 h9 => ?_)
  obtain ⟨rfl, hu⟩ := h9
  obtain ⟨j1, j2, j3⟩ := ww_J k1 k2 hu
  refine ww_istore (i := 6) (lv2 := [(0, _), (1, _), (2, _), (3, _), (4, _), (5, _), (6, _)]) dL_law_1980 (Nat.le_of_ble_eq_true rfl) rfl ?_
  refine ww_aload_n (i := 2) dL_law_1982 rfl rfl ?_
  refine ww_callV (κ := 8) (r := (RX7, TX7, 33)) wk_L_121 dL_law_1983 (ww_thrn j1 j2 hc) rfl rfl j2.1.1.1.1 j2.1.1.1.2 rfl rfl (by omega) (Nat.zero_le _) (Nat.zero_le _) (Nat.le_of_ble_eq_true rfl) rfl (fun E M9 h9 => h9.elim) (fun v9 M4 h9 => ?_)
  obtain ⟨rfl, i1, i2, i3⟩ := h9
  refine ww_iload (i := 5) dL_law_1986 rfl ?_
  refine ww_icmp_eq_t (tgt := 1993) dL_law_1988 (by decide) rfl ?_
  refine ww_iload (i := 5) dL_law_1993 rfl ?_
  by_cases hcd : code = 0
  · refine ww_if_ne_f (tgt := 2010) dL_law_1995 (by decide) hcd ?_
    obtain ⟨rfl, hB⟩ := hr2 hcd
    have ez : ww_Z M4 ol 0 = r2.toInt64 := by rw [i3, j3]; exact k3 trivial hcd
    refine ww_aload_n (i := 3) dL_law_1998 rfl rfl ?_
    refine ww_iconst (v := 0) dL_law_1999 (by decide) ?_
    refine ww_lald (j := 0) dL_law_2000 i2.2.1.1.1 i2.2.1.1.2 nI_0.symm (by rw [i2.2.1.2]; decide) (by rw [i2.2.1.2]; decide) ?_
    rw [ez]
    refine ww_iload (i := 6) dL_law_2001 rfl ?_
    refine ww_i2l dL_law_2003 ?_
    refine ww_lcmp dL_law_2004 ?_
    refine ww_if_eq_t (tgt := 2010) dL_law_2005 (by decide) ww_cmp_s ?_
    refine ww_goto (tgt := 2013) dL_law_2010 (by decide) ?_
    exact ww_subk (kk M4 S2 i1 i2) ⟨rfl, rfl, rfl, rfl, rfl, trivial⟩
  · refine ww_if_ne_t (tgt := 2010) dL_law_1995 (by decide) hcd ?_
    refine ww_goto (tgt := 2013) dL_law_2010 (by decide) ?_
    exact ww_subk (kk M4 S2 i1 i2) ⟨rfl, rfl, rfl, rfl, rfl, trivial⟩
end WWK1
