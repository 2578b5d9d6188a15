/-! ===== the law's blocks: release, run ===== -/
section WWN1
variable {g : ww_G} {M : ww_M} {c : Nat → Nat} {b w m p d kc ks : Nat} {S : Nat → Nat → Int32} {mo wa ti v : Int32} {Q : Option Value → ww_M → Prop} {X : String → ww_M → Prop}
theorem q_k0 (hL : q_LI S w m wa) : S 2 0 = 0 := (hL.1 0 (by decide)).trans (by decide)
theorem q_hd_0 (hL : q_LI S w m wa) : q_hd (S 5) 5 0 = 0 := q_hd_neg (by rw [hL.2.1.1]; decide)
theorem q_rgN {lo hi a : Nat} (h1 : lo ≤ a) (h2 : a ≤ hi) (h3 : hi < 2 ^ 31) : q_rg (nI lo) (nI hi) (nI a) := ⟨nI_le h1 (by omega), nI_le h2 h3⟩
theorem q_ne {a k : Nat} (ha : a < 2 ^ 31) (hk : k < 2 ^ 31) (h : ¬ a = k) : ¬ nI a = nI k := fun y => h ((nI_eq ha hk).mp y)
set_option maxRecDepth 20000 in
set_option maxHeartbeats 4000000 in
theorem law_b0 (h : ww_mx g c b 23 w m S M) (hL : q_LI S w m wa) (hb : b ≤ 500) (hp : p < 23) (hd : 24 ≤ d) (hkc : 20 ≤ kc) (hks : 8000 ≤ ks) (kk : ∀ (M' : ww_M) (S' : Nat → Nat → Int32) (b' w' m' : Nat) (wa' : Int32), b' ≤ b + 4 → ww_mx g c b' 23 w' m' S' M' → q_LI S' w' m' wa' → ww_A g wy_L_law d (kc - 20) (ks - 8000) M' 1575 [(0, .ref (ww_gb g)), (1, .ref (c 0)), (2, .int 1), (3, .int mo), (4, .int wa'), (5, .int ti), (6, .int v), (8, .int (nI p))] [] Q X) : ww_A g wy_L_law d kc ks M 171 [(0, .ref (ww_gb g)), (1, .ref (c 0)), (2, .int 1), (3, .int mo), (4, .int wa), (5, .int ti), (6, .int v), (8, .int (nI p)), (9, .int (S 5 p)), (10, .int (S 12 (q_hd (S 5) 5 p)))] [] Q X := by
  have hx := x_is h
  have hk0 := q_k0 hL
  have efb : q_fbar (ww_u2 S 11 0 (if q_fbar S 23 0 7 1 = 0 then 1 else 0)) 23 0 7 1 = q_fbar S 23 0 7 1 := q_fbar_cg (fun k hk => funext fun j => ww_u2n (fun y => by rw [y.1] at hk; exact absurd hk (by decide))) 7 1
  have e11 : ww_u2 S 11 0 (if q_fbar S 23 0 7 1 = 0 then 1 else 0) 11 0 = (if q_fbar S 23 0 7 1 = 0 then 1 else 0) := ww_u2s
  have e2 : ww_u2 S 11 0 (if q_fbar S 23 0 7 1 = 0 then 1 else 0) 2 0 = 0 := hk0
  have hL1 : q_LI (ww_u2 S 11 0 (if q_fbar S 23 0 7 1 = 0 then 1 else 0)) w m wa := q_LI_u2 hL (by decide)
  have hrl := x_release h (p := 0) (by decide) hk0
  have hcb := q_cby_1 (S := ww_u2 S 11 0 (if q_fbar S 23 0 7 1 = 0 then 1 else 0)) (n := 23) (t := 0) (by decide)
  have hfn := q_fbar_n (S := S) (n := 23) (t := 0)
  rw [efb] at hcb
  generalize ww_u2 S 11 0 (if q_fbar S 23 0 7 1 = 0 then 1 else 0) = S1 at *
  refine ww_aload_n (i := 1) dL_law_171 rfl rfl ?_
  refine ww_iconst (v := 0) dL_law_172 (by decide) ?_
  refine ww_callV (κ := 7) (r := (RX6, TX6, 4)) wk_L_53 dL_law_173 (x_bars h (p := 0) (by decide) hk0) rfl rfl (show ww_is _ _ 7 from hx).1 (show ww_is _ _ 7 from hx).2 rfl rfl (by omega) (by omega) (by omega) (by first | exact Nat.le_of_ble_eq_true rfl | (simp [ww_rf_cat, Value.category])) rfl (fun E M9 h9 => h9.elim) (fun v9 M9 h9 => ?_)
  obtain ⟨rfl, rfl⟩ := h9
  refine ww_istore (i := 11) (lv2 := [(0, _), (1, _), (2, _), (3, _), (4, _), (5, _), (6, _), (8, _), (9, _), (10, _), (11, _)]) dL_law_176 (Nat.le_of_ble_eq_true rfl) rfl ?_
  refine ww_aload_n (i := 1) dL_law_178 rfl rfl ?_
  refine ww_iconst (v := 0) dL_law_179 (by decide) ?_
  refine ww_callV (κ := 7) (r := (RX6, TX6, 4)) wk_L_56 dL_law_180 (hrl) rfl rfl (show ww_is _ _ 7 from hx).1 (show ww_is _ _ 7 from hx).2 rfl rfl (by omega) (by omega) (by omega) (by first | exact Nat.le_of_ble_eq_true rfl | (simp [ww_rf_cat, Value.category])) rfl (fun E M9 h9 => h9.elim) (fun v9 M9 h9 => ?_)
  obtain ⟨rfl, h1⟩ := h9
  refine ww_iload (i := 11) dL_law_183 rfl ?_
  refine ww_icmp_ne_f (tgt := 237) dL_law_185 (by decide) rfl ?_
  -- at 188, locals [0, 1, 2, 3, 4, 5, 6, 8, 9, 10, 11]
  have hx1 := x_is h1
  have hre := x_isReleased h1 (p := 0) (by decide) e2
  have hby := x_barredBy h1 (p := 0) (by decide) e2
  rw [e11] at hre
  by_cases c1 : q_fbar S 23 0 7 1 = 0
  · have c0 := hfn.mpr c1
    rw [if_pos c1] at hre
    rw [hcb.mpr c1] at hby
    refine ww_aload_n (i := 1) dL_law_188 rfl rfl ?_
    refine ww_iconst (v := 0) dL_law_189 (by decide) ?_
    refine ww_callV (κ := 7) (r := (RX6, TX6, 4)) wk_L_59 dL_law_190 (hre) rfl rfl (show ww_is _ _ 7 from hx1).1 (show ww_is _ _ 7 from hx1).2 rfl rfl (by omega) (by omega) (by omega) (by first | exact Nat.le_of_ble_eq_true rfl | (simp [ww_rf_cat, Value.category])) rfl (fun E M9 h9 => h9.elim) (fun v9 M9 h9 => ?_)
    obtain ⟨rfl, rfl⟩ := h9
    refine ww_iload (i := 11) dL_law_193 rfl ?_
    refine ww_if_ne_f (tgt := 202) dL_law_195 (by decide) c0 ?_
    refine ww_iconst (v := 1) dL_law_198 (by decide) ?_
    refine ww_goto (tgt := 203) dL_law_199 (by decide) ?_
    refine ww_icmp_ne_f (tgt := 237) dL_law_203 (by decide) rfl ?_
    refine ww_aload_n (i := 1) dL_law_206 rfl rfl ?_
    refine ww_iconst (v := 0) dL_law_207 (by decide) ?_
    refine ww_callV (κ := 7) (r := (RX6, TX6, 4)) wk_L_63 dL_law_208 (hby) rfl rfl (show ww_is _ _ 7 from hx1).1 (show ww_is _ _ 7 from hx1).2 rfl rfl (by omega) (by omega) (by omega) (by first | exact Nat.le_of_ble_eq_true rfl | (simp [ww_rf_cat, Value.category])) rfl (fun E M9 h9 => h9.elim) (fun v9 M9 h9 => ?_)
    obtain ⟨rfl, rfl⟩ := h9
    refine ww_iconst (v := (-1)) dL_law_211 (by decide) ?_
    refine ww_icmp_ne_f (tgt := 219) dL_law_212 (by decide) rfl ?_
    refine ww_iconst (v := 1) dL_law_215 (by decide) ?_
    refine ww_goto (tgt := 220) dL_law_216 (by decide) ?_
    refine ww_iload (i := 11) dL_law_220 rfl ?_
    refine ww_if_ne_f (tgt := 229) dL_law_222 (by decide) c0 ?_
    refine ww_iconst (v := 1) dL_law_225 (by decide) ?_
    refine ww_goto (tgt := 230) dL_law_226 (by decide) ?_
    refine ww_icmp_ne_f (tgt := 237) dL_law_230 (by decide) (by decide) ?_
    refine ww_iconst (v := 1) dL_law_233 (by decide) ?_
    refine ww_goto (tgt := 238) dL_law_234 (by decide) ?_
    refine ww_istore_n (i := 2) (lv2 := [(0, _), (1, _), (2, _), (3, _), (4, _), (5, _), (6, _), (8, _), (9, _), (10, _), (11, _)]) dL_law_238 rfl (Nat.le_of_ble_eq_true rfl) rfl ?_
    refine ww_goto (tgt := 1575) dL_law_239 (by decide) ?_
    -- at 1575, locals [0, 1, 2, 3, 4, 5, 6, 8, 9, 10, 11]
    exact ww_subk (ww_less (by omega) (by omega) (kk _ _ _ _ _ _ (by omega) h1 hL1)) ⟨rfl, rfl, rfl, rfl, rfl, rfl, rfl, rfl, trivial⟩
  · have c0 : ¬ nI (q_fbar S 23 0 7 1) = 0 := fun y => c1 (hfn.mp y)
    have c2 : ¬ q_cby S1 23 0 = -1 := fun y => c1 (hcb.mp y)
    rw [if_neg c1] at hre
    refine ww_aload_n (i := 1) dL_law_188 rfl rfl ?_
    refine ww_iconst (v := 0) dL_law_189 (by decide) ?_
    refine ww_callV (κ := 7) (r := (RX6, TX6, 4)) wk_L_59 dL_law_190 (hre) rfl rfl (show ww_is _ _ 7 from hx1).1 (show ww_is _ _ 7 from hx1).2 rfl rfl (by omega) (by omega) (by omega) (by first | exact Nat.le_of_ble_eq_true rfl | (simp [ww_rf_cat, Value.category])) rfl (fun E M9 h9 => h9.elim) (fun v9 M9 h9 => ?_)
    obtain ⟨rfl, rfl⟩ := h9
    refine ww_iload (i := 11) dL_law_193 rfl ?_
    refine ww_if_ne_t (tgt := 202) dL_law_195 (by decide) c0 ?_
    refine ww_iconst (v := 0) dL_law_202 (by decide) ?_
    refine ww_icmp_ne_f (tgt := 237) dL_law_203 (by decide) rfl ?_
    refine ww_aload_n (i := 1) dL_law_206 rfl rfl ?_
    refine ww_iconst (v := 0) dL_law_207 (by decide) ?_
    refine ww_callV (κ := 7) (r := (RX6, TX6, 4)) wk_L_63 dL_law_208 (hby) rfl rfl (show ww_is _ _ 7 from hx1).1 (show ww_is _ _ 7 from hx1).2 rfl rfl (by omega) (by omega) (by omega) (by first | exact Nat.le_of_ble_eq_true rfl | (simp [ww_rf_cat, Value.category])) rfl (fun E M9 h9 => h9.elim) (fun v9 M9 h9 => ?_)
    obtain ⟨rfl, rfl⟩ := h9
    refine ww_iconst (v := (-1)) dL_law_211 (by decide) ?_
    refine ww_icmp_ne_t (tgt := 219) dL_law_212 (by decide) c2 ?_
    refine ww_iconst (v := 0) dL_law_219 (by decide) ?_
    refine ww_iload (i := 11) dL_law_220 rfl ?_
    refine ww_if_ne_t (tgt := 229) dL_law_222 (by decide) c0 ?_
    refine ww_iconst (v := 0) dL_law_229 (by decide) ?_
    refine ww_icmp_ne_f (tgt := 237) dL_law_230 (by decide) (by decide) ?_
    refine ww_iconst (v := 1) dL_law_233 (by decide) ?_
    refine ww_goto (tgt := 238) dL_law_234 (by decide) ?_
    refine ww_istore_n (i := 2) (lv2 := [(0, _), (1, _), (2, _), (3, _), (4, _), (5, _), (6, _), (8, _), (9, _), (10, _), (11, _)]) dL_law_238 rfl (Nat.le_of_ble_eq_true rfl) rfl ?_
    refine ww_goto (tgt := 1575) dL_law_239 (by decide) ?_
    -- at 1575, locals [0, 1, 2, 3, 4, 5, 6, 8, 9, 10, 11]
    exact ww_subk (ww_less (by omega) (by omega) (kk _ _ _ _ _ _ (by omega) h1 hL1)) ⟨rfl, rfl, rfl, rfl, rfl, rfl, rfl, rfl, trivial⟩
set_option maxRecDepth 20000 in
set_option maxHeartbeats 4000000 in
theorem law_b1 (h : ww_mx g c b 23 w m S M) (hL : q_LI S w m wa) (hb : b ≤ 500) (hp : p < 23) (hd : 24 ≤ d) (hkc : 20 ≤ kc) (hks : 8000 ≤ ks) (kk : ∀ (M' : ww_M) (S' : Nat → Nat → Int32) (b' w' m' : Nat) (wa' : Int32), b' ≤ b + 4 → ww_mx g c b' 23 w' m' S' M' → q_LI S' w' m' wa' → ww_A g wy_L_law d (kc - 20) (ks - 8000) M' 1575 [(0, .ref (ww_gb g)), (1, .ref (c 0)), (2, .int 1), (3, .int mo), (4, .int wa'), (5, .int ti), (6, .int v), (8, .int (nI p))] [] Q X) : ww_A g wy_L_law d kc ks M 248 [(0, .ref (ww_gb g)), (1, .ref (c 0)), (2, .int 1), (3, .int mo), (4, .int wa), (5, .int ti), (6, .int v), (8, .int (nI p)), (9, .int (S 5 p)), (10, .int (S 12 (q_hd (S 5) 5 p)))] [] Q X := by
  have hx := x_is h
  have hk0 := q_k0 hL
  have e11 : ww_u2 S 11 0 (if q_fbar S 23 0 7 1 = 0 then 1 else 0) 11 0 = (if q_fbar S 23 0 7 1 = 0 then 1 else 0) := ww_u2s
  have e2 : ww_u2 S 11 0 (if q_fbar S 23 0 7 1 = 0 then 1 else 0) 2 0 = 0 := hk0
  have hL1 : q_LI (ww_u2 S 11 0 (if q_fbar S 23 0 7 1 = 0 then 1 else 0)) w m wa := q_LI_u2 hL (by decide)
  have hrl := x_release h (p := 0) (by decide) hk0
  generalize ww_u2 S 11 0 (if q_fbar S 23 0 7 1 = 0 then 1 else 0) = S1 at *
  refine ww_aload_n (i := 1) dL_law_248 rfl rfl ?_
  refine ww_iconst (v := 0) dL_law_249 (by decide) ?_
  refine ww_callV (κ := 7) (r := (RX6, TX6, 4)) wk_L_56 dL_law_250 (hrl) rfl rfl (show ww_is _ _ 7 from hx).1 (show ww_is _ _ 7 from hx).2 rfl rfl (by omega) (by omega) (by omega) (by first | exact Nat.le_of_ble_eq_true rfl | (simp [ww_rf_cat, Value.category])) rfl (fun E M9 h9 => h9.elim) (fun v9 M9 h9 => ?_)
  obtain ⟨rfl, h1⟩ := h9
  -- at 253, locals [0, 1, 2, 3, 4, 5, 6, 8, 9, 10]
  have hx1 := x_is h1
  have hre := x_isReleased h1 (p := 0) (by decide) e2
  have hst := l_stands h1 (t := 0) (by decide)
  by_cases c1 : S1 11 0 = 0
  · refine ww_pop dL_law_253 (by first | rfl | exact ww_rf_cat _) ?_
    refine ww_aload_n (i := 1) dL_law_254 rfl rfl ?_
    refine ww_iconst (v := 0) dL_law_255 (by decide) ?_
    refine ww_callV (κ := 7) (r := (RX6, TX6, 4)) wk_L_59 dL_law_256 (hre) rfl rfl (show ww_is _ _ 7 from hx1).1 (show ww_is _ _ 7 from hx1).2 rfl rfl (by omega) (by omega) (by omega) (by first | exact Nat.le_of_ble_eq_true rfl | (simp [ww_rf_cat, Value.category])) rfl (fun E M9 h9 => h9.elim) (fun v9 M9 h9 => ?_)
    obtain ⟨rfl, rfl⟩ := h9
    refine ww_if_eq_t (tgt := 1575) dL_law_259 (by decide) c1 ?_
    -- at 1575, locals [0, 1, 2, 3, 4, 5, 6, 8, 9, 10]
    exact ww_subk (ww_less (by omega) (by omega) (kk _ _ _ _ _ _ (by omega) h1 hL1)) ⟨rfl, rfl, rfl, rfl, rfl, rfl, rfl, rfl, trivial⟩
  by_cases c2 : ¬ S1 12 0 = 0
  · refine ww_pop dL_law_253 (by first | rfl | exact ww_rf_cat _) ?_
    refine ww_aload_n (i := 1) dL_law_254 rfl rfl ?_
    refine ww_iconst (v := 0) dL_law_255 (by decide) ?_
    refine ww_callV (κ := 7) (r := (RX6, TX6, 4)) wk_L_59 dL_law_256 (hre) rfl rfl (show ww_is _ _ 7 from hx1).1 (show ww_is _ _ 7 from hx1).2 rfl rfl (by omega) (by omega) (by omega) (by first | exact Nat.le_of_ble_eq_true rfl | (simp [ww_rf_cat, Value.category])) rfl (fun E M9 h9 => h9.elim) (fun v9 M9 h9 => ?_)
    obtain ⟨rfl, rfl⟩ := h9
    refine ww_if_eq_f (tgt := 1575) dL_law_259 (by decide) c1 ?_
    refine ww_aload_n (i := 1) dL_law_262 rfl rfl ?_
    refine ww_iconst (v := 0) dL_law_263 (by decide) ?_
    refine ww_callS wk_L_49 rfl dL_law_264 (hst) rfl rfl (by omega) (by omega) (by omega) (by first | exact Nat.le_of_ble_eq_true rfl | (simp [ww_rf_cat, Value.category])) rfl (fun E M9 h9 => h9.elim) (fun v9 M9 h9 => ?_)
    obtain ⟨rfl, rfl⟩ := h9
    refine ww_if_ne_t (tgt := 1575) dL_law_267 (by decide) c2 ?_
    -- at 1575, locals [0, 1, 2, 3, 4, 5, 6, 8, 9, 10]
    exact ww_subk (ww_less (by omega) (by omega) (kk _ _ _ _ _ _ (by omega) h1 hL1)) ⟨rfl, rfl, rfl, rfl, rfl, rfl, rfl, rfl, trivial⟩
  have c2 : S1 12 0 = 0 := Classical.not_not.mp c2
  have hlo := l_low (g := g) (M := M9) (v := v >>> (4 &&& 31)) (k := 900) (by decide) (by decide)
  have hlo2 := l_low (g := g) (M := M9) (v := v >>> (6 &&& 31)) (k := 4) (by decide) (by decide)
  have j1 := q_lw_lt (v := v >>> (4 &&& 31)) (k := 900) (by decide)
  have j2 := q_lw_lt (v := v >>> (6 &&& 31)) (k := 4) (by decide)
  generalize q_lw (v >>> (4 &&& 31)) 900 = j at hlo j1
  generalize q_lw (v >>> (6 &&& 31)) 4 = s at hlo2 j2
  refine ww_pop dL_law_253 (by first | rfl | exact ww_rf_cat _) ?_
  refine ww_aload_n (i := 1) dL_law_254 rfl rfl ?_
  refine ww_iconst (v := 0) dL_law_255 (by decide) ?_
  refine ww_callV (κ := 7) (r := (RX6, TX6, 4)) wk_L_59 dL_law_256 (hre) rfl rfl (show ww_is _ _ 7 from hx1).1 (show ww_is _ _ 7 from hx1).2 rfl rfl (by omega) (by omega) (by omega) (by first | exact Nat.le_of_ble_eq_true rfl | (simp [ww_rf_cat, Value.category])) rfl (fun E M9 h9 => h9.elim) (fun v9 M9 h9 => ?_)
  obtain ⟨rfl, rfl⟩ := h9
  refine ww_if_eq_f (tgt := 1575) dL_law_259 (by decide) c1 ?_
  refine ww_aload_n (i := 1) dL_law_262 rfl rfl ?_
  refine ww_iconst (v := 0) dL_law_263 (by decide) ?_
  refine ww_callS wk_L_49 rfl dL_law_264 (hst) rfl rfl (by omega) (by omega) (by omega) (by first | exact Nat.le_of_ble_eq_true rfl | (simp [ww_rf_cat, Value.category])) rfl (fun E M9 h9 => h9.elim) (fun v9 M9 h9 => ?_)
  obtain ⟨rfl, rfl⟩ := h9
  refine ww_if_ne_f (tgt := 1575) dL_law_267 (by decide) c2 ?_
  refine ww_iconst (v := 1) dL_law_270 (by decide) ?_
  refine ww_iload (i := 6) dL_law_271 rfl ?_
  refine ww_iconst (v := 4) dL_law_273 (by decide) ?_
  refine ww_ishr dL_law_274 ?_
  refine ww_sipush (v := 900) dL_law_275 (by decide) ?_
  refine ww_callS wk_L_43 rfl dL_law_278 (hlo) rfl rfl (by omega) (by omega) (by omega) (by first | exact Nat.le_of_ble_eq_true rfl | (simp [ww_rf_cat, Value.category])) rfl (fun E M9 h9 => h9.elim) (fun v9 M9 h9 => ?_)
  obtain ⟨rfl, rfl⟩ := h9
  refine ww_iadd dL_law_281 ?_
  -- at 282, locals [0, 1, 2, 3, 4, 5, 6, 8, 9, 10]
  refine ww_top (nI (1 + j)) (nI_add 1 j) ?_
  have hkm : q_rg 1 2000 (nI (1 + j)) := q_rgN (lo := 1) (hi := 2000) (by omega) (by omega) (by decide)
  have hse : q_rg 0 3 (nI s) := q_rgN (lo := 0) (hi := 3) (by omega) (by omega) (by decide)
  have hrc : q_runC S1 0 := ⟨c1, fun y => by
    unfold q_bound at y
    rw [q_hd_0 hL1, c2] at y
    exact absurd y (by decide)⟩
  have hru := x_run h1 (by omega) (p := 0) (by decide) e2 ⟨hkm, hse⟩ hrc
  have e7 := q_run_6 (S := S1) (n := 23) (p := 0) (i := 7) (d := nI (1 + j)) (s := nI s) (by decide)
  have e20 := q_run_6 (S := S1) (n := 23) (p := 0) (i := 20) (d := nI (1 + j)) (s := nI s) (by decide)
  have hL2 := q_LI_run (n := 23) (p := 0) (d := nI (1 + j)) (s := nI s) hL1
  have f11 : q_run (ww_u2 (q_us S1 0 0) 11 0 0) 23 0 (nI (1 + j)) (nI s) 11 0 = 0 := (congrFun (q_run_k (by decide)) 0).trans ww_u2s
  have f2 : q_run (ww_u2 (q_us S1 0 0) 11 0 0) 23 0 (nI (1 + j)) (nI s) 2 0 = 0 := (congrFun (q_run_k (by decide)) 0).trans e2
  generalize q_run (ww_u2 (q_us S1 0 0) 11 0 0) 23 0 (nI (1 + j)) (nI s) = S2 at hru e7 e20 hL2 f11 f2
  generalize nI (1 + j) = km at *
  have hof7 := x_of3 h1 (p := 7) (by decide)
  have hof20 := x_of3 h1 (p := 20) (by decide)
  have hh7 := x_head h1 (p := 7) (by decide)
  have hh20 := x_head h1 (p := 20) (by decide)
  have l7 := q_hd_lt (x_G h1).2.2.1 (by decide) 5 7 (by decide)
  have l20 := q_hd_lt (x_G h1).2.2.1 (by decide) 5 20 (by decide)
  by_cases c20 : q_hd (S1 5) 5 20 = 0
  · rw [if_pos c20] at e20
    rw [c20] at hh20
    by_cases c7 : q_hd (S1 5) 5 7 = 0
    · rw [if_pos c7] at e7
      rw [c7] at hh7
      refine ww_istore (i := 11) (lv2 := [(0, _), (1, _), (2, _), (3, _), (4, _), (5, _), (6, _), (8, _), (9, _), (10, _), (11, _)]) dL_law_282 (Nat.le_of_ble_eq_true rfl) rfl ?_
      refine ww_aload_n (i := 1) dL_law_284 rfl rfl ?_
      refine ww_bipush (v := 7) dL_law_285 (by decide) ?_
      refine ww_iconst (v := 3) dL_law_287 (by decide) ?_
      refine ww_callV (κ := 7) (r := (RX6, TX6, 4)) wk_L_22 dL_law_288 (hof7) rfl rfl (show ww_is _ _ 7 from hx1).1 (show ww_is _ _ 7 from hx1).2 rfl rfl (by omega) (by omega) (by omega) (by first | exact Nat.le_of_ble_eq_true rfl | (simp [ww_rf_cat, Value.category])) rfl (fun E M9 h9 => h9.elim) (fun v9 M9 h9 => ?_)
      obtain ⟨rfl, rfl⟩ := h9
      refine ww_istore (i := 12) (lv2 := [(0, _), (1, _), (2, _), (3, _), (4, _), (5, _), (6, _), (8, _), (9, _), (10, _), (11, _), (12, _)]) dL_law_291 (Nat.le_of_ble_eq_true rfl) rfl ?_
      refine ww_aload_n (i := 1) dL_law_293 rfl rfl ?_
      refine ww_bipush (v := 20) dL_law_294 (by decide) ?_
      refine ww_iconst (v := 3) dL_law_296 (by decide) ?_
      refine ww_callV (κ := 7) (r := (RX6, TX6, 4)) wk_L_22 dL_law_297 (hof20) rfl rfl (show ww_is _ _ 7 from hx1).1 (show ww_is _ _ 7 from hx1).2 rfl rfl (by omega) (by omega) (by omega) (by first | exact Nat.le_of_ble_eq_true rfl | (simp [ww_rf_cat, Value.category])) rfl (fun E M9 h9 => h9.elim) (fun v9 M9 h9 => ?_)
      obtain ⟨rfl, rfl⟩ := h9
      refine ww_istore (i := 13) (lv2 := [(0, _), (1, _), (2, _), (3, _), (4, _), (5, _), (6, _), (8, _), (9, _), (10, _), (11, _), (12, _), (13, _)]) dL_law_300 (Nat.le_of_ble_eq_true rfl) rfl ?_
      refine ww_aload_n (i := 1) dL_law_302 rfl rfl ?_
      refine ww_bipush (v := 20) dL_law_303 (by decide) ?_
      refine ww_callV (κ := 7) (r := (RX6, TX6, 4)) wk_L_46 dL_law_305 (hh20) rfl rfl (show ww_is _ _ 7 from hx1).1 (show ww_is _ _ 7 from hx1).2 rfl rfl (by omega) (by omega) (by omega) (by first | exact Nat.le_of_ble_eq_true rfl | (simp [ww_rf_cat, Value.category])) rfl (fun E M9 h9 => h9.elim) (fun v9 M9 h9 => ?_)
      obtain ⟨rfl, rfl⟩ := h9
      refine ww_if_ne_f (tgt := 315) dL_law_308 (by decide) (by decide) ?_
      refine ww_iconst (v := 1) dL_law_311 (by decide) ?_
      refine ww_goto (tgt := 316) dL_law_312 (by decide) ?_
      refine ww_istore (i := 14) (lv2 := [(0, _), (1, _), (2, _), (3, _), (4, _), (5, _), (6, _), (8, _), (9, _), (10, _), (11, _), (12, _), (13, _), (14, _)]) dL_law_316 (Nat.le_of_ble_eq_true rfl) rfl ?_
      refine ww_aload_n (i := 1) dL_law_318 rfl rfl ?_
      refine ww_bipush (v := 7) dL_law_319 (by decide) ?_
      refine ww_callV (κ := 7) (r := (RX6, TX6, 4)) wk_L_46 dL_law_321 (hh7) rfl rfl (show ww_is _ _ 7 from hx1).1 (show ww_is _ _ 7 from hx1).2 rfl rfl (by omega) (by omega) (by omega) (by first | exact Nat.le_of_ble_eq_true rfl | (simp [ww_rf_cat, Value.category])) rfl (fun E M9 h9 => h9.elim) (fun v9 M9 h9 => ?_)
      obtain ⟨rfl, rfl⟩ := h9
      refine ww_if_ne_f (tgt := 331) dL_law_324 (by decide) (by decide) ?_
      refine ww_iconst (v := 1) dL_law_327 (by decide) ?_
      refine ww_goto (tgt := 332) dL_law_328 (by decide) ?_
      refine ww_istore (i := 15) (lv2 := [(0, _), (1, _), (2, _), (3, _), (4, _), (5, _), (6, _), (8, _), (9, _), (10, _), (11, _), (12, _), (13, _), (14, _), (15, _)]) dL_law_332 (Nat.le_of_ble_eq_true rfl) rfl ?_
      refine ww_aload_n (i := 1) dL_law_334 rfl rfl ?_
      refine ww_iconst (v := 0) dL_law_335 (by decide) ?_
      refine ww_iload (i := 11) dL_law_336 rfl ?_
      refine ww_iload (i := 6) dL_law_338 rfl ?_
      refine ww_bipush (v := 6) dL_law_340 (by decide) ?_
      refine ww_ishr dL_law_342 ?_
      refine ww_iconst (v := 4) dL_law_343 (by decide) ?_
      refine ww_callS wk_L_43 rfl dL_law_344 (hlo2) rfl rfl (by omega) (by omega) (by omega) (by first | exact Nat.le_of_ble_eq_true rfl | (simp [ww_rf_cat, Value.category])) rfl (fun E M9 h9 => h9.elim) (fun v9 M9 h9 => ?_)
      obtain ⟨rfl, rfl⟩ := h9
      refine ww_callV (κ := 7) (r := (RX6, TX6, 4)) wk_L_66 dL_law_347 (hru) rfl rfl (show ww_is _ _ 7 from hx1).1 (show ww_is _ _ 7 from hx1).2 rfl rfl (by omega) (by omega) (by omega) (by first | exact Nat.le_of_ble_eq_true rfl | (simp [ww_rf_cat, Value.category])) rfl (fun E M9 h9 => h9.elim) (fun v9 M9 h9 => ?_)
      obtain ⟨rfl, h2⟩ := h9
      -- at 350, locals [0, 1, 2, 3, 4, 5, 6, 8, 9, 10, 11, 12, 13, 14, 15]
      have hx2 := x_is h2
      have g7 := x_of3 h2 (p := 7) (by decide)
      have g20 := x_of3 h2 (p := 20) (by decide)
      have hre2 := x_isReleased h2 (p := 0) (by decide) f2
      rw [e7] at g7
      rw [e20] at g20
      rw [f11] at hre2
      refine ww_pop dL_law_350 (by first | rfl | exact ww_rf_cat _) ?_
      refine ww_aload_n (i := 1) dL_law_351 rfl rfl ?_
      refine ww_bipush (v := 7) dL_law_352 (by decide) ?_
      refine ww_iconst (v := 3) dL_law_354 (by decide) ?_
      refine ww_callV (κ := 7) (r := (RX6, TX6, 4)) wk_L_22 dL_law_355 (g7) rfl rfl (show ww_is _ _ 7 from hx2).1 (show ww_is _ _ 7 from hx2).2 rfl rfl (by omega) (by omega) (by omega) (by first | exact Nat.le_of_ble_eq_true rfl | (simp [ww_rf_cat, Value.category])) rfl (fun E M9 h9 => h9.elim) (fun v9 M9 h9 => ?_)
      obtain ⟨rfl, rfl⟩ := h9
      refine ww_iload (i := 12) dL_law_358 rfl ?_
      refine ww_iload (i := 15) dL_law_360 rfl ?_
      refine ww_if_eq_f (tgt := 370) dL_law_362 (by decide) (by decide) ?_
      refine ww_iload (i := 11) dL_law_365 rfl ?_
      refine ww_goto (tgt := 371) dL_law_367 (by decide) ?_
      refine ww_iadd dL_law_371 ?_
      refine ww_icmp_ne_f (tgt := 411) dL_law_372 (by decide) rfl ?_
      refine ww_aload_n (i := 1) dL_law_375 rfl rfl ?_
      refine ww_bipush (v := 20) dL_law_376 (by decide) ?_
      refine ww_iconst (v := 3) dL_law_378 (by decide) ?_
      refine ww_callV (κ := 7) (r := (RX6, TX6, 4)) wk_L_22 dL_law_379 (g20) rfl rfl (show ww_is _ _ 7 from hx2).1 (show ww_is _ _ 7 from hx2).2 rfl rfl (by omega) (by omega) (by omega) (by first | exact Nat.le_of_ble_eq_true rfl | (simp [ww_rf_cat, Value.category])) rfl (fun E M9 h9 => h9.elim) (fun v9 M9 h9 => ?_)
      obtain ⟨rfl, rfl⟩ := h9
      refine ww_iload (i := 13) dL_law_382 rfl ?_
      refine ww_iload (i := 14) dL_law_384 rfl ?_
      refine ww_if_eq_f (tgt := 394) dL_law_386 (by decide) (by decide) ?_
      refine ww_iload (i := 11) dL_law_389 rfl ?_
      refine ww_goto (tgt := 395) dL_law_391 (by decide) ?_
      refine ww_iadd dL_law_395 ?_
      refine ww_icmp_ne_f (tgt := 411) dL_law_396 (by decide) rfl ?_
      refine ww_aload_n (i := 1) dL_law_399 rfl rfl ?_
      refine ww_iconst (v := 0) dL_law_400 (by decide) ?_
      refine ww_callV (κ := 7) (r := (RX6, TX6, 4)) wk_L_59 dL_law_401 (hre2) rfl rfl (show ww_is _ _ 7 from hx2).1 (show ww_is _ _ 7 from hx2).2 rfl rfl (by omega) (by omega) (by omega) (by first | exact Nat.le_of_ble_eq_true rfl | (simp [ww_rf_cat, Value.category])) rfl (fun E M9 h9 => h9.elim) (fun v9 M9 h9 => ?_)
      obtain ⟨rfl, rfl⟩ := h9
      refine ww_if_ne_f (tgt := 411) dL_law_404 (by decide) rfl ?_
      refine ww_iconst (v := 1) dL_law_407 (by decide) ?_
      refine ww_goto (tgt := 412) dL_law_408 (by decide) ?_
      refine ww_istore_n (i := 2) (lv2 := [(0, _), (1, _), (2, _), (3, _), (4, _), (5, _), (6, _), (8, _), (9, _), (10, _), (11, _), (12, _), (13, _), (14, _), (15, _)]) dL_law_412 rfl (Nat.le_of_ble_eq_true rfl) rfl ?_
      refine ww_goto (tgt := 1575) dL_law_413 (by decide) ?_
      -- at 1575, locals [0, 1, 2, 3, 4, 5, 6, 8, 9, 10, 11, 12, 13, 14, 15]
      exact ww_subk (ww_less (by omega) (by omega) (kk _ _ _ _ _ _ (by omega) h2 hL2)) ⟨rfl, rfl, rfl, rfl, rfl, rfl, rfl, rfl, trivial⟩
    · rw [if_neg c7] at e7
      have n7 : ¬ nI (q_hd (S1 5) 5 7) = 0 := q_ne (k := 0) (by omega) (by decide) c7
      refine ww_istore (i := 11) (lv2 := [(0, _), (1, _), (2, _), (3, _), (4, _), (5, _), (6, _), (8, _), (9, _), (10, _), (11, _)]) dL_law_282 (Nat.le_of_ble_eq_true rfl) rfl ?_
      refine ww_aload_n (i := 1) dL_law_284 rfl rfl ?_
      refine ww_bipush (v := 7) dL_law_285 (by decide) ?_
      refine ww_iconst (v := 3) dL_law_287 (by decide) ?_
      refine ww_callV (κ := 7) (r := (RX6, TX6, 4)) wk_L_22 dL_law_288 (hof7) rfl rfl (show ww_is _ _ 7 from hx1).1 (show ww_is _ _ 7 from hx1).2 rfl rfl (by omega) (by omega) (by omega) (by first | exact Nat.le_of_ble_eq_true rfl | (simp [ww_rf_cat, Value.category])) rfl (fun E M9 h9 => h9.elim) (fun v9 M9 h9 => ?_)
      obtain ⟨rfl, rfl⟩ := h9
      refine ww_istore (i := 12) (lv2 := [(0, _), (1, _), (2, _), (3, _), (4, _), (5, _), (6, _), (8, _), (9, _), (10, _), (11, _), (12, _)]) dL_law_291 (Nat.le_of_ble_eq_true rfl) rfl ?_
      refine ww_aload_n (i := 1) dL_law_293 rfl rfl ?_
      refine ww_bipush (v := 20) dL_law_294 (by decide) ?_
      refine ww_iconst (v := 3) dL_law_296 (by decide) ?_
      refine ww_callV (κ := 7) (r := (RX6, TX6, 4)) wk_L_22 dL_law_297 (hof20) rfl rfl (show ww_is _ _ 7 from hx1).1 (show ww_is _ _ 7 from hx1).2 rfl rfl (by omega) (by omega) (by omega) (by first | exact Nat.le_of_ble_eq_true rfl | (simp [ww_rf_cat, Value.category])) rfl (fun E M9 h9 => h9.elim) (fun v9 M9 h9 => ?_)
      obtain ⟨rfl, rfl⟩ := h9
      refine ww_istore (i := 13) (lv2 := [(0, _), (1, _), (2, _), (3, _), (4, _), (5, _), (6, _), (8, _), (9, _), (10, _), (11, _), (12, _), (13, _)]) dL_law_300 (Nat.le_of_ble_eq_true rfl) rfl ?_
      refine ww_aload_n (i := 1) dL_law_302 rfl rfl ?_
      refine ww_bipush (v := 20) dL_law_303 (by decide) ?_
      refine ww_callV (κ := 7) (r := (RX6, TX6, 4)) wk_L_46 dL_law_305 (hh20) rfl rfl (show ww_is _ _ 7 from hx1).1 (show ww_is _ _ 7 from hx1).2 rfl rfl (by omega) (by omega) (by omega) (by first | exact Nat.le_of_ble_eq_true rfl | (simp [ww_rf_cat, Value.category])) rfl (fun E M9 h9 => h9.elim) (fun v9 M9 h9 => ?_)
      obtain ⟨rfl, rfl⟩ := h9
      refine ww_if_ne_f (tgt := 315) dL_law_308 (by decide) (by decide) ?_
      refine ww_iconst (v := 1) dL_law_311 (by decide) ?_
      refine ww_goto (tgt := 316) dL_law_312 (by decide) ?_
      refine ww_istore (i := 14) (lv2 := [(0, _), (1, _), (2, _), (3, _), (4, _), (5, _), (6, _), (8, _), (9, _), (10, _), (11, _), (12, _), (13, _), (14, _)]) dL_law_316 (Nat.le_of_ble_eq_true rfl) rfl ?_
      refine ww_aload_n (i := 1) dL_law_318 rfl rfl ?_
      refine ww_bipush (v := 7) dL_law_319 (by decide) ?_
      refine ww_callV (κ := 7) (r := (RX6, TX6, 4)) wk_L_46 dL_law_321 (hh7) rfl rfl (show ww_is _ _ 7 from hx1).1 (show ww_is _ _ 7 from hx1).2 rfl rfl (by omega) (by omega) (by omega) (by first | exact Nat.le_of_ble_eq_true rfl | (simp [ww_rf_cat, Value.category])) rfl (fun E M9 h9 => h9.elim) (fun v9 M9 h9 => ?_)
      obtain ⟨rfl, rfl⟩ := h9
      refine ww_if_ne_t (tgt := 331) dL_law_324 (by decide) n7 ?_
      refine ww_iconst (v := 0) dL_law_331 (by decide) ?_
      refine ww_istore (i := 15) (lv2 := [(0, _), (1, _), (2, _), (3, _), (4, _), (5, _), (6, _), (8, _), (9, _), (10, _), (11, _), (12, _), (13, _), (14, _), (15, _)]) dL_law_332 (Nat.le_of_ble_eq_true rfl) rfl ?_
      refine ww_aload_n (i := 1) dL_law_334 rfl rfl ?_
      refine ww_iconst (v := 0) dL_law_335 (by decide) ?_
      refine ww_iload (i := 11) dL_law_336 rfl ?_
      refine ww_iload (i := 6) dL_law_338 rfl ?_
      refine ww_bipush (v := 6) dL_law_340 (by decide) ?_
      refine ww_ishr dL_law_342 ?_
      refine ww_iconst (v := 4) dL_law_343 (by decide) ?_
      refine ww_callS wk_L_43 rfl dL_law_344 (hlo2) rfl rfl (by omega) (by omega) (by omega) (by first | exact Nat.le_of_ble_eq_true rfl | (simp [ww_rf_cat, Value.category])) rfl (fun E M9 h9 => h9.elim) (fun v9 M9 h9 => ?_)
      obtain ⟨rfl, rfl⟩ := h9
      refine ww_callV (κ := 7) (r := (RX6, TX6, 4)) wk_L_66 dL_law_347 (hru) rfl rfl (show ww_is _ _ 7 from hx1).1 (show ww_is _ _ 7 from hx1).2 rfl rfl (by omega) (by omega) (by omega) (by first | exact Nat.le_of_ble_eq_true rfl | (simp [ww_rf_cat, Value.category])) rfl (fun E M9 h9 => h9.elim) (fun v9 M9 h9 => ?_)
      obtain ⟨rfl, h2⟩ := h9
      -- at 350, locals [0, 1, 2, 3, 4, 5, 6, 8, 9, 10, 11, 12, 13, 14, 15]
      have hx2 := x_is h2
      have g7 := x_of3 h2 (p := 7) (by decide)
      have g20 := x_of3 h2 (p := 20) (by decide)
      have hre2 := x_isReleased h2 (p := 0) (by decide) f2
      rw [e7] at g7
      rw [e20] at g20
      rw [f11] at hre2
      refine ww_pop dL_law_350 (by first | rfl | exact ww_rf_cat _) ?_
      refine ww_aload_n (i := 1) dL_law_351 rfl rfl ?_
      refine ww_bipush (v := 7) dL_law_352 (by decide) ?_
      refine ww_iconst (v := 3) dL_law_354 (by decide) ?_
      refine ww_callV (κ := 7) (r := (RX6, TX6, 4)) wk_L_22 dL_law_355 (g7) rfl rfl (show ww_is _ _ 7 from hx2).1 (show ww_is _ _ 7 from hx2).2 rfl rfl (by omega) (by omega) (by omega) (by first | exact Nat.le_of_ble_eq_true rfl | (simp [ww_rf_cat, Value.category])) rfl (fun E M9 h9 => h9.elim) (fun v9 M9 h9 => ?_)
      obtain ⟨rfl, rfl⟩ := h9
      refine ww_iload (i := 12) dL_law_358 rfl ?_
      refine ww_iload (i := 15) dL_law_360 rfl ?_
      refine ww_if_eq_t (tgt := 370) dL_law_362 (by decide) rfl ?_
      refine ww_iconst (v := 0) dL_law_370 (by decide) ?_
      refine ww_iadd dL_law_371 ?_
      refine ww_icmp_ne_f (tgt := 411) dL_law_372 (by decide) (Int32.add_zero _).symm ?_
      refine ww_aload_n (i := 1) dL_law_375 rfl rfl ?_
      refine ww_bipush (v := 20) dL_law_376 (by decide) ?_
      refine ww_iconst (v := 3) dL_law_378 (by decide) ?_
      refine ww_callV (κ := 7) (r := (RX6, TX6, 4)) wk_L_22 dL_law_379 (g20) rfl rfl (show ww_is _ _ 7 from hx2).1 (show ww_is _ _ 7 from hx2).2 rfl rfl (by omega) (by omega) (by omega) (by first | exact Nat.le_of_ble_eq_true rfl | (simp [ww_rf_cat, Value.category])) rfl (fun E M9 h9 => h9.elim) (fun v9 M9 h9 => ?_)
      obtain ⟨rfl, rfl⟩ := h9
      refine ww_iload (i := 13) dL_law_382 rfl ?_
      refine ww_iload (i := 14) dL_law_384 rfl ?_
      refine ww_if_eq_f (tgt := 394) dL_law_386 (by decide) (by decide) ?_
      refine ww_iload (i := 11) dL_law_389 rfl ?_
      refine ww_goto (tgt := 395) dL_law_391 (by decide) ?_
      refine ww_iadd dL_law_395 ?_
      refine ww_icmp_ne_f (tgt := 411) dL_law_396 (by decide) rfl ?_
      refine ww_aload_n (i := 1) dL_law_399 rfl rfl ?_
      refine ww_iconst (v := 0) dL_law_400 (by decide) ?_
      refine ww_callV (κ := 7) (r := (RX6, TX6, 4)) wk_L_59 dL_law_401 (hre2) rfl rfl (show ww_is _ _ 7 from hx2).1 (show ww_is _ _ 7 from hx2).2 rfl rfl (by omega) (by omega) (by omega) (by first | exact Nat.le_of_ble_eq_true rfl | (simp [ww_rf_cat, Value.category])) rfl (fun E M9 h9 => h9.elim) (fun v9 M9 h9 => ?_)
      obtain ⟨rfl, rfl⟩ := h9
      refine ww_if_ne_f (tgt := 411) dL_law_404 (by decide) rfl ?_
      refine ww_iconst (v := 1) dL_law_407 (by decide) ?_
      refine ww_goto (tgt := 412) dL_law_408 (by decide) ?_
      refine ww_istore_n (i := 2) (lv2 := [(0, _), (1, _), (2, _), (3, _), (4, _), (5, _), (6, _), (8, _), (9, _), (10, _), (11, _), (12, _), (13, _), (14, _), (15, _)]) dL_law_412 rfl (Nat.le_of_ble_eq_true rfl) rfl ?_
      refine ww_goto (tgt := 1575) dL_law_413 (by decide) ?_
      -- at 1575, locals [0, 1, 2, 3, 4, 5, 6, 8, 9, 10, 11, 12, 13, 14, 15]
      exact ww_subk (ww_less (by omega) (by omega) (kk _ _ _ _ _ _ (by omega) h2 hL2)) ⟨rfl, rfl, rfl, rfl, rfl, rfl, rfl, rfl, trivial⟩
  · rw [if_neg c20] at e20
    have n20 : ¬ nI (q_hd (S1 5) 5 20) = 0 := q_ne (k := 0) (by omega) (by decide) c20
    by_cases c7 : q_hd (S1 5) 5 7 = 0
    · rw [if_pos c7] at e7
      rw [c7] at hh7
      refine ww_istore (i := 11) (lv2 := [(0, _), (1, _), (2, _), (3, _), (4, _), (5, _), (6, _), (8, _), (9, _), (10, _), (11, _)]) dL_law_282 (Nat.le_of_ble_eq_true rfl) rfl ?_
      refine ww_aload_n (i := 1) dL_law_284 rfl rfl ?_
      refine ww_bipush (v := 7) dL_law_285 (by decide) ?_
      refine ww_iconst (v := 3) dL_law_287 (by decide) ?_
      refine ww_callV (κ := 7) (r := (RX6, TX6, 4)) wk_L_22 dL_law_288 (hof7) rfl rfl (show ww_is _ _ 7 from hx1).1 (show ww_is _ _ 7 from hx1).2 rfl rfl (by omega) (by omega) (by omega) (by first | exact Nat.le_of_ble_eq_true rfl | (simp [ww_rf_cat, Value.category])) rfl (fun E M9 h9 => h9.elim) (fun v9 M9 h9 => ?_)
      obtain ⟨rfl, rfl⟩ := h9
      refine ww_istore (i := 12) (lv2 := [(0, _), (1, _), (2, _), (3, _), (4, _), (5, _), (6, _), (8, _), (9, _), (10, _), (11, _), (12, _)]) dL_law_291 (Nat.le_of_ble_eq_true rfl) rfl ?_
      refine ww_aload_n (i := 1) dL_law_293 rfl rfl ?_
      refine ww_bipush (v := 20) dL_law_294 (by decide) ?_
      refine ww_iconst (v := 3) dL_law_296 (by decide) ?_
      refine ww_callV (κ := 7) (r := (RX6, TX6, 4)) wk_L_22 dL_law_297 (hof20) rfl rfl (show ww_is _ _ 7 from hx1).1 (show ww_is _ _ 7 from hx1).2 rfl rfl (by omega) (by omega) (by omega) (by first | exact Nat.le_of_ble_eq_true rfl | (simp [ww_rf_cat, Value.category])) rfl (fun E M9 h9 => h9.elim) (fun v9 M9 h9 => ?_)
      obtain ⟨rfl, rfl⟩ := h9
      refine ww_istore (i := 13) (lv2 := [(0, _), (1, _), (2, _), (3, _), (4, _), (5, _), (6, _), (8, _), (9, _), (10, _), (11, _), (12, _), (13, _)]) dL_law_300 (Nat.le_of_ble_eq_true rfl) rfl ?_
      refine ww_aload_n (i := 1) dL_law_302 rfl rfl ?_
      refine ww_bipush (v := 20) dL_law_303 (by decide) ?_
      refine ww_callV (κ := 7) (r := (RX6, TX6, 4)) wk_L_46 dL_law_305 (hh20) rfl rfl (show ww_is _ _ 7 from hx1).1 (show ww_is _ _ 7 from hx1).2 rfl rfl (by omega) (by omega) (by omega) (by first | exact Nat.le_of_ble_eq_true rfl | (simp [ww_rf_cat, Value.category])) rfl (fun E M9 h9 => h9.elim) (fun v9 M9 h9 => ?_)
      obtain ⟨rfl, rfl⟩ := h9
      refine ww_if_ne_t (tgt := 315) dL_law_308 (by decide) n20 ?_
      refine ww_iconst (v := 0) dL_law_315 (by decide) ?_
      refine ww_istore (i := 14) (lv2 := [(0, _), (1, _), (2, _), (3, _), (4, _), (5, _), (6, _), (8, _), (9, _), (10, _), (11, _), (12, _), (13, _), (14, _)]) dL_law_316 (Nat.le_of_ble_eq_true rfl) rfl ?_
      refine ww_aload_n (i := 1) dL_law_318 rfl rfl ?_
      refine ww_bipush (v := 7) dL_law_319 (by decide) ?_
      refine ww_callV (κ := 7) (r := (RX6, TX6, 4)) wk_L_46 dL_law_321 (hh7) rfl rfl (show ww_is _ _ 7 from hx1).1 (show ww_is _ _ 7 from hx1).2 rfl rfl (by omega) (by omega) (by omega) (by first | exact Nat.le_of_ble_eq_true rfl | (simp [ww_rf_cat, Value.category])) rfl (fun E M9 h9 => h9.elim) (fun v9 M9 h9 => ?_)
      obtain ⟨rfl, rfl⟩ := h9
      refine ww_if_ne_f (tgt := 331) dL_law_324 (by decide) (by decide) ?_
      refine ww_iconst (v := 1) dL_law_327 (by decide) ?_
      refine ww_goto (tgt := 332) dL_law_328 (by decide) ?_
      refine ww_istore (i := 15) (lv2 := [(0, _), (1, _), (2, _), (3, _), (4, _), (5, _), (6, _), (8, _), (9, _), (10, _), (11, _), (12, _), (13, _), (14, _), (15, _)]) dL_law_332 (Nat.le_of_ble_eq_true rfl) rfl ?_
      refine ww_aload_n (i := 1) dL_law_334 rfl rfl ?_
      refine ww_iconst (v := 0) dL_law_335 (by decide) ?_
      refine ww_iload (i := 11) dL_law_336 rfl ?_
      refine ww_iload (i := 6) dL_law_338 rfl ?_
      refine ww_bipush (v := 6) dL_law_340 (by decide) ?_
      refine ww_ishr dL_law_342 ?_
      refine ww_iconst (v := 4) dL_law_343 (by decide) ?_
      refine ww_callS wk_L_43 rfl dL_law_344 (hlo2) rfl rfl (by omega) (by omega) (by omega) (by first | exact Nat.le_of_ble_eq_true rfl | (simp [ww_rf_cat, Value.category])) rfl (fun E M9 h9 => h9.elim) (fun v9 M9 h9 => ?_)
      obtain ⟨rfl, rfl⟩ := h9
      refine ww_callV (κ := 7) (r := (RX6, TX6, 4)) wk_L_66 dL_law_347 (hru) rfl rfl (show ww_is _ _ 7 from hx1).1 (show ww_is _ _ 7 from hx1).2 rfl rfl (by omega) (by omega) (by omega) (by first | exact Nat.le_of_ble_eq_true rfl | (simp [ww_rf_cat, Value.category])) rfl (fun E M9 h9 => h9.elim) (fun v9 M9 h9 => ?_)
      obtain ⟨rfl, h2⟩ := h9
      -- at 350, locals [0, 1, 2, 3, 4, 5, 6, 8, 9, 10, 11, 12, 13, 14, 15]
      have hx2 := x_is h2
      have g7 := x_of3 h2 (p := 7) (by decide)
      have g20 := x_of3 h2 (p := 20) (by decide)
      have hre2 := x_isReleased h2 (p := 0) (by decide) f2
      rw [e7] at g7
      rw [e20] at g20
      rw [f11] at hre2
      refine ww_pop dL_law_350 (by first | rfl | exact ww_rf_cat _) ?_
      refine ww_aload_n (i := 1) dL_law_351 rfl rfl ?_
      refine ww_bipush (v := 7) dL_law_352 (by decide) ?_
      refine ww_iconst (v := 3) dL_law_354 (by decide) ?_
      refine ww_callV (κ := 7) (r := (RX6, TX6, 4)) wk_L_22 dL_law_355 (g7) rfl rfl (show ww_is _ _ 7 from hx2).1 (show ww_is _ _ 7 from hx2).2 rfl rfl (by omega) (by omega) (by omega) (by first | exact Nat.le_of_ble_eq_true rfl | (simp [ww_rf_cat, Value.category])) rfl (fun E M9 h9 => h9.elim) (fun v9 M9 h9 => ?_)
      obtain ⟨rfl, rfl⟩ := h9
      refine ww_iload (i := 12) dL_law_358 rfl ?_
      refine ww_iload (i := 15) dL_law_360 rfl ?_
      refine ww_if_eq_f (tgt := 370) dL_law_362 (by decide) (by decide) ?_
      refine ww_iload (i := 11) dL_law_365 rfl ?_
      refine ww_goto (tgt := 371) dL_law_367 (by decide) ?_
      refine ww_iadd dL_law_371 ?_
      refine ww_icmp_ne_f (tgt := 411) dL_law_372 (by decide) rfl ?_
      refine ww_aload_n (i := 1) dL_law_375 rfl rfl ?_
      refine ww_bipush (v := 20) dL_law_376 (by decide) ?_
      refine ww_iconst (v := 3) dL_law_378 (by decide) ?_
      refine ww_callV (κ := 7) (r := (RX6, TX6, 4)) wk_L_22 dL_law_379 (g20) rfl rfl (show ww_is _ _ 7 from hx2).1 (show ww_is _ _ 7 from hx2).2 rfl rfl (by omega) (by omega) (by omega) (by first | exact Nat.le_of_ble_eq_true rfl | (simp [ww_rf_cat, Value.category])) rfl (fun E M9 h9 => h9.elim) (fun v9 M9 h9 => ?_)
      obtain ⟨rfl, rfl⟩ := h9
      refine ww_iload (i := 13) dL_law_382 rfl ?_
      refine ww_iload (i := 14) dL_law_384 rfl ?_
      refine ww_if_eq_t (tgt := 394) dL_law_386 (by decide) rfl ?_
      refine ww_iconst (v := 0) dL_law_394 (by decide) ?_
      refine ww_iadd dL_law_395 ?_
      refine ww_icmp_ne_f (tgt := 411) dL_law_396 (by decide) (Int32.add_zero _).symm ?_
      refine ww_aload_n (i := 1) dL_law_399 rfl rfl ?_
      refine ww_iconst (v := 0) dL_law_400 (by decide) ?_
      refine ww_callV (κ := 7) (r := (RX6, TX6, 4)) wk_L_59 dL_law_401 (hre2) rfl rfl (show ww_is _ _ 7 from hx2).1 (show ww_is _ _ 7 from hx2).2 rfl rfl (by omega) (by omega) (by omega) (by first | exact Nat.le_of_ble_eq_true rfl | (simp [ww_rf_cat, Value.category])) rfl (fun E M9 h9 => h9.elim) (fun v9 M9 h9 => ?_)
      obtain ⟨rfl, rfl⟩ := h9
      refine ww_if_ne_f (tgt := 411) dL_law_404 (by decide) rfl ?_
      refine ww_iconst (v := 1) dL_law_407 (by decide) ?_
      refine ww_goto (tgt := 412) dL_law_408 (by decide) ?_
      refine ww_istore_n (i := 2) (lv2 := [(0, _), (1, _), (2, _), (3, _), (4, _), (5, _), (6, _), (8, _), (9, _), (10, _), (11, _), (12, _), (13, _), (14, _), (15, _)]) dL_law_412 rfl (Nat.le_of_ble_eq_true rfl) rfl ?_
      refine ww_goto (tgt := 1575) dL_law_413 (by decide) ?_
      -- at 1575, locals [0, 1, 2, 3, 4, 5, 6, 8, 9, 10, 11, 12, 13, 14, 15]
      exact ww_subk (ww_less (by omega) (by omega) (kk _ _ _ _ _ _ (by omega) h2 hL2)) ⟨rfl, rfl, rfl, rfl, rfl, rfl, rfl, rfl, trivial⟩
    · rw [if_neg c7] at e7
      have n7 : ¬ nI (q_hd (S1 5) 5 7) = 0 := q_ne (k := 0) (by omega) (by decide) c7
      refine ww_istore (i := 11) (lv2 := [(0, _), (1, _), (2, _), (3, _), (4, _), (5, _), (6, _), (8, _), (9, _), (10, _), (11, _)]) dL_law_282 (Nat.le_of_ble_eq_true rfl) rfl ?_
      refine ww_aload_n (i := 1) dL_law_284 rfl rfl ?_
      refine ww_bipush (v := 7) dL_law_285 (by decide) ?_
      refine ww_iconst (v := 3) dL_law_287 (by decide) ?_
      refine ww_callV (κ := 7) (r := (RX6, TX6, 4)) wk_L_22 dL_law_288 (hof7) rfl rfl (show ww_is _ _ 7 from hx1).1 (show ww_is _ _ 7 from hx1).2 rfl rfl (by omega) (by omega) (by omega) (by first | exact Nat.le_of_ble_eq_true rfl | (simp [ww_rf_cat, Value.category])) rfl (fun E M9 h9 => h9.elim) (fun v9 M9 h9 => ?_)
      obtain ⟨rfl, rfl⟩ := h9
      refine ww_istore (i := 12) (lv2 := [(0, _), (1, _), (2, _), (3, _), (4, _), (5, _), (6, _), (8, _), (9, _), (10, _), (11, _), (12, _)]) dL_law_291 (Nat.le_of_ble_eq_true rfl) rfl ?_
      refine ww_aload_n (i := 1) dL_law_293 rfl rfl ?_
      refine ww_bipush (v := 20) dL_law_294 (by decide) ?_
      refine ww_iconst (v := 3) dL_law_296 (by decide) ?_
      refine ww_callV (κ := 7) (r := (RX6, TX6, 4)) wk_L_22 dL_law_297 (hof20) rfl rfl (show ww_is _ _ 7 from hx1).1 (show ww_is _ _ 7 from hx1).2 rfl rfl (by omega) (by omega) (by omega) (by first | exact Nat.le_of_ble_eq_true rfl | (simp [ww_rf_cat, Value.category])) rfl (fun E M9 h9 => h9.elim) (fun v9 M9 h9 => ?_)
      obtain ⟨rfl, rfl⟩ := h9
      refine ww_istore (i := 13) (lv2 := [(0, _), (1, _), (2, _), (3, _), (4, _), (5, _), (6, _), (8, _), (9, _), (10, _), (11, _), (12, _), (13, _)]) dL_law_300 (Nat.le_of_ble_eq_true rfl) rfl ?_
      refine ww_aload_n (i := 1) dL_law_302 rfl rfl ?_
      refine ww_bipush (v := 20) dL_law_303 (by decide) ?_
      refine ww_callV (κ := 7) (r := (RX6, TX6, 4)) wk_L_46 dL_law_305 (hh20) rfl rfl (show ww_is _ _ 7 from hx1).1 (show ww_is _ _ 7 from hx1).2 rfl rfl (by omega) (by omega) (by omega) (by first | exact Nat.le_of_ble_eq_true rfl | (simp [ww_rf_cat, Value.category])) rfl (fun E M9 h9 => h9.elim) (fun v9 M9 h9 => ?_)
      obtain ⟨rfl, rfl⟩ := h9
      refine ww_if_ne_t (tgt := 315) dL_law_308 (by decide) n20 ?_
      refine ww_iconst (v := 0) dL_law_315 (by decide) ?_
      refine ww_istore (i := 14) (lv2 := [(0, _), (1, _), (2, _), (3, _), (4, _), (5, _), (6, _), (8, _), (9, _), (10, _), (11, _), (12, _), (13, _), (14, _)]) dL_law_316 (Nat.le_of_ble_eq_true rfl) rfl ?_
      refine ww_aload_n (i := 1) dL_law_318 rfl rfl ?_
      refine ww_bipush (v := 7) dL_law_319 (by decide) ?_
      refine ww_callV (κ := 7) (r := (RX6, TX6, 4)) wk_L_46 dL_law_321 (hh7) rfl rfl (show ww_is _ _ 7 from hx1).1 (show ww_is _ _ 7 from hx1).2 rfl rfl (by omega) (by omega) (by omega) (by first | exact Nat.le_of_ble_eq_true rfl | (simp [ww_rf_cat, Value.category])) rfl (fun E M9 h9 => h9.elim) (fun v9 M9 h9 => ?_)
      obtain ⟨rfl, rfl⟩ := h9
      refine ww_if_ne_t (tgt := 331) dL_law_324 (by decide) n7 ?_
      refine ww_iconst (v := 0) dL_law_331 (by decide) ?_
      refine ww_istore (i := 15) (lv2 := [(0, _), (1, _), (2, _), (3, _), (4, _), (5, _), (6, _), (8, _), (9, _), (10, _), (11, _), (12, _), (13, _), (14, _), (15, _)]) dL_law_332 (Nat.le_of_ble_eq_true rfl) rfl ?_
      refine ww_aload_n (i := 1) dL_law_334 rfl rfl ?_
      refine ww_iconst (v := 0) dL_law_335 (by decide) ?_
      refine ww_iload (i := 11) dL_law_336 rfl ?_
      refine ww_iload (i := 6) dL_law_338 rfl ?_
      refine ww_bipush (v := 6) dL_law_340 (by decide) ?_
      refine ww_ishr dL_law_342 ?_
      refine ww_iconst (v := 4) dL_law_343 (by decide) ?_
      refine ww_callS wk_L_43 rfl dL_law_344 (hlo2) rfl rfl (by omega) (by omega) (by omega) (by first | exact Nat.le_of_ble_eq_true rfl | (simp [ww_rf_cat, Value.category])) rfl (fun E M9 h9 => h9.elim) (fun v9 M9 h9 => ?_)
      obtain ⟨rfl, rfl⟩ := h9
      refine ww_callV (κ := 7) (r := (RX6, TX6, 4)) wk_L_66 dL_law_347 (hru) rfl rfl (show ww_is _ _ 7 from hx1).1 (show ww_is _ _ 7 from hx1).2 rfl rfl (by omega) (by omega) (by omega) (by first | exact Nat.le_of_ble_eq_true rfl | (simp [ww_rf_cat, Value.category])) rfl (fun E M9 h9 => h9.elim) (fun v9 M9 h9 => ?_)
      obtain ⟨rfl, h2⟩ := h9
      -- at 350, locals [0, 1, 2, 3, 4, 5, 6, 8, 9, 10, 11, 12, 13, 14, 15]
      have hx2 := x_is h2
      have g7 := x_of3 h2 (p := 7) (by decide)
      have g20 := x_of3 h2 (p := 20) (by decide)
      have hre2 := x_isReleased h2 (p := 0) (by decide) f2
      rw [e7] at g7
      rw [e20] at g20
      rw [f11] at hre2
      refine ww_pop dL_law_350 (by first | rfl | exact ww_rf_cat _) ?_
      refine ww_aload_n (i := 1) dL_law_351 rfl rfl ?_
      refine ww_bipush (v := 7) dL_law_352 (by decide) ?_
      refine ww_iconst (v := 3) dL_law_354 (by decide) ?_
      refine ww_callV (κ := 7) (r := (RX6, TX6, 4)) wk_L_22 dL_law_355 (g7) rfl rfl (show ww_is _ _ 7 from hx2).1 (show ww_is _ _ 7 from hx2).2 rfl rfl (by omega) (by omega) (by omega) (by first | exact Nat.le_of_ble_eq_true rfl | (simp [ww_rf_cat, Value.category])) rfl (fun E M9 h9 => h9.elim) (fun v9 M9 h9 => ?_)
      obtain ⟨rfl, rfl⟩ := h9
      refine ww_iload (i := 12) dL_law_358 rfl ?_
      refine ww_iload (i := 15) dL_law_360 rfl ?_
      refine ww_if_eq_t (tgt := 370) dL_law_362 (by decide) rfl ?_
      refine ww_iconst (v := 0) dL_law_370 (by decide) ?_
      refine ww_iadd dL_law_371 ?_
      refine ww_icmp_ne_f (tgt := 411) dL_law_372 (by decide) (Int32.add_zero _).symm ?_
      refine ww_aload_n (i := 1) dL_law_375 rfl rfl ?_
      refine ww_bipush (v := 20) dL_law_376 (by decide) ?_
      refine ww_iconst (v := 3) dL_law_378 (by decide) ?_
      refine ww_callV (κ := 7) (r := (RX6, TX6, 4)) wk_L_22 dL_law_379 (g20) rfl rfl (show ww_is _ _ 7 from hx2).1 (show ww_is _ _ 7 from hx2).2 rfl rfl (by omega) (by omega) (by omega) (by first | exact Nat.le_of_ble_eq_true rfl | (simp [ww_rf_cat, Value.category])) rfl (fun E M9 h9 => h9.elim) (fun v9 M9 h9 => ?_)
      obtain ⟨rfl, rfl⟩ := h9
      refine ww_iload (i := 13) dL_law_382 rfl ?_
      refine ww_iload (i := 14) dL_law_384 rfl ?_
      refine ww_if_eq_t (tgt := 394) dL_law_386 (by decide) rfl ?_
      refine ww_iconst (v := 0) dL_law_394 (by decide) ?_
      refine ww_iadd dL_law_395 ?_
      refine ww_icmp_ne_f (tgt := 411) dL_law_396 (by decide) (Int32.add_zero _).symm ?_
      refine ww_aload_n (i := 1) dL_law_399 rfl rfl ?_
      refine ww_iconst (v := 0) dL_law_400 (by decide) ?_
      refine ww_callV (κ := 7) (r := (RX6, TX6, 4)) wk_L_59 dL_law_401 (hre2) rfl rfl (show ww_is _ _ 7 from hx2).1 (show ww_is _ _ 7 from hx2).2 rfl rfl (by omega) (by omega) (by omega) (by first | exact Nat.le_of_ble_eq_true rfl | (simp [ww_rf_cat, Value.category])) rfl (fun E M9 h9 => h9.elim) (fun v9 M9 h9 => ?_)
      obtain ⟨rfl, rfl⟩ := h9
      refine ww_if_ne_f (tgt := 411) dL_law_404 (by decide) rfl ?_
      refine ww_iconst (v := 1) dL_law_407 (by decide) ?_
      refine ww_goto (tgt := 412) dL_law_408 (by decide) ?_
      refine ww_istore_n (i := 2) (lv2 := [(0, _), (1, _), (2, _), (3, _), (4, _), (5, _), (6, _), (8, _), (9, _), (10, _), (11, _), (12, _), (13, _), (14, _), (15, _)]) dL_law_412 rfl (Nat.le_of_ble_eq_true rfl) rfl ?_
      refine ww_goto (tgt := 1575) dL_law_413 (by decide) ?_
      -- at 1575, locals [0, 1, 2, 3, 4, 5, 6, 8, 9, 10, 11, 12, 13, 14, 15]
      exact ww_subk (ww_less (by omega) (by omega) (kk _ _ _ _ _ _ (by omega) h2 hL2)) ⟨rfl, rfl, rfl, rfl, rfl, rfl, rfl, rfl, trivial⟩
end WWN1
