/-! ===== the law's blocks: scrap, take, fit ===== -/
section WWN2
variable {g : ww_G} {M : ww_M} {c : Nat → Nat} {b w m p d kc ks : Nat} {S : Nat → Nat → Int32} {mo wa ti v : Int32} {Q : Option Value → ww_M → Prop} {X : String → ww_M → Prop} {t : Nat}
theorem q_cnt_no {P : Nat → Prop} : ∀ n, (∀ j, j < n → ¬ P j) → q_cnt P n = 0
  | 0, _ => rfl
  | n + 1, h => by rw [q_cnt_n (h n (by omega))]; exact q_cnt_no n (fun j hj => h j (by omega))
theorem q_b0 (h : S 12 (q_hd (S 5) 5 p) = 0) : ¬ q_bound S p := fun y => by
  unfold q_bound at y
  rw [h] at y
  exact absurd y (by decide)
theorem q_motor (h : ww_mx g c b 23 w m S M) (hL : q_LI S w m wa) : q_in S 23 (nI 21) = 0 := q_cnt_no 23 (fun j hj y => by
  have h21 := hL.1 21 (by decide)
  obtain ⟨-, h1 | h1 | ⟨q, hq, e, hlt⟩⟩ := (x_G h).2.2.1 j hj
  · rw [h1] at y; exact absurd y (by decide)
  · rw [h1] at y; exact absurd y (by decide)
  · have e2 : q = 21 := (nI_eq (by omega) (by decide)).mp (e.symm.trans y)
    have hk := (q_gh_kd (x_G h).2.2.1 hj).2
    rw [e2, h21, show (nI (q_KD 21)).toInt = 4 by decide] at hlt
    omega)
theorem q_nowait (h : ww_mx g c b 23 w m S M) (hL : q_LI S w m wa) : ¬ q_wait S w (nI 21) := fun ⟨k, hk, e⟩ => by
  rcases hL.2.2.2.2 with ⟨-, h0⟩ | ⟨-, h0, -, h1⟩
  · omega
  · have hk0 : k = 0 := by omega
    subst hk0
    have e2 := ((x_W h).2.2 0 hk).2
    rw [e2] at e
    have e3 := (nI_eq (by have := ((x_W h).2.2 0 hk).1; omega) (by decide)).mp e
    omega
set_option maxRecDepth 20000 in
set_option maxHeartbeats 4000000 in
theorem law_b4t (h : ww_mx g c b 23 w m S M) (hL : q_LI S w m wa) (hb : b ≤ 500) (hp : p < 23) (hd : 24 ≤ d) (hkc : 20 ≤ kc) (hks : 8000 ≤ ks) (kk : ∀ (M' : ww_M) (S' : Nat → Nat → Int32) (b' w' m' : Nat) (wa' : Int32), b' ≤ b + 4 → ww_mx g c b' 23 w' m' S' M' → q_LI S' w' m' wa' → ww_A g wy_L_law d (kc - 20) (ks - 8000) M' 1575 [(0, .ref (ww_gb g)), (1, .ref (c 0)), (2, .int 1), (3, .int mo), (4, .int wa'), (5, .int ti), (6, .int v), (8, .int (nI p))] [] Q X) : ww_A g wy_L_law d kc ks M 484 [(0, .ref (ww_gb g)), (1, .ref (c 0)), (2, .int 1), (3, .int mo), (4, .int wa), (5, .int ti), (6, .int v), (8, .int (nI p)), (9, .int (S 5 p)), (10, .int (S 12 (q_hd (S 5) 5 p)))] [] Q X := by
  have hx := x_is h
  have hlt := q_hd_lt (x_G h).2.2.1 (by decide) 5 p hp
  by_cases c1 : S 5 p < 0
  · refine ww_iload (i := 9) dL_law_484 rfl ?_
    refine ww_if_lt_t (tgt := 1575) dL_law_486 (by decide) c1 ?_
    -- at 1575, locals [0, 1, 2, 3, 4, 5, 6, 8, 9, 10]
    exact ww_subk (ww_less (by omega) (by omega) (kk _ _ _ _ _ _ (by omega) h hL)) ⟨rfl, rfl, rfl, rfl, rfl, rfl, rfl, rfl, trivial⟩
  by_cases c2 : ¬ S 12 (q_hd (S 5) 5 p) = 0
  · refine ww_iload (i := 9) dL_law_484 rfl ?_
    refine ww_if_lt_f (tgt := 1575) dL_law_486 (by decide) c1 ?_
    refine ww_iload (i := 10) dL_law_489 rfl ?_
    refine ww_if_ne_t (tgt := 1575) dL_law_491 (by decide) c2 ?_
    -- at 1575, locals [0, 1, 2, 3, 4, 5, 6, 8, 9, 10]
    exact ww_subk (ww_less (by omega) (by omega) (kk _ _ _ _ _ _ (by omega) h hL)) ⟨rfl, rfl, rfl, rfl, rfl, rfl, rfl, rfl, trivial⟩
  have c2 : S 12 (q_hd (S 5) 5 p) = 0 := Classical.not_not.mp c2
  have htk := x_take h (by omega) hp ⟨c1, q_b0 c2⟩
  have hhd := x_head h hp
  have hL1 := q_LI_take (k := q_k S) (p := p) hL
  have e5 : q_take S (q_k S) p 5 p = -1 := ww_u2s (f := S) (k := 5)
  have e2 : q_take S (q_k S) p 2 = S 2 := rfl
  have e11 : q_take S (q_k S) p 11 (q_hd (S 5) 5 p) = 0 := ww_u2s (f := S) (k := 11)
  generalize q_take S (q_k S) p = S1 at htk hL1 e5 e2 e11
  refine ww_iload (i := 9) dL_law_484 rfl ?_
  refine ww_if_lt_f (tgt := 1575) dL_law_486 (by decide) c1 ?_
  refine ww_iload (i := 10) dL_law_489 rfl ?_
  refine ww_if_ne_f (tgt := 1575) dL_law_491 (by decide) c2 ?_
  refine ww_aload_n (i := 1) dL_law_494 rfl rfl ?_
  refine ww_iload (i := 8) dL_law_495 rfl ?_
  refine ww_callV (κ := 7) (r := (RX6, TX6, 4)) wk_L_46 dL_law_497 (hhd) rfl rfl (show ww_is _ _ 7 from hx).1 (show ww_is _ _ 7 from hx).2 rfl rfl (by omega) (by omega) (by omega) (by first | exact Nat.le_of_ble_eq_true rfl | (simp [ww_rf_cat, Value.category])) rfl (fun E M9 h9 => h9.elim) (fun v9 M9 h9 => ?_)
  obtain ⟨rfl, rfl⟩ := h9
  refine ww_istore (i := 11) (lv2 := [(0, _), (1, _), (2, _), (3, _), (4, _), (5, _), (6, _), (8, _), (9, _), (10, _), (11, _)]) dL_law_500 (Nat.le_of_ble_eq_true rfl) rfl ?_
  refine ww_aload_n (i := 1) dL_law_502 rfl rfl ?_
  refine ww_iload (i := 8) dL_law_503 rfl ?_
  refine ww_callV (κ := 7) (r := (RX6, TX6, 4)) wk_L_73 dL_law_505 (htk) rfl rfl (show ww_is _ _ 7 from hx).1 (show ww_is _ _ 7 from hx).2 rfl rfl (by omega) (by omega) (by omega) (by first | exact Nat.le_of_ble_eq_true rfl | (simp [ww_rf_cat, Value.category])) rfl (fun E M9 h9 => h9.elim) (fun v9 M9 h9 => ?_)
  obtain ⟨rfl, h1⟩ := h9
  -- at 508, locals [0, 1, 2, 3, 4, 5, 6, 8, 9, 10, 11]
  have hx1 := x_is h1
  have hho := x_host h1 hp
  have hhe := x_head h1 hp
  rw [e5] at hho
  rw [q_hd_neg (by rw [e5]; decide)] at hhe
  by_cases c3 : q_hd (S 5) 5 p = 0
  · have hre := x_isReleased h1 (p := 0) (by decide) (by rw [e2]; exact q_k0 hL)
    rw [c3] at e11
    rw [e11] at hre
    refine ww_iload (i := 9) dL_law_508 rfl ?_
    refine ww_icmp_ne_f (tgt := 551) dL_law_510 (by decide) rfl ?_
    refine ww_aload_n (i := 1) dL_law_513 rfl rfl ?_
    refine ww_iload (i := 8) dL_law_514 rfl ?_
    refine ww_callV (κ := 7) (r := (RX6, TX6, 4)) wk_L_18 dL_law_516 (hho) rfl rfl (show ww_is _ _ 7 from hx1).1 (show ww_is _ _ 7 from hx1).2 rfl rfl (by omega) (by omega) (by omega) (by first | exact Nat.le_of_ble_eq_true rfl | (simp [ww_rf_cat, Value.category])) rfl (fun E M9 h9 => h9.elim) (fun v9 M9 h9 => ?_)
    obtain ⟨rfl, rfl⟩ := h9
    refine ww_iconst (v := (-1)) dL_law_519 (by decide) ?_
    refine ww_icmp_ne_f (tgt := 551) dL_law_520 (by decide) rfl ?_
    refine ww_aload_n (i := 1) dL_law_523 rfl rfl ?_
    refine ww_iload (i := 8) dL_law_524 rfl ?_
    refine ww_callV (κ := 7) (r := (RX6, TX6, 4)) wk_L_46 dL_law_526 (hhe) rfl rfl (show ww_is _ _ 7 from hx1).1 (show ww_is _ _ 7 from hx1).2 rfl rfl (by omega) (by omega) (by omega) (by first | exact Nat.le_of_ble_eq_true rfl | (simp [ww_rf_cat, Value.category])) rfl (fun E M9 h9 => h9.elim) (fun v9 M9 h9 => ?_)
    obtain ⟨rfl, rfl⟩ := h9
    refine ww_iload (i := 8) dL_law_529 rfl ?_
    refine ww_icmp_ne_f (tgt := 551) dL_law_531 (by decide) rfl ?_
    refine ww_iload (i := 11) dL_law_534 rfl ?_
    refine ww_if_ne_f (tgt := 547) dL_law_536 (by decide) (congrArg nI c3) ?_
    refine ww_aload_n (i := 1) dL_law_539 rfl rfl ?_
    refine ww_iconst (v := 0) dL_law_540 (by decide) ?_
    refine ww_callV (κ := 7) (r := (RX6, TX6, 4)) wk_L_59 dL_law_541 (hre) rfl rfl (show ww_is _ _ 7 from hx1).1 (show ww_is _ _ 7 from hx1).2 rfl rfl (by omega) (by omega) (by omega) (by first | exact Nat.le_of_ble_eq_true rfl | (simp [ww_rf_cat, Value.category])) rfl (fun E M9 h9 => h9.elim) (fun v9 M9 h9 => ?_)
    obtain ⟨rfl, rfl⟩ := h9
    refine ww_if_ne_f (tgt := 551) dL_law_544 (by decide) rfl ?_
    refine ww_iconst (v := 1) dL_law_547 (by decide) ?_
    refine ww_goto (tgt := 552) dL_law_548 (by decide) ?_
    refine ww_istore_n (i := 2) (lv2 := [(0, _), (1, _), (2, _), (3, _), (4, _), (5, _), (6, _), (8, _), (9, _), (10, _), (11, _)]) dL_law_552 rfl (Nat.le_of_ble_eq_true rfl) rfl ?_
    refine ww_goto (tgt := 1575) dL_law_553 (by decide) ?_
    -- at 1575, locals [0, 1, 2, 3, 4, 5, 6, 8, 9, 10, 11]
    exact ww_subk (ww_less (by omega) (by omega) (kk _ _ _ _ _ _ (by omega) h1 hL1)) ⟨rfl, rfl, rfl, rfl, rfl, rfl, rfl, rfl, trivial⟩
  · refine ww_iload (i := 9) dL_law_508 rfl ?_
    refine ww_icmp_ne_f (tgt := 551) dL_law_510 (by decide) rfl ?_
    refine ww_aload_n (i := 1) dL_law_513 rfl rfl ?_
    refine ww_iload (i := 8) dL_law_514 rfl ?_
    refine ww_callV (κ := 7) (r := (RX6, TX6, 4)) wk_L_18 dL_law_516 (hho) rfl rfl (show ww_is _ _ 7 from hx1).1 (show ww_is _ _ 7 from hx1).2 rfl rfl (by omega) (by omega) (by omega) (by first | exact Nat.le_of_ble_eq_true rfl | (simp [ww_rf_cat, Value.category])) rfl (fun E M9 h9 => h9.elim) (fun v9 M9 h9 => ?_)
    obtain ⟨rfl, rfl⟩ := h9
    refine ww_iconst (v := (-1)) dL_law_519 (by decide) ?_
    refine ww_icmp_ne_f (tgt := 551) dL_law_520 (by decide) rfl ?_
    refine ww_aload_n (i := 1) dL_law_523 rfl rfl ?_
    refine ww_iload (i := 8) dL_law_524 rfl ?_
    refine ww_callV (κ := 7) (r := (RX6, TX6, 4)) wk_L_46 dL_law_526 (hhe) rfl rfl (show ww_is _ _ 7 from hx1).1 (show ww_is _ _ 7 from hx1).2 rfl rfl (by omega) (by omega) (by omega) (by first | exact Nat.le_of_ble_eq_true rfl | (simp [ww_rf_cat, Value.category])) rfl (fun E M9 h9 => h9.elim) (fun v9 M9 h9 => ?_)
    obtain ⟨rfl, rfl⟩ := h9
    refine ww_iload (i := 8) dL_law_529 rfl ?_
    refine ww_icmp_ne_f (tgt := 551) dL_law_531 (by decide) rfl ?_
    refine ww_iload (i := 11) dL_law_534 rfl ?_
    refine ww_if_ne_t (tgt := 547) dL_law_536 (by decide) (q_ne (k := 0) (by omega) (by decide) c3) ?_
    refine ww_iconst (v := 1) dL_law_547 (by decide) ?_
    refine ww_goto (tgt := 552) dL_law_548 (by decide) ?_
    refine ww_istore_n (i := 2) (lv2 := [(0, _), (1, _), (2, _), (3, _), (4, _), (5, _), (6, _), (8, _), (9, _), (10, _), (11, _)]) dL_law_552 rfl (Nat.le_of_ble_eq_true rfl) rfl ?_
    refine ww_goto (tgt := 1575) dL_law_553 (by decide) ?_
    -- at 1575, locals [0, 1, 2, 3, 4, 5, 6, 8, 9, 10, 11]
    exact ww_subk (ww_less (by omega) (by omega) (kk _ _ _ _ _ _ (by omega) h1 hL1)) ⟨rfl, rfl, rfl, rfl, rfl, rfl, rfl, rfl, trivial⟩
set_option maxRecDepth 20000 in
set_option maxHeartbeats 4000000 in
theorem law_b4 (h : ww_mx g c b 23 w m S M) (hL : q_LI S w m wa) (hb : b ≤ 500) (hp : p < 23) (hd : 24 ≤ d) (hkc : 20 ≤ kc) (hks : 8000 ≤ ks) (kk : ∀ (M' : ww_M) (S' : Nat → Nat → Int32) (b' w' m' : Nat) (wa' : Int32), b' ≤ b + 4 → ww_mx g c b' 23 w' m' S' M' → q_LI S' w' m' wa' → ww_A g wy_L_law d (kc - 20) (ks - 8000) M' 1575 [(0, .ref (ww_gb g)), (1, .ref (c 0)), (2, .int 1), (3, .int mo), (4, .int wa'), (5, .int ti), (6, .int v), (8, .int (nI p))] [] Q X) : ww_A g wy_L_law d kc ks M 422 [(0, .ref (ww_gb g)), (1, .ref (c 0)), (2, .int 1), (3, .int mo), (4, .int wa), (5, .int ti), (6, .int v), (8, .int (nI p)), (9, .int (S 5 p)), (10, .int (S 12 (q_hd (S 5) 5 p)))] [] Q X := by
  have hx := x_is h
  by_cases c1 : ¬ p = 21
  · refine ww_iload (i := 8) dL_law_422 rfl ?_
    refine ww_bipush (v := 21) dL_law_424 (by decide) ?_
    refine ww_icmp_ne_t (tgt := 484) dL_law_426 (by decide) (q_ne (k := 21) (by omega) (by decide) c1) ?_
    -- at 484, locals [0, 1, 2, 3, 4, 5, 6, 8, 9, 10]
    exact law_b4t h hL hb hp hd hkc hks kk
  have c1 : p = 21 := Classical.not_not.mp c1
  subst c1
  by_cases c2 : ¬ S 5 21 = -1
  · refine ww_iload (i := 8) dL_law_422 rfl ?_
    refine ww_bipush (v := 21) dL_law_424 (by decide) ?_
    refine ww_icmp_ne_f (tgt := 484) dL_law_426 (by decide) rfl ?_
    refine ww_iload (i := 9) dL_law_429 rfl ?_
    refine ww_iconst (v := (-1)) dL_law_431 (by decide) ?_
    refine ww_icmp_ne_t (tgt := 484) dL_law_432 (by decide) c2 ?_
    -- at 484, locals [0, 1, 2, 3, 4, 5, 6, 8, 9, 10]
    exact law_b4t h hL hb hp hd hkc hks kk
  have c2 : S 5 21 = -1 := Classical.not_not.mp c2
  have hlo := l_low (g := g) (M := M) (v := v >>> (9 &&& 31)) (k := 3) (by decide) (by decide)
  have j1 := q_lw_lt (v := v >>> (9 &&& 31)) (k := 3) (by decide)
  generalize q_lw (v >>> (9 &&& 31)) 3 = j at hlo j1
  by_cases c3 : ¬ j = 0
  · refine ww_iload (i := 8) dL_law_422 rfl ?_
    refine ww_bipush (v := 21) dL_law_424 (by decide) ?_
    refine ww_icmp_ne_f (tgt := 484) dL_law_426 (by decide) rfl ?_
    refine ww_iload (i := 9) dL_law_429 rfl ?_
    refine ww_iconst (v := (-1)) dL_law_431 (by decide) ?_
    refine ww_icmp_ne_f (tgt := 484) dL_law_432 (by decide) c2 ?_
    refine ww_iload (i := 6) dL_law_435 rfl ?_
    refine ww_bipush (v := 9) dL_law_437 (by decide) ?_
    refine ww_ishr dL_law_439 ?_
    refine ww_iconst (v := 3) dL_law_440 (by decide) ?_
    refine ww_callS wk_L_43 rfl dL_law_441 (hlo) rfl rfl (by omega) (by omega) (by omega) (by first | exact Nat.le_of_ble_eq_true rfl | (simp [ww_rf_cat, Value.category])) rfl (fun E M9 h9 => h9.elim) (fun v9 M9 h9 => ?_)
    obtain ⟨rfl, rfl⟩ := h9
    refine ww_if_ne_t (tgt := 484) dL_law_444 (by decide) (q_ne (k := 0) (by omega) (by decide) c3) ?_
    -- at 484, locals [0, 1, 2, 3, 4, 5, 6, 8, 9, 10]
    exact law_b4t h hL hb hp hd hkc hks kk
  have c3 : j = 0 := Classical.not_not.mp c3
  subst c3
  have hnb : ¬ q_bound S 21 := fun y => by
    unfold q_bound at y
    rw [q_hd_neg (by rw [c2]; decide)] at y
    have := hL.2.2.2.1 21 (by decide) y
    omega
  have hsc := x_scrap h (by omega) (p := 21) (by decide) ⟨c2, q_motor h hL, hnb, q_nowait h hL⟩
  have hL1 := q_LI_scrap (k := q_k S) hL
  have e5 : q_moves (q_us S 0 0) 21 (q_k S) (-2) 5 21 = -2 := ww_u2s (f := q_us S 0 0) (k := 5) (a := 21) (v := -2)
  generalize q_moves (q_us S 0 0) 21 (q_k S) (-2) = S1 at hsc hL1 e5
  refine ww_iload (i := 8) dL_law_422 rfl ?_
  refine ww_bipush (v := 21) dL_law_424 (by decide) ?_
  refine ww_icmp_ne_f (tgt := 484) dL_law_426 (by decide) rfl ?_
  refine ww_iload (i := 9) dL_law_429 rfl ?_
  refine ww_iconst (v := (-1)) dL_law_431 (by decide) ?_
  refine ww_icmp_ne_f (tgt := 484) dL_law_432 (by decide) c2 ?_
  refine ww_iload (i := 6) dL_law_435 rfl ?_
  refine ww_bipush (v := 9) dL_law_437 (by decide) ?_
  refine ww_ishr dL_law_439 ?_
  refine ww_iconst (v := 3) dL_law_440 (by decide) ?_
  refine ww_callS wk_L_43 rfl dL_law_441 (hlo) rfl rfl (by omega) (by omega) (by omega) (by first | exact Nat.le_of_ble_eq_true rfl | (simp [ww_rf_cat, Value.category])) rfl (fun E M9 h9 => h9.elim) (fun v9 M9 h9 => ?_)
  obtain ⟨rfl, rfl⟩ := h9
  refine ww_if_ne_f (tgt := 484) dL_law_444 (by decide) (by decide) ?_
  refine ww_aload_n (i := 1) dL_law_447 rfl rfl ?_
  refine ww_bipush (v := 21) dL_law_448 (by decide) ?_
  refine ww_callV (κ := 7) (r := (RX6, TX6, 4)) wk_L_69 dL_law_450 (hsc) rfl rfl (show ww_is _ _ 7 from hx).1 (show ww_is _ _ 7 from hx).2 rfl rfl (by omega) (by omega) (by omega) (by first | exact Nat.le_of_ble_eq_true rfl | (simp [ww_rf_cat, Value.category])) rfl (fun E M9 h9 => h9.elim) (fun v9 M9 h9 => ?_)
  obtain ⟨rfl, h1⟩ := h9
  -- at 453, locals [0, 1, 2, 3, 4, 5, 6, 8, 9, 10]
  have hx1 := x_is h1
  have hho := x_host h1 (p := 21) (by decide)
  have hhe := x_head h1 (p := 21) (by decide)
  rw [e5] at hho
  rw [q_hd_neg (by rw [e5]; decide)] at hhe
  refine ww_aload_n (i := 1) dL_law_453 rfl rfl ?_
  refine ww_bipush (v := 21) dL_law_454 (by decide) ?_
  refine ww_callV (κ := 7) (r := (RX6, TX6, 4)) wk_L_18 dL_law_456 (hho) rfl rfl (show ww_is _ _ 7 from hx1).1 (show ww_is _ _ 7 from hx1).2 rfl rfl (by omega) (by omega) (by omega) (by first | exact Nat.le_of_ble_eq_true rfl | (simp [ww_rf_cat, Value.category])) rfl (fun E M9 h9 => h9.elim) (fun v9 M9 h9 => ?_)
  obtain ⟨rfl, rfl⟩ := h9
  refine ww_bipush (v := (-2)) dL_law_459 (by decide) ?_
  refine ww_icmp_ne_f (tgt := 479) dL_law_461 (by decide) rfl ?_
  refine ww_aload_n (i := 1) dL_law_464 rfl rfl ?_
  refine ww_bipush (v := 21) dL_law_465 (by decide) ?_
  refine ww_callV (κ := 7) (r := (RX6, TX6, 4)) wk_L_46 dL_law_467 (hhe) rfl rfl (show ww_is _ _ 7 from hx1).1 (show ww_is _ _ 7 from hx1).2 rfl rfl (by omega) (by omega) (by omega) (by first | exact Nat.le_of_ble_eq_true rfl | (simp [ww_rf_cat, Value.category])) rfl (fun E M9 h9 => h9.elim) (fun v9 M9 h9 => ?_)
  obtain ⟨rfl, rfl⟩ := h9
  refine ww_bipush (v := 21) dL_law_470 (by decide) ?_
  refine ww_icmp_ne_f (tgt := 479) dL_law_472 (by decide) rfl ?_
  refine ww_iconst (v := 1) dL_law_475 (by decide) ?_
  refine ww_goto (tgt := 480) dL_law_476 (by decide) ?_
  refine ww_istore_n (i := 2) (lv2 := [(0, _), (1, _), (2, _), (3, _), (4, _), (5, _), (6, _), (8, _), (9, _), (10, _)]) dL_law_480 rfl (Nat.le_of_ble_eq_true rfl) rfl ?_
  refine ww_goto (tgt := 1575) dL_law_481 (by decide) ?_
  -- at 1575, locals [0, 1, 2, 3, 4, 5, 6, 8, 9, 10]
  exact ww_subk (ww_less (by omega) (by omega) (kk _ _ _ _ _ _ (by omega) h1 hL1)) ⟨rfl, rfl, rfl, rfl, rfl, rfl, rfl, rfl, trivial⟩
set_option maxRecDepth 20000 in
set_option maxHeartbeats 4000000 in
theorem law_b5c (h : ww_mx g c b 23 w m S M) (hL : q_LI S w m wa) (hb : b ≤ 500) (hp : p < 23) (hd : 24 ≤ d) (hkc : 20 ≤ kc) (hks : 8000 ≤ ks) (kk : ∀ (M' : ww_M) (S' : Nat → Nat → Int32) (b' w' m' : Nat) (wa' : Int32), b' ≤ b + 4 → ww_mx g c b' 23 w' m' S' M' → q_LI S' w' m' wa' → ww_A g wy_L_law d (kc - 20) (ks - 8000) M' 1575 [(0, .ref (ww_gb g)), (1, .ref (c 0)), (2, .int 1), (3, .int mo), (4, .int wa'), (5, .int ti), (6, .int v), (8, .int (nI p))] [] Q X) (ht : t < 23) : ww_A g wy_L_law d kc ks M 659 [(0, .ref (ww_gb g)), (1, .ref (c 0)), (2, .int 1), (3, .int mo), (4, .int wa), (5, .int ti), (6, .int v), (8, .int (nI p)), (9, .int (S 5 p)), (10, .int (S 12 (q_hd (S 5) 5 p))), (11, .int (nI t)), (12, .int (S 2 p)), (13, .int (S 4 p - S 4 t))] [.int 0] Q X := by
  have hx := x_is h
  have hin := l_inside h (nI t) (S 2 p)
  refine ww_istore (i := 14) (lv2 := [(0, _), (1, _), (2, _), (3, _), (4, _), (5, _), (6, _), (8, _), (9, _), (10, _), (11, _), (12, _), (13, _), (14, _)]) dL_law_659 (Nat.le_of_ble_eq_true rfl) rfl ?_
  refine ww_aload_n (i := 1) dL_law_661 rfl rfl ?_
  refine ww_iload (i := 11) dL_law_662 rfl ?_
  refine ww_iload (i := 12) dL_law_664 rfl ?_
  refine ww_callS wk_L_76 rfl dL_law_666 (hin) rfl rfl (by omega) (by omega) (by omega) (by first | exact Nat.le_of_ble_eq_true rfl | (simp [ww_rf_cat, Value.category])) rfl (fun E M9 h9 => h9.elim) (fun v9 M9 h9 => ?_)
  obtain ⟨rfl, rfl⟩ := h9
  refine ww_istore (i := 15) (lv2 := [(0, _), (1, _), (2, _), (3, _), (4, _), (5, _), (6, _), (8, _), (9, _), (10, _), (11, _), (12, _), (13, _), (14, _), (15, _)]) dL_law_669 (Nat.le_of_ble_eq_true rfl) rfl ?_
  refine ww_iload (i := 14) dL_law_671 rfl ?_
  refine ww_if_eq_t (tgt := 753) dL_law_673 (by decide) (by decide) ?_
  refine ww_goto (tgt := 1575) dL_law_753 (by decide) ?_
  -- at 1575, locals [0, 1, 2, 3, 4, 5, 6, 8, 9, 10, 11, 12, 13, 14, 15]
  exact ww_subk (ww_less (by omega) (by omega) (kk _ _ _ _ _ _ (by omega) h hL)) ⟨rfl, rfl, rfl, rfl, rfl, rfl, rfl, rfl, trivial⟩
theorem q_plc_0 {i j : Nat} (hi : i < 5) (hj : j < 5) (h : ¬ q_places (nI i) (nI j) ≤ 0) : i < j := by
  have key : ∀ i, i < 5 → ∀ j, j < 5 → ¬ q_places (nI i) (nI j) ≤ 0 → i < j := by decide
  exact key i hi j hj h
set_option maxRecDepth 20000 in
set_option maxHeartbeats 4000000 in
theorem law_b5b (h : ww_mx g c b 23 w m S M) (hL : q_LI S w m wa) (hb : b ≤ 500) (hp : p < 23) (hd : 24 ≤ d) (hkc : 20 ≤ kc) (hks : 8000 ≤ ks) (kk : ∀ (M' : ww_M) (S' : Nat → Nat → Int32) (b' w' m' : Nat) (wa' : Int32), b' ≤ b + 4 → ww_mx g c b' 23 w' m' S' M' → q_LI S' w' m' wa' → ww_A g wy_L_law d (kc - 20) (ks - 8000) M' 1575 [(0, .ref (ww_gb g)), (1, .ref (c 0)), (2, .int 1), (3, .int mo), (4, .int wa'), (5, .int ti), (6, .int v), (8, .int (nI p))] [] Q X) (ht : t < 23) (c1 : S 5 p = -1) (c2 : S 9 p = 0) (c3 : ¬ S 5 t = -2) (c4 : S 12 (q_hd (S 5) 5 t) = 0) (c5 : ¬ 2 ≤ S 4 p - S 4 t) (c6 : ¬ S 4 p - S 4 t ≤ -2) : ww_A g wy_L_law d kc ks M 659 [(0, .ref (ww_gb g)), (1, .ref (c 0)), (2, .int 1), (3, .int mo), (4, .int wa), (5, .int ti), (6, .int v), (8, .int (nI p)), (9, .int (S 5 p)), (10, .int (S 12 (q_hd (S 5) 5 p))), (11, .int (nI t)), (12, .int (S 2 p)), (13, .int (S 4 p - S 4 t))] [.int 1] Q X := by
  have hx := x_is h
  have hin := l_inside h (nI t) (S 2 p)
  have hof := x_of0 h ht
  have k1 := hL.1 p hp
  have k2 := hL.1 t ht
  have hro : ww_C g wy_L_room 1 0 0 [.int (S 2 t), .int (S 2 p)] M (ww_ret (some (.int (q_places (S 2 t) (S 2 p)))) M) ww_no := by
    rw [k1, k2]
    exact l_room q_KD_lt q_KD_lt
  have hle : q_inK S 23 (nI t) (S 2 p) ≤ 23 := q_cnt_le _ 23
  by_cases c7 : q_places (S 2 t) (S 2 p) ≤ nI (q_inK S 23 (nI t) (S 2 p))
  · refine ww_istore (i := 14) (lv2 := [(0, _), (1, _), (2, _), (3, _), (4, _), (5, _), (6, _), (8, _), (9, _), (10, _), (11, _), (12, _), (13, _), (14, _)]) dL_law_659 (Nat.le_of_ble_eq_true rfl) rfl ?_
    refine ww_aload_n (i := 1) dL_law_661 rfl rfl ?_
    refine ww_iload (i := 11) dL_law_662 rfl ?_
    refine ww_iload (i := 12) dL_law_664 rfl ?_
    refine ww_callS wk_L_76 rfl dL_law_666 (hin) rfl rfl (by omega) (by omega) (by omega) (by first | exact Nat.le_of_ble_eq_true rfl | (simp [ww_rf_cat, Value.category])) rfl (fun E M9 h9 => h9.elim) (fun v9 M9 h9 => ?_)
    obtain ⟨rfl, rfl⟩ := h9
    refine ww_istore (i := 15) (lv2 := [(0, _), (1, _), (2, _), (3, _), (4, _), (5, _), (6, _), (8, _), (9, _), (10, _), (11, _), (12, _), (13, _), (14, _), (15, _)]) dL_law_669 (Nat.le_of_ble_eq_true rfl) rfl ?_
    refine ww_iload (i := 14) dL_law_671 rfl ?_
    refine ww_if_eq_f (tgt := 753) dL_law_673 (by decide) (by decide) ?_
    refine ww_iload (i := 15) dL_law_676 rfl ?_
    refine ww_aload_n (i := 1) dL_law_678 rfl rfl ?_
    refine ww_iload (i := 11) dL_law_679 rfl ?_
    refine ww_iconst (v := 0) dL_law_681 (by decide) ?_
    refine ww_callV (κ := 7) (r := (RX6, TX6, 4)) wk_L_22 dL_law_682 (hof) rfl rfl (show ww_is _ _ 7 from hx).1 (show ww_is _ _ 7 from hx).2 rfl rfl (by omega) (by omega) (by omega) (by first | exact Nat.le_of_ble_eq_true rfl | (simp [ww_rf_cat, Value.category])) rfl (fun E M9 h9 => h9.elim) (fun v9 M9 h9 => ?_)
    obtain ⟨rfl, rfl⟩ := h9
    refine ww_iload (i := 12) dL_law_685 rfl ?_
    refine ww_callS wk_L_80 rfl dL_law_687 (hro) rfl rfl (by omega) (by omega) (by omega) (by first | exact Nat.le_of_ble_eq_true rfl | (simp [ww_rf_cat, Value.category])) rfl (fun E M9 h9 => h9.elim) (fun v9 M9 h9 => ?_)
    obtain ⟨rfl, rfl⟩ := h9
    refine ww_icmp_ge_t (tgt := 753) dL_law_690 (by decide) c7 ?_
    refine ww_goto (tgt := 1575) dL_law_753 (by decide) ?_
    -- at 1575, locals [0, 1, 2, 3, 4, 5, 6, 8, 9, 10, 11, 12, 13, 14, 15]
    exact ww_subk (ww_less (by omega) (by omega) (kk _ _ _ _ _ _ (by omega) h hL)) ⟨rfl, rfl, rfl, rfl, rfl, rfl, rfl, rfl, trivial⟩
  have hlt : nI (q_inK S 23 (nI t) (S 2 p)) < q_places (S 2 t) (S 2 p) := by
    rw [ww_le'] at c7
    rw [ww_lt]
    omega
  have hpos : ¬ q_places (S 2 t) (S 2 p) ≤ 0 := fun y => by
    rw [ww_lt, nI_toInt (by omega)] at hlt
    rw [ww_le', show (0 : Int32).toInt = 0 from rfl] at y
    omega
  have hkd : q_KD t < q_KD p := by
    rw [k1, k2] at hpos
    exact q_plc_0 q_KD_lt q_KD_lt hpos
  have hP : q_fitP S p t := fun y => hpos (by rw [y]; decide)
  have hS : q_fitS S 23 p t := by
    refine ⟨c1, c2, c3, q_b0 c4, hlt, ?_, ?_⟩
    · rw [ww_le', show (2 : Int32).toInt = 2 from rfl] at c5
      rw [ww_le', show (1 : Int32).toInt = 1 from rfl]
      omega
    · rw [ww_le', show (-2 : Int32).toInt = -2 from rfl] at c6
      rw [ww_le', show (-1 : Int32).toInt = -1 from rfl]
      omega
  have hfi := x_fit h (by omega) hp ht hP hS
  have hL1 := q_LI_fit (k := q_k S) (p := p) (t := t) hL (fun y => by
    have e : q_KD p = 0 := by rcases y with rfl | rfl <;> decide
    omega)
  have f1 := q_fit_in (S := S) (k := q_k S) (n := 23) (t := t) hp c1 (by omega)
  have f2 := q_fit_lt (S := S) (k := q_k S) (n := 23) (t := t) hp c1 (by omega)
  have f3 : q_in (q_fit S (q_k S) p t) 23 (nI t) ≤ 23 := q_cnt_le _ 23
  have e5 : q_fit S (q_k S) p t 5 p = nI t := ww_u2s (f := S) (k := 5)
  have e2 : q_fit S (q_k S) p t 2 = S 2 := rfl
  generalize q_fit S (q_k S) p t = S1 at hfi hL1 f1 f2 f3 e5 e2
  refine ww_istore (i := 14) (lv2 := [(0, _), (1, _), (2, _), (3, _), (4, _), (5, _), (6, _), (8, _), (9, _), (10, _), (11, _), (12, _), (13, _), (14, _)]) dL_law_659 (Nat.le_of_ble_eq_true rfl) rfl ?_
  refine ww_aload_n (i := 1) dL_law_661 rfl rfl ?_
  refine ww_iload (i := 11) dL_law_662 rfl ?_
  refine ww_iload (i := 12) dL_law_664 rfl ?_
  refine ww_callS wk_L_76 rfl dL_law_666 (hin) rfl rfl (by omega) (by omega) (by omega) (by first | exact Nat.le_of_ble_eq_true rfl | (simp [ww_rf_cat, Value.category])) rfl (fun E M9 h9 => h9.elim) (fun v9 M9 h9 => ?_)
  obtain ⟨rfl, rfl⟩ := h9
  refine ww_istore (i := 15) (lv2 := [(0, _), (1, _), (2, _), (3, _), (4, _), (5, _), (6, _), (8, _), (9, _), (10, _), (11, _), (12, _), (13, _), (14, _), (15, _)]) dL_law_669 (Nat.le_of_ble_eq_true rfl) rfl ?_
  refine ww_iload (i := 14) dL_law_671 rfl ?_
  refine ww_if_eq_f (tgt := 753) dL_law_673 (by decide) (by decide) ?_
  refine ww_iload (i := 15) dL_law_676 rfl ?_
  refine ww_aload_n (i := 1) dL_law_678 rfl rfl ?_
  refine ww_iload (i := 11) dL_law_679 rfl ?_
  refine ww_iconst (v := 0) dL_law_681 (by decide) ?_
  refine ww_callV (κ := 7) (r := (RX6, TX6, 4)) wk_L_22 dL_law_682 (hof) rfl rfl (show ww_is _ _ 7 from hx).1 (show ww_is _ _ 7 from hx).2 rfl rfl (by omega) (by omega) (by omega) (by first | exact Nat.le_of_ble_eq_true rfl | (simp [ww_rf_cat, Value.category])) rfl (fun E M9 h9 => h9.elim) (fun v9 M9 h9 => ?_)
  obtain ⟨rfl, rfl⟩ := h9
  refine ww_iload (i := 12) dL_law_685 rfl ?_
  refine ww_callS wk_L_80 rfl dL_law_687 (hro) rfl rfl (by omega) (by omega) (by omega) (by first | exact Nat.le_of_ble_eq_true rfl | (simp [ww_rf_cat, Value.category])) rfl (fun E M9 h9 => h9.elim) (fun v9 M9 h9 => ?_)
  obtain ⟨rfl, rfl⟩ := h9
  refine ww_icmp_ge_f (tgt := 753) dL_law_690 (by decide) c7 ?_
  refine ww_aload_n (i := 1) dL_law_693 rfl rfl ?_
  refine ww_iload (i := 8) dL_law_694 rfl ?_
  refine ww_iload (i := 11) dL_law_696 rfl ?_
  refine ww_callV (κ := 7) (r := (RX6, TX6, 4)) wk_L_14 dL_law_698 (hfi) rfl rfl (show ww_is _ _ 7 from hx).1 (show ww_is _ _ 7 from hx).2 rfl rfl (by omega) (by omega) (by omega) (by first | exact Nat.le_of_ble_eq_true rfl | (simp [ww_rf_cat, Value.category])) rfl (fun E M9 h9 => h9.elim) (fun v9 M9 h9 => ?_)
  obtain ⟨rfl, h1⟩ := h9
  -- at 701, locals [0, 1, 2, 3, 4, 5, 6, 8, 9, 10, 11, 12, 13, 14, 15]
  have hx1 := x_is h1
  have hho := x_host h1 hp
  have hin1 := l_inside h1 (nI t) (S 2 p)
  have hhe := x_head h1 hp
  have hhe2 := x_head h1 ht
  rw [e5] at hho
  rw [f1] at hin1
  have ek : (S1 2 t).toInt = q_KD t := by rw [e2, k2, nI_toInt (by have := @q_KD_lt t; omega)]
  have e6 : q_hd (S1 5) 5 p = q_hd (S1 5) 5 t := by
    rw [q_hd_pos e5 (by omega)]
    have := @q_KD_lt p
    exact q_hd_stab (x_G h1).2.2.1 (by decide) 4 5 t ht (by omega) (by omega)
  rw [e6] at hhe
  refine ww_iload (i := 15) dL_law_701 rfl ?_
  refine ww_icmp_le_f (tgt := 751) dL_law_703 (by decide) (nI_ge f2 (by omega)) ?_
  refine ww_aload_n (i := 1) dL_law_706 rfl rfl ?_
  refine ww_iload (i := 8) dL_law_707 rfl ?_
  refine ww_callV (κ := 7) (r := (RX6, TX6, 4)) wk_L_18 dL_law_709 (hho) rfl rfl (show ww_is _ _ 7 from hx1).1 (show ww_is _ _ 7 from hx1).2 rfl rfl (by omega) (by omega) (by omega) (by first | exact Nat.le_of_ble_eq_true rfl | (simp [ww_rf_cat, Value.category])) rfl (fun E M9 h9 => h9.elim) (fun v9 M9 h9 => ?_)
  obtain ⟨rfl, rfl⟩ := h9
  refine ww_iload (i := 11) dL_law_712 rfl ?_
  refine ww_icmp_ne_f (tgt := 751) dL_law_714 (by decide) rfl ?_
  refine ww_aload_n (i := 1) dL_law_717 rfl rfl ?_
  refine ww_iload (i := 11) dL_law_718 rfl ?_
  refine ww_iload (i := 12) dL_law_720 rfl ?_
  refine ww_callS wk_L_76 rfl dL_law_722 (hin1) rfl rfl (by omega) (by omega) (by omega) (by first | exact Nat.le_of_ble_eq_true rfl | (simp [ww_rf_cat, Value.category])) rfl (fun E M9 h9 => h9.elim) (fun v9 M9 h9 => ?_)
  obtain ⟨rfl, rfl⟩ := h9
  refine ww_iload (i := 15) dL_law_725 rfl ?_
  refine ww_iconst (v := 1) dL_law_727 (by decide) ?_
  refine ww_iadd dL_law_728 ?_
  refine ww_icmp_ne_f (tgt := 751) dL_law_729 (by decide) (nI_1 _).symm ?_
  refine ww_aload_n (i := 1) dL_law_732 rfl rfl ?_
  refine ww_iload (i := 8) dL_law_733 rfl ?_
  refine ww_callV (κ := 7) (r := (RX6, TX6, 4)) wk_L_46 dL_law_735 (hhe) rfl rfl (show ww_is _ _ 7 from hx1).1 (show ww_is _ _ 7 from hx1).2 rfl rfl (by omega) (by omega) (by omega) (by first | exact Nat.le_of_ble_eq_true rfl | (simp [ww_rf_cat, Value.category])) rfl (fun E M9 h9 => h9.elim) (fun v9 M9 h9 => ?_)
  obtain ⟨rfl, rfl⟩ := h9
  refine ww_aload_n (i := 1) dL_law_738 rfl rfl ?_
  refine ww_iload (i := 11) dL_law_739 rfl ?_
  refine ww_callV (κ := 7) (r := (RX6, TX6, 4)) wk_L_46 dL_law_741 (hhe2) rfl rfl (show ww_is _ _ 7 from hx1).1 (show ww_is _ _ 7 from hx1).2 rfl rfl (by omega) (by omega) (by omega) (by first | exact Nat.le_of_ble_eq_true rfl | (simp [ww_rf_cat, Value.category])) rfl (fun E M9 h9 => h9.elim) (fun v9 M9 h9 => ?_)
  obtain ⟨rfl, rfl⟩ := h9
  refine ww_icmp_ne_f (tgt := 751) dL_law_744 (by decide) rfl ?_
  refine ww_iconst (v := 1) dL_law_747 (by decide) ?_
  refine ww_goto (tgt := 752) dL_law_748 (by decide) ?_
  refine ww_istore_n (i := 2) (lv2 := [(0, _), (1, _), (2, _), (3, _), (4, _), (5, _), (6, _), (8, _), (9, _), (10, _), (11, _), (12, _), (13, _), (14, _), (15, _)]) dL_law_752 rfl (Nat.le_of_ble_eq_true rfl) rfl ?_
  refine ww_goto (tgt := 1575) dL_law_753 (by decide) ?_
  -- at 1575, locals [0, 1, 2, 3, 4, 5, 6, 8, 9, 10, 11, 12, 13, 14, 15]
  exact ww_subk (ww_less (by omega) (by omega) (kk _ _ _ _ _ _ (by omega) h1 hL1)) ⟨rfl, rfl, rfl, rfl, rfl, rfl, rfl, rfl, trivial⟩
set_option maxRecDepth 20000 in
set_option maxHeartbeats 4000000 in
theorem law_b5 (h : ww_mx g c b 23 w m S M) (hL : q_LI S w m wa) (hb : b ≤ 500) (hp : p < 23) (hd : 24 ≤ d) (hkc : 20 ≤ kc) (hks : 8000 ≤ ks) (kk : ∀ (M' : ww_M) (S' : Nat → Nat → Int32) (b' w' m' : Nat) (wa' : Int32), b' ≤ b + 4 → ww_mx g c b' 23 w' m' S' M' → q_LI S' w' m' wa' → ww_A g wy_L_law d (kc - 20) (ks - 8000) M' 1575 [(0, .ref (ww_gb g)), (1, .ref (c 0)), (2, .int 1), (3, .int mo), (4, .int wa'), (5, .int ti), (6, .int v), (8, .int (nI p))] [] Q X) : ww_A g wy_L_law d kc ks M 562 [(0, .ref (ww_gb g)), (1, .ref (c 0)), (2, .int 1), (3, .int mo), (4, .int wa), (5, .int ti), (6, .int v), (8, .int (nI p)), (9, .int (S 5 p)), (10, .int (S 12 (q_hd (S 5) 5 p)))] [] Q X := by
  have hx := x_is h
  have hlo := l_low (g := g) (M := M) (v := v >>> (9 &&& 31)) (k := 23) (by decide) (by decide)
  have ht := q_lw_lt (v := v >>> (9 &&& 31)) (k := 23) (by decide)
  generalize q_lw (v >>> (9 &&& 31)) 23 = t at hlo ht
  have hlt := q_hd_lt (x_G h).2.2.1 (by decide) 5 t ht
  have hk := x_of0 h hp
  have hm1 := x_of2 h hp
  have hm2 := x_of2 h ht
  have hq := x_of6 h hp
  have hht := x_host h ht
  have hhd := x_head h ht
  have hst := l_stands h hlt
  by_cases c1 : ¬ S 5 p = -1
  · refine ww_iload (i := 6) dL_law_562 rfl ?_
    refine ww_bipush (v := 9) dL_law_564 (by decide) ?_
    refine ww_ishr dL_law_566 ?_
    refine ww_bipush (v := 23) dL_law_567 (by decide) ?_
    refine ww_callS wk_L_43 rfl dL_law_569 (hlo) rfl rfl (by omega) (by omega) (by omega) (by first | exact Nat.le_of_ble_eq_true rfl | (simp [ww_rf_cat, Value.category])) rfl (fun E M9 h9 => h9.elim) (fun v9 M9 h9 => ?_)
    obtain ⟨rfl, rfl⟩ := h9
    refine ww_istore (i := 11) (lv2 := [(0, _), (1, _), (2, _), (3, _), (4, _), (5, _), (6, _), (8, _), (9, _), (10, _), (11, _)]) dL_law_572 (Nat.le_of_ble_eq_true rfl) rfl ?_
    refine ww_aload_n (i := 1) dL_law_574 rfl rfl ?_
    refine ww_iload (i := 8) dL_law_575 rfl ?_
    refine ww_iconst (v := 0) dL_law_577 (by decide) ?_
    refine ww_callV (κ := 7) (r := (RX6, TX6, 4)) wk_L_22 dL_law_578 (hk) rfl rfl (show ww_is _ _ 7 from hx).1 (show ww_is _ _ 7 from hx).2 rfl rfl (by omega) (by omega) (by omega) (by first | exact Nat.le_of_ble_eq_true rfl | (simp [ww_rf_cat, Value.category])) rfl (fun E M9 h9 => h9.elim) (fun v9 M9 h9 => ?_)
    obtain ⟨rfl, rfl⟩ := h9
    refine ww_istore (i := 12) (lv2 := [(0, _), (1, _), (2, _), (3, _), (4, _), (5, _), (6, _), (8, _), (9, _), (10, _), (11, _), (12, _)]) dL_law_581 (Nat.le_of_ble_eq_true rfl) rfl ?_
    refine ww_aload_n (i := 1) dL_law_583 rfl rfl ?_
    refine ww_iload (i := 8) dL_law_584 rfl ?_
    refine ww_iconst (v := 2) dL_law_586 (by decide) ?_
    refine ww_callV (κ := 7) (r := (RX6, TX6, 4)) wk_L_22 dL_law_587 (hm1) rfl rfl (show ww_is _ _ 7 from hx).1 (show ww_is _ _ 7 from hx).2 rfl rfl (by omega) (by omega) (by omega) (by first | exact Nat.le_of_ble_eq_true rfl | (simp [ww_rf_cat, Value.category])) rfl (fun E M9 h9 => h9.elim) (fun v9 M9 h9 => ?_)
    obtain ⟨rfl, rfl⟩ := h9
    refine ww_aload_n (i := 1) dL_law_590 rfl rfl ?_
    refine ww_iload (i := 11) dL_law_591 rfl ?_
    refine ww_iconst (v := 2) dL_law_593 (by decide) ?_
    refine ww_callV (κ := 7) (r := (RX6, TX6, 4)) wk_L_22 dL_law_594 (hm2) rfl rfl (show ww_is _ _ 7 from hx).1 (show ww_is _ _ 7 from hx).2 rfl rfl (by omega) (by omega) (by omega) (by first | exact Nat.le_of_ble_eq_true rfl | (simp [ww_rf_cat, Value.category])) rfl (fun E M9 h9 => h9.elim) (fun v9 M9 h9 => ?_)
    obtain ⟨rfl, rfl⟩ := h9
    refine ww_isub dL_law_597 ?_
    refine ww_istore (i := 13) (lv2 := [(0, _), (1, _), (2, _), (3, _), (4, _), (5, _), (6, _), (8, _), (9, _), (10, _), (11, _), (12, _), (13, _)]) dL_law_598 (Nat.le_of_ble_eq_true rfl) rfl ?_
    refine ww_iload (i := 9) dL_law_600 rfl ?_
    refine ww_iconst (v := (-1)) dL_law_602 (by decide) ?_
    refine ww_icmp_ne_t (tgt := 658) dL_law_603 (by decide) c1 ?_
    refine ww_iconst (v := 0) dL_law_658 (by decide) ?_
    -- at 659, locals [0, 1, 2, 3, 4, 5, 6, 8, 9, 10, 11, 12, 13]
    exact law_b5c h hL hb hp hd hkc hks kk ht
  have c1 : S 5 p = -1 := Classical.not_not.mp c1
  by_cases c2 : ¬ S 9 p = 0
  · refine ww_iload (i := 6) dL_law_562 rfl ?_
    refine ww_bipush (v := 9) dL_law_564 (by decide) ?_
    refine ww_ishr dL_law_566 ?_
    refine ww_bipush (v := 23) dL_law_567 (by decide) ?_
    refine ww_callS wk_L_43 rfl dL_law_569 (hlo) rfl rfl (by omega) (by omega) (by omega) (by first | exact Nat.le_of_ble_eq_true rfl | (simp [ww_rf_cat, Value.category])) rfl (fun E M9 h9 => h9.elim) (fun v9 M9 h9 => ?_)
    obtain ⟨rfl, rfl⟩ := h9
    refine ww_istore (i := 11) (lv2 := [(0, _), (1, _), (2, _), (3, _), (4, _), (5, _), (6, _), (8, _), (9, _), (10, _), (11, _)]) dL_law_572 (Nat.le_of_ble_eq_true rfl) rfl ?_
    refine ww_aload_n (i := 1) dL_law_574 rfl rfl ?_
    refine ww_iload (i := 8) dL_law_575 rfl ?_
    refine ww_iconst (v := 0) dL_law_577 (by decide) ?_
    refine ww_callV (κ := 7) (r := (RX6, TX6, 4)) wk_L_22 dL_law_578 (hk) rfl rfl (show ww_is _ _ 7 from hx).1 (show ww_is _ _ 7 from hx).2 rfl rfl (by omega) (by omega) (by omega) (by first | exact Nat.le_of_ble_eq_true rfl | (simp [ww_rf_cat, Value.category])) rfl (fun E M9 h9 => h9.elim) (fun v9 M9 h9 => ?_)
    obtain ⟨rfl, rfl⟩ := h9
    refine ww_istore (i := 12) (lv2 := [(0, _), (1, _), (2, _), (3, _), (4, _), (5, _), (6, _), (8, _), (9, _), (10, _), (11, _), (12, _)]) dL_law_581 (Nat.le_of_ble_eq_true rfl) rfl ?_
    refine ww_aload_n (i := 1) dL_law_583 rfl rfl ?_
    refine ww_iload (i := 8) dL_law_584 rfl ?_
    refine ww_iconst (v := 2) dL_law_586 (by decide) ?_
    refine ww_callV (κ := 7) (r := (RX6, TX6, 4)) wk_L_22 dL_law_587 (hm1) rfl rfl (show ww_is _ _ 7 from hx).1 (show ww_is _ _ 7 from hx).2 rfl rfl (by omega) (by omega) (by omega) (by first | exact Nat.le_of_ble_eq_true rfl | (simp [ww_rf_cat, Value.category])) rfl (fun E M9 h9 => h9.elim) (fun v9 M9 h9 => ?_)
    obtain ⟨rfl, rfl⟩ := h9
    refine ww_aload_n (i := 1) dL_law_590 rfl rfl ?_
    refine ww_iload (i := 11) dL_law_591 rfl ?_
    refine ww_iconst (v := 2) dL_law_593 (by decide) ?_
    refine ww_callV (κ := 7) (r := (RX6, TX6, 4)) wk_L_22 dL_law_594 (hm2) rfl rfl (show ww_is _ _ 7 from hx).1 (show ww_is _ _ 7 from hx).2 rfl rfl (by omega) (by omega) (by omega) (by first | exact Nat.le_of_ble_eq_true rfl | (simp [ww_rf_cat, Value.category])) rfl (fun E M9 h9 => h9.elim) (fun v9 M9 h9 => ?_)
    obtain ⟨rfl, rfl⟩ := h9
    refine ww_isub dL_law_597 ?_
    refine ww_istore (i := 13) (lv2 := [(0, _), (1, _), (2, _), (3, _), (4, _), (5, _), (6, _), (8, _), (9, _), (10, _), (11, _), (12, _), (13, _)]) dL_law_598 (Nat.le_of_ble_eq_true rfl) rfl ?_
    refine ww_iload (i := 9) dL_law_600 rfl ?_
    refine ww_iconst (v := (-1)) dL_law_602 (by decide) ?_
    refine ww_icmp_ne_f (tgt := 658) dL_law_603 (by decide) c1 ?_
    refine ww_aload_n (i := 1) dL_law_606 rfl rfl ?_
    refine ww_iload (i := 8) dL_law_607 rfl ?_
    refine ww_bipush (v := 6) dL_law_609 (by decide) ?_
    refine ww_callV (κ := 7) (r := (RX6, TX6, 4)) wk_L_22 dL_law_611 (hq) rfl rfl (show ww_is _ _ 7 from hx).1 (show ww_is _ _ 7 from hx).2 rfl rfl (by omega) (by omega) (by omega) (by first | exact Nat.le_of_ble_eq_true rfl | (simp [ww_rf_cat, Value.category])) rfl (fun E M9 h9 => h9.elim) (fun v9 M9 h9 => ?_)
    obtain ⟨rfl, rfl⟩ := h9
    refine ww_if_ne_t (tgt := 658) dL_law_614 (by decide) c2 ?_
    refine ww_iconst (v := 0) dL_law_658 (by decide) ?_
    -- at 659, locals [0, 1, 2, 3, 4, 5, 6, 8, 9, 10, 11, 12, 13]
    exact law_b5c h hL hb hp hd hkc hks kk ht
  have c2 : S 9 p = 0 := Classical.not_not.mp c2
  by_cases c3 : S 5 t = -2
  · refine ww_iload (i := 6) dL_law_562 rfl ?_
    refine ww_bipush (v := 9) dL_law_564 (by decide) ?_
    refine ww_ishr dL_law_566 ?_
    refine ww_bipush (v := 23) dL_law_567 (by decide) ?_
    refine ww_callS wk_L_43 rfl dL_law_569 (hlo) rfl rfl (by omega) (by omega) (by omega) (by first | exact Nat.le_of_ble_eq_true rfl | (simp [ww_rf_cat, Value.category])) rfl (fun E M9 h9 => h9.elim) (fun v9 M9 h9 => ?_)
    obtain ⟨rfl, rfl⟩ := h9
    refine ww_istore (i := 11) (lv2 := [(0, _), (1, _), (2, _), (3, _), (4, _), (5, _), (6, _), (8, _), (9, _), (10, _), (11, _)]) dL_law_572 (Nat.le_of_ble_eq_true rfl) rfl ?_
    refine ww_aload_n (i := 1) dL_law_574 rfl rfl ?_
    refine ww_iload (i := 8) dL_law_575 rfl ?_
    refine ww_iconst (v := 0) dL_law_577 (by decide) ?_
    refine ww_callV (κ := 7) (r := (RX6, TX6, 4)) wk_L_22 dL_law_578 (hk) rfl rfl (show ww_is _ _ 7 from hx).1 (show ww_is _ _ 7 from hx).2 rfl rfl (by omega) (by omega) (by omega) (by first | exact Nat.le_of_ble_eq_true rfl | (simp [ww_rf_cat, Value.category])) rfl (fun E M9 h9 => h9.elim) (fun v9 M9 h9 => ?_)
    obtain ⟨rfl, rfl⟩ := h9
    refine ww_istore (i := 12) (lv2 := [(0, _), (1, _), (2, _), (3, _), (4, _), (5, _), (6, _), (8, _), (9, _), (10, _), (11, _), (12, _)]) dL_law_581 (Nat.le_of_ble_eq_true rfl) rfl ?_
    refine ww_aload_n (i := 1) dL_law_583 rfl rfl ?_
    refine ww_iload (i := 8) dL_law_584 rfl ?_
    refine ww_iconst (v := 2) dL_law_586 (by decide) ?_
    refine ww_callV (κ := 7) (r := (RX6, TX6, 4)) wk_L_22 dL_law_587 (hm1) rfl rfl (show ww_is _ _ 7 from hx).1 (show ww_is _ _ 7 from hx).2 rfl rfl (by omega) (by omega) (by omega) (by first | exact Nat.le_of_ble_eq_true rfl | (simp [ww_rf_cat, Value.category])) rfl (fun E M9 h9 => h9.elim) (fun v9 M9 h9 => ?_)
    obtain ⟨rfl, rfl⟩ := h9
    refine ww_aload_n (i := 1) dL_law_590 rfl rfl ?_
    refine ww_iload (i := 11) dL_law_591 rfl ?_
    refine ww_iconst (v := 2) dL_law_593 (by decide) ?_
    refine ww_callV (κ := 7) (r := (RX6, TX6, 4)) wk_L_22 dL_law_594 (hm2) rfl rfl (show ww_is _ _ 7 from hx).1 (show ww_is _ _ 7 from hx).2 rfl rfl (by omega) (by omega) (by omega) (by first | exact Nat.le_of_ble_eq_true rfl | (simp [ww_rf_cat, Value.category])) rfl (fun E M9 h9 => h9.elim) (fun v9 M9 h9 => ?_)
    obtain ⟨rfl, rfl⟩ := h9
    refine ww_isub dL_law_597 ?_
    refine ww_istore (i := 13) (lv2 := [(0, _), (1, _), (2, _), (3, _), (4, _), (5, _), (6, _), (8, _), (9, _), (10, _), (11, _), (12, _), (13, _)]) dL_law_598 (Nat.le_of_ble_eq_true rfl) rfl ?_
    refine ww_iload (i := 9) dL_law_600 rfl ?_
    refine ww_iconst (v := (-1)) dL_law_602 (by decide) ?_
    refine ww_icmp_ne_f (tgt := 658) dL_law_603 (by decide) c1 ?_
    refine ww_aload_n (i := 1) dL_law_606 rfl rfl ?_
    refine ww_iload (i := 8) dL_law_607 rfl ?_
    refine ww_bipush (v := 6) dL_law_609 (by decide) ?_
    refine ww_callV (κ := 7) (r := (RX6, TX6, 4)) wk_L_22 dL_law_611 (hq) rfl rfl (show ww_is _ _ 7 from hx).1 (show ww_is _ _ 7 from hx).2 rfl rfl (by omega) (by omega) (by omega) (by first | exact Nat.le_of_ble_eq_true rfl | (simp [ww_rf_cat, Value.category])) rfl (fun E M9 h9 => h9.elim) (fun v9 M9 h9 => ?_)
    obtain ⟨rfl, rfl⟩ := h9
    refine ww_if_ne_f (tgt := 658) dL_law_614 (by decide) c2 ?_
    refine ww_aload_n (i := 1) dL_law_617 rfl rfl ?_
    refine ww_iload (i := 11) dL_law_618 rfl ?_
    refine ww_callV (κ := 7) (r := (RX6, TX6, 4)) wk_L_18 dL_law_620 (hht) rfl rfl (show ww_is _ _ 7 from hx).1 (show ww_is _ _ 7 from hx).2 rfl rfl (by omega) (by omega) (by omega) (by first | exact Nat.le_of_ble_eq_true rfl | (simp [ww_rf_cat, Value.category])) rfl (fun E M9 h9 => h9.elim) (fun v9 M9 h9 => ?_)
    obtain ⟨rfl, rfl⟩ := h9
    refine ww_bipush (v := (-2)) dL_law_623 (by decide) ?_
    refine ww_icmp_eq_t (tgt := 658) dL_law_625 (by decide) c3 ?_
    refine ww_iconst (v := 0) dL_law_658 (by decide) ?_
    -- at 659, locals [0, 1, 2, 3, 4, 5, 6, 8, 9, 10, 11, 12, 13]
    exact law_b5c h hL hb hp hd hkc hks kk ht
  by_cases c4 : ¬ S 12 (q_hd (S 5) 5 t) = 0
  · refine ww_iload (i := 6) dL_law_562 rfl ?_
    refine ww_bipush (v := 9) dL_law_564 (by decide) ?_
    refine ww_ishr dL_law_566 ?_
    refine ww_bipush (v := 23) dL_law_567 (by decide) ?_
    refine ww_callS wk_L_43 rfl dL_law_569 (hlo) rfl rfl (by omega) (by omega) (by omega) (by first | exact Nat.le_of_ble_eq_true rfl | (simp [ww_rf_cat, Value.category])) rfl (fun E M9 h9 => h9.elim) (fun v9 M9 h9 => ?_)
    obtain ⟨rfl, rfl⟩ := h9
    refine ww_istore (i := 11) (lv2 := [(0, _), (1, _), (2, _), (3, _), (4, _), (5, _), (6, _), (8, _), (9, _), (10, _), (11, _)]) dL_law_572 (Nat.le_of_ble_eq_true rfl) rfl ?_
    refine ww_aload_n (i := 1) dL_law_574 rfl rfl ?_
    refine ww_iload (i := 8) dL_law_575 rfl ?_
    refine ww_iconst (v := 0) dL_law_577 (by decide) ?_
    refine ww_callV (κ := 7) (r := (RX6, TX6, 4)) wk_L_22 dL_law_578 (hk) rfl rfl (show ww_is _ _ 7 from hx).1 (show ww_is _ _ 7 from hx).2 rfl rfl (by omega) (by omega) (by omega) (by first | exact Nat.le_of_ble_eq_true rfl | (simp [ww_rf_cat, Value.category])) rfl (fun E M9 h9 => h9.elim) (fun v9 M9 h9 => ?_)
    obtain ⟨rfl, rfl⟩ := h9
    refine ww_istore (i := 12) (lv2 := [(0, _), (1, _), (2, _), (3, _), (4, _), (5, _), (6, _), (8, _), (9, _), (10, _), (11, _), (12, _)]) dL_law_581 (Nat.le_of_ble_eq_true rfl) rfl ?_
    refine ww_aload_n (i := 1) dL_law_583 rfl rfl ?_
    refine ww_iload (i := 8) dL_law_584 rfl ?_
    refine ww_iconst (v := 2) dL_law_586 (by decide) ?_
    refine ww_callV (κ := 7) (r := (RX6, TX6, 4)) wk_L_22 dL_law_587 (hm1) rfl rfl (show ww_is _ _ 7 from hx).1 (show ww_is _ _ 7 from hx).2 rfl rfl (by omega) (by omega) (by omega) (by first | exact Nat.le_of_ble_eq_true rfl | (simp [ww_rf_cat, Value.category])) rfl (fun E M9 h9 => h9.elim) (fun v9 M9 h9 => ?_)
    obtain ⟨rfl, rfl⟩ := h9
    refine ww_aload_n (i := 1) dL_law_590 rfl rfl ?_
    refine ww_iload (i := 11) dL_law_591 rfl ?_
    refine ww_iconst (v := 2) dL_law_593 (by decide) ?_
    refine ww_callV (κ := 7) (r := (RX6, TX6, 4)) wk_L_22 dL_law_594 (hm2) rfl rfl (show ww_is _ _ 7 from hx).1 (show ww_is _ _ 7 from hx).2 rfl rfl (by omega) (by omega) (by omega) (by first | exact Nat.le_of_ble_eq_true rfl | (simp [ww_rf_cat, Value.category])) rfl (fun E M9 h9 => h9.elim) (fun v9 M9 h9 => ?_)
    obtain ⟨rfl, rfl⟩ := h9
    refine ww_isub dL_law_597 ?_
    refine ww_istore (i := 13) (lv2 := [(0, _), (1, _), (2, _), (3, _), (4, _), (5, _), (6, _), (8, _), (9, _), (10, _), (11, _), (12, _), (13, _)]) dL_law_598 (Nat.le_of_ble_eq_true rfl) rfl ?_
    refine ww_iload (i := 9) dL_law_600 rfl ?_
    refine ww_iconst (v := (-1)) dL_law_602 (by decide) ?_
    refine ww_icmp_ne_f (tgt := 658) dL_law_603 (by decide) c1 ?_
    refine ww_aload_n (i := 1) dL_law_606 rfl rfl ?_
    refine ww_iload (i := 8) dL_law_607 rfl ?_
    refine ww_bipush (v := 6) dL_law_609 (by decide) ?_
    refine ww_callV (κ := 7) (r := (RX6, TX6, 4)) wk_L_22 dL_law_611 (hq) rfl rfl (show ww_is _ _ 7 from hx).1 (show ww_is _ _ 7 from hx).2 rfl rfl (by omega) (by omega) (by omega) (by first | exact Nat.le_of_ble_eq_true rfl | (simp [ww_rf_cat, Value.category])) rfl (fun E M9 h9 => h9.elim) (fun v9 M9 h9 => ?_)
    obtain ⟨rfl, rfl⟩ := h9
    refine ww_if_ne_f (tgt := 658) dL_law_614 (by decide) c2 ?_
    refine ww_aload_n (i := 1) dL_law_617 rfl rfl ?_
    refine ww_iload (i := 11) dL_law_618 rfl ?_
    refine ww_callV (κ := 7) (r := (RX6, TX6, 4)) wk_L_18 dL_law_620 (hht) rfl rfl (show ww_is _ _ 7 from hx).1 (show ww_is _ _ 7 from hx).2 rfl rfl (by omega) (by omega) (by omega) (by first | exact Nat.le_of_ble_eq_true rfl | (simp [ww_rf_cat, Value.category])) rfl (fun E M9 h9 => h9.elim) (fun v9 M9 h9 => ?_)
    obtain ⟨rfl, rfl⟩ := h9
    refine ww_bipush (v := (-2)) dL_law_623 (by decide) ?_
    refine ww_icmp_eq_f (tgt := 658) dL_law_625 (by decide) c3 ?_
    refine ww_aload_n (i := 1) dL_law_628 rfl rfl ?_
    refine ww_aload_n (i := 1) dL_law_629 rfl rfl ?_
    refine ww_iload (i := 11) dL_law_630 rfl ?_
    refine ww_callV (κ := 7) (r := (RX6, TX6, 4)) wk_L_46 dL_law_632 (hhd) rfl rfl (show ww_is _ _ 7 from hx).1 (show ww_is _ _ 7 from hx).2 rfl rfl (by omega) (by omega) (by omega) (by first | exact Nat.le_of_ble_eq_true rfl | (simp [ww_rf_cat, Value.category])) rfl (fun E M9 h9 => h9.elim) (fun v9 M9 h9 => ?_)
    obtain ⟨rfl, rfl⟩ := h9
    refine ww_callS wk_L_49 rfl dL_law_635 (hst) rfl rfl (by omega) (by omega) (by omega) (by first | exact Nat.le_of_ble_eq_true rfl | (simp [ww_rf_cat, Value.category])) rfl (fun E M9 h9 => h9.elim) (fun v9 M9 h9 => ?_)
    obtain ⟨rfl, rfl⟩ := h9
    refine ww_if_ne_t (tgt := 658) dL_law_638 (by decide) c4 ?_
    refine ww_iconst (v := 0) dL_law_658 (by decide) ?_
    -- at 659, locals [0, 1, 2, 3, 4, 5, 6, 8, 9, 10, 11, 12, 13]
    exact law_b5c h hL hb hp hd hkc hks kk ht
  have c4 : S 12 (q_hd (S 5) 5 t) = 0 := Classical.not_not.mp c4
  by_cases c5 : 2 ≤ S 4 p - S 4 t
  · refine ww_iload (i := 6) dL_law_562 rfl ?_
    refine ww_bipush (v := 9) dL_law_564 (by decide) ?_
    refine ww_ishr dL_law_566 ?_
    refine ww_bipush (v := 23) dL_law_567 (by decide) ?_
    refine ww_callS wk_L_43 rfl dL_law_569 (hlo) rfl rfl (by omega) (by omega) (by omega) (by first | exact Nat.le_of_ble_eq_true rfl | (simp [ww_rf_cat, Value.category])) rfl (fun E M9 h9 => h9.elim) (fun v9 M9 h9 => ?_)
    obtain ⟨rfl, rfl⟩ := h9
    refine ww_istore (i := 11) (lv2 := [(0, _), (1, _), (2, _), (3, _), (4, _), (5, _), (6, _), (8, _), (9, _), (10, _), (11, _)]) dL_law_572 (Nat.le_of_ble_eq_true rfl) rfl ?_
    refine ww_aload_n (i := 1) dL_law_574 rfl rfl ?_
    refine ww_iload (i := 8) dL_law_575 rfl ?_
    refine ww_iconst (v := 0) dL_law_577 (by decide) ?_
    refine ww_callV (κ := 7) (r := (RX6, TX6, 4)) wk_L_22 dL_law_578 (hk) rfl rfl (show ww_is _ _ 7 from hx).1 (show ww_is _ _ 7 from hx).2 rfl rfl (by omega) (by omega) (by omega) (by first | exact Nat.le_of_ble_eq_true rfl | (simp [ww_rf_cat, Value.category])) rfl (fun E M9 h9 => h9.elim) (fun v9 M9 h9 => ?_)
    obtain ⟨rfl, rfl⟩ := h9
    refine ww_istore (i := 12) (lv2 := [(0, _), (1, _), (2, _), (3, _), (4, _), (5, _), (6, _), (8, _), (9, _), (10, _), (11, _), (12, _)]) dL_law_581 (Nat.le_of_ble_eq_true rfl) rfl ?_
    refine ww_aload_n (i := 1) dL_law_583 rfl rfl ?_
    refine ww_iload (i := 8) dL_law_584 rfl ?_
    refine ww_iconst (v := 2) dL_law_586 (by decide) ?_
    refine ww_callV (κ := 7) (r := (RX6, TX6, 4)) wk_L_22 dL_law_587 (hm1) rfl rfl (show ww_is _ _ 7 from hx).1 (show ww_is _ _ 7 from hx).2 rfl rfl (by omega) (by omega) (by omega) (by first | exact Nat.le_of_ble_eq_true rfl | (simp [ww_rf_cat, Value.category])) rfl (fun E M9 h9 => h9.elim) (fun v9 M9 h9 => ?_)
    obtain ⟨rfl, rfl⟩ := h9
    refine ww_aload_n (i := 1) dL_law_590 rfl rfl ?_
    refine ww_iload (i := 11) dL_law_591 rfl ?_
    refine ww_iconst (v := 2) dL_law_593 (by decide) ?_
    refine ww_callV (κ := 7) (r := (RX6, TX6, 4)) wk_L_22 dL_law_594 (hm2) rfl rfl (show ww_is _ _ 7 from hx).1 (show ww_is _ _ 7 from hx).2 rfl rfl (by omega) (by omega) (by omega) (by first | exact Nat.le_of_ble_eq_true rfl | (simp [ww_rf_cat, Value.category])) rfl (fun E M9 h9 => h9.elim) (fun v9 M9 h9 => ?_)
    obtain ⟨rfl, rfl⟩ := h9
    refine ww_isub dL_law_597 ?_
    refine ww_istore (i := 13) (lv2 := [(0, _), (1, _), (2, _), (3, _), (4, _), (5, _), (6, _), (8, _), (9, _), (10, _), (11, _), (12, _), (13, _)]) dL_law_598 (Nat.le_of_ble_eq_true rfl) rfl ?_
    refine ww_iload (i := 9) dL_law_600 rfl ?_
    refine ww_iconst (v := (-1)) dL_law_602 (by decide) ?_
    refine ww_icmp_ne_f (tgt := 658) dL_law_603 (by decide) c1 ?_
    refine ww_aload_n (i := 1) dL_law_606 rfl rfl ?_
    refine ww_iload (i := 8) dL_law_607 rfl ?_
    refine ww_bipush (v := 6) dL_law_609 (by decide) ?_
    refine ww_callV (κ := 7) (r := (RX6, TX6, 4)) wk_L_22 dL_law_611 (hq) rfl rfl (show ww_is _ _ 7 from hx).1 (show ww_is _ _ 7 from hx).2 rfl rfl (by omega) (by omega) (by omega) (by first | exact Nat.le_of_ble_eq_true rfl | (simp [ww_rf_cat, Value.category])) rfl (fun E M9 h9 => h9.elim) (fun v9 M9 h9 => ?_)
    obtain ⟨rfl, rfl⟩ := h9
    refine ww_if_ne_f (tgt := 658) dL_law_614 (by decide) c2 ?_
    refine ww_aload_n (i := 1) dL_law_617 rfl rfl ?_
    refine ww_iload (i := 11) dL_law_618 rfl ?_
    refine ww_callV (κ := 7) (r := (RX6, TX6, 4)) wk_L_18 dL_law_620 (hht) rfl rfl (show ww_is _ _ 7 from hx).1 (show ww_is _ _ 7 from hx).2 rfl rfl (by omega) (by omega) (by omega) (by first | exact Nat.le_of_ble_eq_true rfl | (simp [ww_rf_cat, Value.category])) rfl (fun E M9 h9 => h9.elim) (fun v9 M9 h9 => ?_)
    obtain ⟨rfl, rfl⟩ := h9
    refine ww_bipush (v := (-2)) dL_law_623 (by decide) ?_
    refine ww_icmp_eq_f (tgt := 658) dL_law_625 (by decide) c3 ?_
    refine ww_aload_n (i := 1) dL_law_628 rfl rfl ?_
    refine ww_aload_n (i := 1) dL_law_629 rfl rfl ?_
    refine ww_iload (i := 11) dL_law_630 rfl ?_
    refine ww_callV (κ := 7) (r := (RX6, TX6, 4)) wk_L_46 dL_law_632 (hhd) rfl rfl (show ww_is _ _ 7 from hx).1 (show ww_is _ _ 7 from hx).2 rfl rfl (by omega) (by omega) (by omega) (by first | exact Nat.le_of_ble_eq_true rfl | (simp [ww_rf_cat, Value.category])) rfl (fun E M9 h9 => h9.elim) (fun v9 M9 h9 => ?_)
    obtain ⟨rfl, rfl⟩ := h9
    refine ww_callS wk_L_49 rfl dL_law_635 (hst) rfl rfl (by omega) (by omega) (by omega) (by first | exact Nat.le_of_ble_eq_true rfl | (simp [ww_rf_cat, Value.category])) rfl (fun E M9 h9 => h9.elim) (fun v9 M9 h9 => ?_)
    obtain ⟨rfl, rfl⟩ := h9
    refine ww_if_ne_f (tgt := 658) dL_law_638 (by decide) c4 ?_
    refine ww_iload (i := 13) dL_law_641 rfl ?_
    refine ww_iconst (v := 2) dL_law_643 (by decide) ?_
    refine ww_icmp_ge_t (tgt := 658) dL_law_644 (by decide) c5 ?_
    refine ww_iconst (v := 0) dL_law_658 (by decide) ?_
    -- at 659, locals [0, 1, 2, 3, 4, 5, 6, 8, 9, 10, 11, 12, 13]
    exact law_b5c h hL hb hp hd hkc hks kk ht
  by_cases c6 : S 4 p - S 4 t ≤ -2
  · refine ww_iload (i := 6) dL_law_562 rfl ?_
    refine ww_bipush (v := 9) dL_law_564 (by decide) ?_
    refine ww_ishr dL_law_566 ?_
    refine ww_bipush (v := 23) dL_law_567 (by decide) ?_
    refine ww_callS wk_L_43 rfl dL_law_569 (hlo) rfl rfl (by omega) (by omega) (by omega) (by first | exact Nat.le_of_ble_eq_true rfl | (simp [ww_rf_cat, Value.category])) rfl (fun E M9 h9 => h9.elim) (fun v9 M9 h9 => ?_)
    obtain ⟨rfl, rfl⟩ := h9
    refine ww_istore (i := 11) (lv2 := [(0, _), (1, _), (2, _), (3, _), (4, _), (5, _), (6, _), (8, _), (9, _), (10, _), (11, _)]) dL_law_572 (Nat.le_of_ble_eq_true rfl) rfl ?_
    refine ww_aload_n (i := 1) dL_law_574 rfl rfl ?_
    refine ww_iload (i := 8) dL_law_575 rfl ?_
    refine ww_iconst (v := 0) dL_law_577 (by decide) ?_
    refine ww_callV (κ := 7) (r := (RX6, TX6, 4)) wk_L_22 dL_law_578 (hk) rfl rfl (show ww_is _ _ 7 from hx).1 (show ww_is _ _ 7 from hx).2 rfl rfl (by omega) (by omega) (by omega) (by first | exact Nat.le_of_ble_eq_true rfl | (simp [ww_rf_cat, Value.category])) rfl (fun E M9 h9 => h9.elim) (fun v9 M9 h9 => ?_)
    obtain ⟨rfl, rfl⟩ := h9
    refine ww_istore (i := 12) (lv2 := [(0, _), (1, _), (2, _), (3, _), (4, _), (5, _), (6, _), (8, _), (9, _), (10, _), (11, _), (12, _)]) dL_law_581 (Nat.le_of_ble_eq_true rfl) rfl ?_
    refine ww_aload_n (i := 1) dL_law_583 rfl rfl ?_
    refine ww_iload (i := 8) dL_law_584 rfl ?_
    refine ww_iconst (v := 2) dL_law_586 (by decide) ?_
    refine ww_callV (κ := 7) (r := (RX6, TX6, 4)) wk_L_22 dL_law_587 (hm1) rfl rfl (show ww_is _ _ 7 from hx).1 (show ww_is _ _ 7 from hx).2 rfl rfl (by omega) (by omega) (by omega) (by first | exact Nat.le_of_ble_eq_true rfl | (simp [ww_rf_cat, Value.category])) rfl (fun E M9 h9 => h9.elim) (fun v9 M9 h9 => ?_)
    obtain ⟨rfl, rfl⟩ := h9
    refine ww_aload_n (i := 1) dL_law_590 rfl rfl ?_
    refine ww_iload (i := 11) dL_law_591 rfl ?_
    refine ww_iconst (v := 2) dL_law_593 (by decide) ?_
    refine ww_callV (κ := 7) (r := (RX6, TX6, 4)) wk_L_22 dL_law_594 (hm2) rfl rfl (show ww_is _ _ 7 from hx).1 (show ww_is _ _ 7 from hx).2 rfl rfl (by omega) (by omega) (by omega) (by first | exact Nat.le_of_ble_eq_true rfl | (simp [ww_rf_cat, Value.category])) rfl (fun E M9 h9 => h9.elim) (fun v9 M9 h9 => ?_)
    obtain ⟨rfl, rfl⟩ := h9
    refine ww_isub dL_law_597 ?_
    refine ww_istore (i := 13) (lv2 := [(0, _), (1, _), (2, _), (3, _), (4, _), (5, _), (6, _), (8, _), (9, _), (10, _), (11, _), (12, _), (13, _)]) dL_law_598 (Nat.le_of_ble_eq_true rfl) rfl ?_
    refine ww_iload (i := 9) dL_law_600 rfl ?_
    refine ww_iconst (v := (-1)) dL_law_602 (by decide) ?_
    refine ww_icmp_ne_f (tgt := 658) dL_law_603 (by decide) c1 ?_
    refine ww_aload_n (i := 1) dL_law_606 rfl rfl ?_
    refine ww_iload (i := 8) dL_law_607 rfl ?_
    refine ww_bipush (v := 6) dL_law_609 (by decide) ?_
    refine ww_callV (κ := 7) (r := (RX6, TX6, 4)) wk_L_22 dL_law_611 (hq) rfl rfl (show ww_is _ _ 7 from hx).1 (show ww_is _ _ 7 from hx).2 rfl rfl (by omega) (by omega) (by omega) (by first | exact Nat.le_of_ble_eq_true rfl | (simp [ww_rf_cat, Value.category])) rfl (fun E M9 h9 => h9.elim) (fun v9 M9 h9 => ?_)
    obtain ⟨rfl, rfl⟩ := h9
    refine ww_if_ne_f (tgt := 658) dL_law_614 (by decide) c2 ?_
    refine ww_aload_n (i := 1) dL_law_617 rfl rfl ?_
    refine ww_iload (i := 11) dL_law_618 rfl ?_
    refine ww_callV (κ := 7) (r := (RX6, TX6, 4)) wk_L_18 dL_law_620 (hht) rfl rfl (show ww_is _ _ 7 from hx).1 (show ww_is _ _ 7 from hx).2 rfl rfl (by omega) (by omega) (by omega) (by first | exact Nat.le_of_ble_eq_true rfl | (simp [ww_rf_cat, Value.category])) rfl (fun E M9 h9 => h9.elim) (fun v9 M9 h9 => ?_)
    obtain ⟨rfl, rfl⟩ := h9
    refine ww_bipush (v := (-2)) dL_law_623 (by decide) ?_
    refine ww_icmp_eq_f (tgt := 658) dL_law_625 (by decide) c3 ?_
    refine ww_aload_n (i := 1) dL_law_628 rfl rfl ?_
    refine ww_aload_n (i := 1) dL_law_629 rfl rfl ?_
    refine ww_iload (i := 11) dL_law_630 rfl ?_
    refine ww_callV (κ := 7) (r := (RX6, TX6, 4)) wk_L_46 dL_law_632 (hhd) rfl rfl (show ww_is _ _ 7 from hx).1 (show ww_is _ _ 7 from hx).2 rfl rfl (by omega) (by omega) (by omega) (by first | exact Nat.le_of_ble_eq_true rfl | (simp [ww_rf_cat, Value.category])) rfl (fun E M9 h9 => h9.elim) (fun v9 M9 h9 => ?_)
    obtain ⟨rfl, rfl⟩ := h9
    refine ww_callS wk_L_49 rfl dL_law_635 (hst) rfl rfl (by omega) (by omega) (by omega) (by first | exact Nat.le_of_ble_eq_true rfl | (simp [ww_rf_cat, Value.category])) rfl (fun E M9 h9 => h9.elim) (fun v9 M9 h9 => ?_)
    obtain ⟨rfl, rfl⟩ := h9
    refine ww_if_ne_f (tgt := 658) dL_law_638 (by decide) c4 ?_
    refine ww_iload (i := 13) dL_law_641 rfl ?_
    refine ww_iconst (v := 2) dL_law_643 (by decide) ?_
    refine ww_icmp_ge_f (tgt := 658) dL_law_644 (by decide) c5 ?_
    refine ww_iload (i := 13) dL_law_647 rfl ?_
    refine ww_bipush (v := (-2)) dL_law_649 (by decide) ?_
    refine ww_icmp_le_t (tgt := 658) dL_law_651 (by decide) c6 ?_
    refine ww_iconst (v := 0) dL_law_658 (by decide) ?_
    -- at 659, locals [0, 1, 2, 3, 4, 5, 6, 8, 9, 10, 11, 12, 13]
    exact law_b5c h hL hb hp hd hkc hks kk ht
  refine ww_iload (i := 6) dL_law_562 rfl ?_
  refine ww_bipush (v := 9) dL_law_564 (by decide) ?_
  refine ww_ishr dL_law_566 ?_
  refine ww_bipush (v := 23) dL_law_567 (by decide) ?_
  refine ww_callS wk_L_43 rfl dL_law_569 (hlo) rfl rfl (by omega) (by omega) (by omega) (by first | exact Nat.le_of_ble_eq_true rfl | (simp [ww_rf_cat, Value.category])) rfl (fun E M9 h9 => h9.elim) (fun v9 M9 h9 => ?_)
  obtain ⟨rfl, rfl⟩ := h9
  refine ww_istore (i := 11) (lv2 := [(0, _), (1, _), (2, _), (3, _), (4, _), (5, _), (6, _), (8, _), (9, _), (10, _), (11, _)]) dL_law_572 (Nat.le_of_ble_eq_true rfl) rfl ?_
  refine ww_aload_n (i := 1) dL_law_574 rfl rfl ?_
  refine ww_iload (i := 8) dL_law_575 rfl ?_
  refine ww_iconst (v := 0) dL_law_577 (by decide) ?_
  refine ww_callV (κ := 7) (r := (RX6, TX6, 4)) wk_L_22 dL_law_578 (hk) rfl rfl (show ww_is _ _ 7 from hx).1 (show ww_is _ _ 7 from hx).2 rfl rfl (by omega) (by omega) (by omega) (by first | exact Nat.le_of_ble_eq_true rfl | (simp [ww_rf_cat, Value.category])) rfl (fun E M9 h9 => h9.elim) (fun v9 M9 h9 => ?_)
  obtain ⟨rfl, rfl⟩ := h9
  refine ww_istore (i := 12) (lv2 := [(0, _), (1, _), (2, _), (3, _), (4, _), (5, _), (6, _), (8, _), (9, _), (10, _), (11, _), (12, _)]) dL_law_581 (Nat.le_of_ble_eq_true rfl) rfl ?_
  refine ww_aload_n (i := 1) dL_law_583 rfl rfl ?_
  refine ww_iload (i := 8) dL_law_584 rfl ?_
  refine ww_iconst (v := 2) dL_law_586 (by decide) ?_
  refine ww_callV (κ := 7) (r := (RX6, TX6, 4)) wk_L_22 dL_law_587 (hm1) rfl rfl (show ww_is _ _ 7 from hx).1 (show ww_is _ _ 7 from hx).2 rfl rfl (by omega) (by omega) (by omega) (by first | exact Nat.le_of_ble_eq_true rfl | (simp [ww_rf_cat, Value.category])) rfl (fun E M9 h9 => h9.elim) (fun v9 M9 h9 => ?_)
  obtain ⟨rfl, rfl⟩ := h9
  refine ww_aload_n (i := 1) dL_law_590 rfl rfl ?_
  refine ww_iload (i := 11) dL_law_591 rfl ?_
  refine ww_iconst (v := 2) dL_law_593 (by decide) ?_
  refine ww_callV (κ := 7) (r := (RX6, TX6, 4)) wk_L_22 dL_law_594 (hm2) rfl rfl (show ww_is _ _ 7 from hx).1 (show ww_is _ _ 7 from hx).2 rfl rfl (by omega) (by omega) (by omega) (by first | exact Nat.le_of_ble_eq_true rfl | (simp [ww_rf_cat, Value.category])) rfl (fun E M9 h9 => h9.elim) (fun v9 M9 h9 => ?_)
  obtain ⟨rfl, rfl⟩ := h9
  refine ww_isub dL_law_597 ?_
  refine ww_istore (i := 13) (lv2 := [(0, _), (1, _), (2, _), (3, _), (4, _), (5, _), (6, _), (8, _), (9, _), (10, _), (11, _), (12, _), (13, _)]) dL_law_598 (Nat.le_of_ble_eq_true rfl) rfl ?_
  refine ww_iload (i := 9) dL_law_600 rfl ?_
  refine ww_iconst (v := (-1)) dL_law_602 (by decide) ?_
  refine ww_icmp_ne_f (tgt := 658) dL_law_603 (by decide) c1 ?_
  refine ww_aload_n (i := 1) dL_law_606 rfl rfl ?_
  refine ww_iload (i := 8) dL_law_607 rfl ?_
  refine ww_bipush (v := 6) dL_law_609 (by decide) ?_
  refine ww_callV (κ := 7) (r := (RX6, TX6, 4)) wk_L_22 dL_law_611 (hq) rfl rfl (show ww_is _ _ 7 from hx).1 (show ww_is _ _ 7 from hx).2 rfl rfl (by omega) (by omega) (by omega) (by first | exact Nat.le_of_ble_eq_true rfl | (simp [ww_rf_cat, Value.category])) rfl (fun E M9 h9 => h9.elim) (fun v9 M9 h9 => ?_)
  obtain ⟨rfl, rfl⟩ := h9
  refine ww_if_ne_f (tgt := 658) dL_law_614 (by decide) c2 ?_
  refine ww_aload_n (i := 1) dL_law_617 rfl rfl ?_
  refine ww_iload (i := 11) dL_law_618 rfl ?_
  refine ww_callV (κ := 7) (r := (RX6, TX6, 4)) wk_L_18 dL_law_620 (hht) rfl rfl (show ww_is _ _ 7 from hx).1 (show ww_is _ _ 7 from hx).2 rfl rfl (by omega) (by omega) (by omega) (by first | exact Nat.le_of_ble_eq_true rfl | (simp [ww_rf_cat, Value.category])) rfl (fun E M9 h9 => h9.elim) (fun v9 M9 h9 => ?_)
  obtain ⟨rfl, rfl⟩ := h9
  refine ww_bipush (v := (-2)) dL_law_623 (by decide) ?_
  refine ww_icmp_eq_f (tgt := 658) dL_law_625 (by decide) c3 ?_
  refine ww_aload_n (i := 1) dL_law_628 rfl rfl ?_
  refine ww_aload_n (i := 1) dL_law_629 rfl rfl ?_
  refine ww_iload (i := 11) dL_law_630 rfl ?_
  refine ww_callV (κ := 7) (r := (RX6, TX6, 4)) wk_L_46 dL_law_632 (hhd) rfl rfl (show ww_is _ _ 7 from hx).1 (show ww_is _ _ 7 from hx).2 rfl rfl (by omega) (by omega) (by omega) (by first | exact Nat.le_of_ble_eq_true rfl | (simp [ww_rf_cat, Value.category])) rfl (fun E M9 h9 => h9.elim) (fun v9 M9 h9 => ?_)
  obtain ⟨rfl, rfl⟩ := h9
  refine ww_callS wk_L_49 rfl dL_law_635 (hst) rfl rfl (by omega) (by omega) (by omega) (by first | exact Nat.le_of_ble_eq_true rfl | (simp [ww_rf_cat, Value.category])) rfl (fun E M9 h9 => h9.elim) (fun v9 M9 h9 => ?_)
  obtain ⟨rfl, rfl⟩ := h9
  refine ww_if_ne_f (tgt := 658) dL_law_638 (by decide) c4 ?_
  refine ww_iload (i := 13) dL_law_641 rfl ?_
  refine ww_iconst (v := 2) dL_law_643 (by decide) ?_
  refine ww_icmp_ge_f (tgt := 658) dL_law_644 (by decide) c5 ?_
  refine ww_iload (i := 13) dL_law_647 rfl ?_
  refine ww_bipush (v := (-2)) dL_law_649 (by decide) ?_
  refine ww_icmp_le_f (tgt := 658) dL_law_651 (by decide) c6 ?_
  refine ww_iconst (v := 1) dL_law_654 (by decide) ?_
  refine ww_goto (tgt := 659) dL_law_655 (by decide) ?_
  -- at 659, locals [0, 1, 2, 3, 4, 5, 6, 8, 9, 10, 11, 12, 13]
  exact law_b5b h hL hb hp hd hkc hks kk ht c1 c2 c3 c4 c5 c6
end WWN2
