section WWA6
variable {g : ww_G} {M M1 M' : ww_M} {c ea P W kl f z D : Nat → Nat} {E : Nat → Nat → Int32} {n u w m : Nat} {S S1 : Nat → Nat → Int32} {v : Int32}
/-! take -/
set_option maxRecDepth 20000 in
theorem c_take_1 (hr : ww_rc g M c ea P W kl f z D E n u w m S) {p : Int32} (hc : q_noP n p) : ww_C g wy_X6_take 8 1 6 [.ref (c 0), .int p] M ww_nr (ww_th "java/lang/IndexOutOfBoundsException" M) := by
  refine ww_ent (by decide +kernel) (Nat.le_of_ble_eq_true rfl) ⟨rfl, rfl, trivial⟩ ?_
  have hw := ww_cp_wo hr.1
  refine ww_aload_n (i := 0) dX6_take_0 rfl rfl ?_
  refine ww_iload_n (i := 1) dX6_take_1 rfl rfl ?_
  refine ww_callV (κ := 7) (r := (RX6, TX6, 4)) wk_X6_83 dX6_take_2 (c_existing_x hw hc) rfl rfl (show ww_is _ _ 7 from hw.1).1 (show ww_is _ _ 7 from hw.1).2 rfl rfl (by omega) (by omega) (by omega) (by first | exact Nat.le_of_ble_eq_true rfl | (simp [ww_rf_cat, Value.category])) rfl (fun E M9 h9 => h9) (fun v9 M9 h9 => ?_)
  exact h9.elim
  -- at 5, locals [0, 1]
set_option maxRecDepth 20000 in
theorem c_take_2 (hr : ww_rc g M c ea P W kl f z D E n u w m S) (hG : q_G S n) {p : Nat} (hp : p < n) (hc : ¬ q_takeS S p) : ww_C g wy_X6_take 8 1 6 [.ref (c 0), .int (nI p)] M ww_nr (ww_th "java/lang/IllegalStateException" M) := by
  refine ww_ent (by decide +kernel) (Nat.le_of_ble_eq_true rfl) ⟨rfl, rfl, trivial⟩ ?_
  have hw := ww_cp_wo hr.1
  have hf := hr.1.2.1.1
  obtain ⟨⟨hi4, _⟩, _, _, hR, _⟩ := hf.1 p hp
  by_cases c1 : S 5 p < 0
  · rw [if_pos c1] at hR
    refine ww_aload_n (i := 0) dX6_take_0 rfl rfl ?_
    refine ww_iload_n (i := 1) dX6_take_1 rfl rfl ?_
    refine ww_callV (κ := 7) (r := (RX6, TX6, 4)) wk_X6_83 dX6_take_2 (c_existing hw hf hp) rfl rfl (show ww_is _ _ 7 from hw.1).1 (show ww_is _ _ 7 from hw.1).2 rfl rfl (by omega) (by omega) (by omega) (by first | exact Nat.le_of_ble_eq_true rfl | (simp [ww_rf_cat, Value.category])) rfl (fun E M9 h9 => h9.elim) (fun v9 M9 h9 => ?_)
    obtain ⟨rfl, rfl⟩ := h9
    first | refine ww_astore_n (i := 2) (lv2 := [(0, _), (1, _), (2, _)]) dX6_take_5 rfl (Nat.le_of_ble_eq_true rfl) rfl ?_ | refine ww_astore_nQ (i := 2) (lv2 := [(0, _), (1, _), (2, _)]) dX6_take_5 rfl (Nat.le_of_ble_eq_true rfl) rfl ?_
    refine ww_aload_n (i := 2) dX6_take_6 rfl rfl ?_
    refine ww_getN (f := 166) wf_X6_129 dX6_take_7 rfl rfl (show ww_is _ _ 4 from hi4).1 (show ww_is _ _ 4 from hi4).2 hR ?_
    -- at 10, locals [0, 1, 2]
    refine ww_astore_nQ (i := 3) (r := none) (lv2 := [(0, _), (1, _), (2, _), (3, _)]) dX6_take_10 rfl (Nat.le_of_ble_eq_true rfl) rfl ?_
    refine ww_aload_nQ (i := 3) (r := none) dX6_take_11 rfl rfl ?_
    refine ww_ifnull_t (tgt := 22) dX6_take_12 (by decide) ?_
    exact ww_throw wx_X6_56_147 dX6_take_22 dX6_take_25 dX6_take_26 dX6_take_28 dX6_take_31 rfl (Nat.le_of_ble_eq_true rfl) (by omega) (by omega) (by first | exact Nat.le_of_ble_eq_true rfl | (simp [ww_rf_cat, Value.category])) ⟨rfl, rfl⟩
  · have c2 : q_bound S p := Classical.not_not.mp fun y => hc ⟨c1, y⟩
    rw [if_neg c1] at hR
    refine ww_aload_n (i := 0) dX6_take_0 rfl rfl ?_
    refine ww_iload_n (i := 1) dX6_take_1 rfl rfl ?_
    refine ww_callV (κ := 7) (r := (RX6, TX6, 4)) wk_X6_83 dX6_take_2 (c_existing hw hf hp) rfl rfl (show ww_is _ _ 7 from hw.1).1 (show ww_is _ _ 7 from hw.1).2 rfl rfl (by omega) (by omega) (by omega) (by first | exact Nat.le_of_ble_eq_true rfl | (simp [ww_rf_cat, Value.category])) rfl (fun E M9 h9 => h9.elim) (fun v9 M9 h9 => ?_)
    obtain ⟨rfl, rfl⟩ := h9
    first | refine ww_astore_n (i := 2) (lv2 := [(0, _), (1, _), (2, _)]) dX6_take_5 rfl (Nat.le_of_ble_eq_true rfl) rfl ?_ | refine ww_astore_nQ (i := 2) (lv2 := [(0, _), (1, _), (2, _)]) dX6_take_5 rfl (Nat.le_of_ble_eq_true rfl) rfl ?_
    refine ww_aload_n (i := 2) dX6_take_6 rfl rfl ?_
    refine ww_getR (f := 166) wf_X6_129 dX6_take_7 rfl rfl (show ww_is _ _ 4 from hi4).1 (show ww_is _ _ 4 from hi4).2 hR ?_
    first | refine ww_astore_n (i := 3) (lv2 := [(0, _), (1, _), (2, _), (3, _)]) dX6_take_10 rfl (Nat.le_of_ble_eq_true rfl) rfl ?_ | refine ww_astore_nQ (i := 3) (lv2 := [(0, _), (1, _), (2, _), (3, _)]) dX6_take_10 rfl (Nat.le_of_ble_eq_true rfl) rfl ?_
    refine ww_aload_n (i := 3) dX6_take_11 rfl rfl ?_
    refine ww_ifnull_f dX6_take_12 ?_
    refine ww_aload_n (i := 2) dX6_take_15 rfl rfl ?_
    refine ww_callV (κ := 4) (r := (RX3, TX3, 18)) wk_X6_109 dX6_take_16 (p_bound_t hf hG hp c2) rfl rfl (show ww_is _ _ 4 from hi4).1 (show ww_is _ _ 4 from hi4).2 rfl rfl (by omega) (by omega) (by omega) (by first | exact Nat.le_of_ble_eq_true rfl | (simp [ww_rf_cat, Value.category])) rfl (fun E M9 h9 => h9.elim) (fun v9 M9 h9 => ?_)
    obtain ⟨rfl, rfl⟩ := h9
    refine ww_if_eq_f (tgt := 32) dX6_take_19 (by decide) (by decide) ?_
    exact ww_throw wx_X6_56_147 dX6_take_22 dX6_take_25 dX6_take_26 dX6_take_28 dX6_take_31 rfl (Nat.le_of_ble_eq_true rfl) (by omega) (by omega) (by first | exact Nat.le_of_ble_eq_true rfl | (simp [ww_rf_cat, Value.category])) ⟨rfl, rfl⟩
set_option maxRecDepth 20000 in
set_option maxHeartbeats 8000000 in
theorem c_take_0 (hr : ww_rc g M c ea P W kl f z D E n u w m S) (hG : q_G S n) (h5 : u < 512) (w0 : Nat) {p : Nat} (hp : p < n) (hc : q_takeS S p) : ww_C g wy_X6_take 10 2 1037 [.ref (c 0), .int (nI p)] M (ww_lQ g M c P W kl z D (q_eS E u (nI p) (-1) 0) n (u + 1) w m (some (.int (S 5 p))) (q_take S w0 p)) ww_no := by
  refine ww_ent (by decide +kernel) (Nat.le_of_ble_eq_true rfl) ⟨rfl, rfl, trivial⟩ ?_
  have hw := ww_cp_wo hr.1
  have hf := hr.1.2.1.1
  have h6 := hG.2.1
  obtain ⟨⟨hi4, _⟩, _, _, hR, _⟩ := hf.1 p hp
  obtain ⟨c1, c2⟩ := hc
  obtain ⟨q, hq, e, hl⟩ := (q_gh_cases hG.2.2.1 h6 hp).resolve_left c1
  rw [if_neg c1, e, nI_clamp (by omega)] at hR
  have ehd : q_hd (S 5) 5 q = q_hd (S 5) 5 p := by
    rw [q_hd_pos (f := 4) (p := p) e (by omega)]
    have := (q_gh_kd hG.2.2.1 hp).2
    have := (q_gh_kd hG.2.2.1 hq).2
    exact q_hd_stab hG.2.2.1 h6 5 4 q hq (by omega) (by omega)
  have hd := q_hd_lt hG.2.2.1 h6 5 p hp
  have htop := p_top (g := g) hf hG hq
  rw [ehd] at htop
  have ht4 := (hf.1 _ hd).1.1
  have hkp : ww_kp M (ww_sI M 175 (P (q_hd (S 5) 5 p)) 0) := ww_kp_I ww_kp_rf (by decide)
  obtain ⟨hr1, hck1⟩ := ww_kp_rc hr hkp (ww_pf_175 (v := 0) hf hd) rfl rfl
  have hf1 := hr1.1.2.1.1
  have f2 : ww_pf (ww_sR (ww_sI M 175 (P (q_hd (S 5) 5 p)) 0) 166 (P p) none) P W kl n (ww_u2 (ww_u2 S 11 (q_hd (S 5) 5 p) 0) 5 p (-1)) := ww_pf_166 hf1 hp (by
    show ¬ S 5 p = -2
    rw [e]
    exact fun y => absurd (show ¬ nI q < 0 from nI_pos (by omega)) (by rw [y]; decide)) (by decide) rfl
  have t2 : ww_ft (ww_sI M 175 (P (q_hd (S 5) 5 p)) 0) (ww_sR (ww_sI M 175 (P (q_hd (S 5) 5 p)) 0) 166 (P p) none) (ww_pk (ww_sI M 175 (P (q_hd (S 5) 5 p)) 0)) (fun _ => False) := ww_ft_sR ww_ft_rf (Or.inr (Or.inl hi4.2))
  have hr2 := ww_rc_up hr1 t2 f2 (fun _ _ => rfl) rfl rfl rfl
  have hR282 : ww_R (ww_sR (ww_sI M 175 (P (q_hd (S 5) 5 p)) 0) 166 (P p) none) 282 (c 0) = some (c 5) := hr2.2.1.1
  have hlg := hr2.2.1.2.1
  have hx2 : ww_is (ww_sR (ww_sI M 175 (P (q_hd (S 5) 5 p)) 0) 166 (P p) none).1 (c 0) 7 := hr2.1.1.1
  have hh4 := (hf.1 q hq).1.1
  refine ww_aload_n (i := 0) dX6_take_0 rfl rfl ?_
  refine ww_iload_n (i := 1) dX6_take_1 rfl rfl ?_
  refine ww_callV (κ := 7) (r := (RX6, TX6, 4)) wk_X6_83 dX6_take_2 (c_existing hw hf hp) rfl rfl (show ww_is _ _ 7 from hw.1).1 (show ww_is _ _ 7 from hw.1).2 rfl rfl (by omega) (by omega) (by omega) (by first | exact Nat.le_of_ble_eq_true rfl | (simp [ww_rf_cat, Value.category])) rfl (fun E M9 h9 => h9.elim) (fun v9 M9 h9 => ?_)
  obtain ⟨rfl, rfl⟩ := h9
  first | refine ww_astore_n (i := 2) (lv2 := [(0, _), (1, _), (2, _)]) dX6_take_5 rfl (Nat.le_of_ble_eq_true rfl) rfl ?_ | refine ww_astore_nQ (i := 2) (lv2 := [(0, _), (1, _), (2, _)]) dX6_take_5 rfl (Nat.le_of_ble_eq_true rfl) rfl ?_
  refine ww_aload_n (i := 2) dX6_take_6 rfl rfl ?_
  refine ww_getR (f := 166) wf_X6_129 dX6_take_7 rfl rfl (show ww_is _ _ 4 from hi4).1 (show ww_is _ _ 4 from hi4).2 hR ?_
  first | refine ww_astore_n (i := 3) (lv2 := [(0, _), (1, _), (2, _), (3, _)]) dX6_take_10 rfl (Nat.le_of_ble_eq_true rfl) rfl ?_ | refine ww_astore_nQ (i := 3) (lv2 := [(0, _), (1, _), (2, _), (3, _)]) dX6_take_10 rfl (Nat.le_of_ble_eq_true rfl) rfl ?_
  refine ww_aload_n (i := 3) dX6_take_11 rfl rfl ?_
  refine ww_ifnull_f dX6_take_12 ?_
  refine ww_aload_n (i := 2) dX6_take_15 rfl rfl ?_
  refine ww_callV (κ := 4) (r := (RX3, TX3, 18)) wk_X6_109 dX6_take_16 (p_bound_f hf hG hp c2) rfl rfl (show ww_is _ _ 4 from hi4).1 (show ww_is _ _ 4 from hi4).2 rfl rfl (by omega) (by omega) (by omega) (by first | exact Nat.le_of_ble_eq_true rfl | (simp [ww_rf_cat, Value.category])) rfl (fun E M9 h9 => h9.elim) (fun v9 M9 h9 => ?_)
  obtain ⟨rfl, rfl⟩ := h9
  refine ww_if_eq_t (tgt := 32) dX6_take_19 (by decide) (by decide) ?_
  refine ww_aload_n (i := 3) dX6_take_32 rfl rfl ?_
  refine ww_callV (κ := 4) (r := (RX3, TX3, 18)) wk_X6_137 dX6_take_33 (htop) rfl rfl (show ww_is _ _ 4 from hh4).1 (show ww_is _ _ 4 from hh4).2 rfl rfl (by omega) (by omega) (by omega) (by first | exact Nat.le_of_ble_eq_true rfl | (simp [ww_rf_cat, Value.category])) rfl (fun E M9 h9 => h9.elim) (fun v9 M9 h9 => ?_)
  obtain ⟨rfl, rfl⟩ := h9
  refine ww_iconst (v := 0) dX6_take_36 (by decide) ?_
  refine ww_putI (f := 175) wf_X6_141 wt_4_15 dX6_take_37 rfl rfl (show ww_is _ _ 4 from ht4).1 (show ww_is _ _ 4 from ht4).2 (by first | rfl | exact ww_b_nar) (by first | rfl | exact ww_b_fit) ?_
  -- at 40, locals [0, 1, 2, 3]
  refine ww_aload_n (i := 2) dX6_take_40 rfl rfl ?_
  refine ww_null dX6_take_41 ?_
  refine ww_putQ (f := 166) wf_X6_129 wt_4_6 dX6_take_42 rfl rfl (show ww_is _ _ 4 from hi4).1 (show ww_is _ _ 4 from hi4).2 (r := none) rfl rfl rfl ?_
  refine ww_aload_n (i := 0) dX6_take_45 rfl rfl ?_
  refine ww_getR (f := 282) wf_X6_25 dX6_take_46 rfl rfl (show ww_is _ _ 7 from hx2).1 (show ww_is _ _ 7 from hx2).2 hR282 ?_
  refine ww_iload_n (i := 1) dX6_take_49 rfl rfl ?_
  refine ww_iconst (v := (-1)) dX6_take_50 (by decide) ?_
  refine ww_callV (κ := 3) (r := (RX2, TX2, 2)) wk_X6_133 dX6_take_51 (c_addMove hr2.2.1.2 h5 (nI p) (-1)) rfl rfl (show ww_is _ _ 3 from hlg).1 (show ww_is _ _ 3 from hlg).2 rfl rfl (by omega) (by omega) (by omega) (by first | exact Nat.le_of_ble_eq_true rfl | (simp [ww_rf_cat, Value.category])) rfl (fun E M9 h9 => h9.elim) (fun v9 M9 h9 => ?_)
  skip
  -- at 54, locals [0, 1, 2, 3]
  refine ww_geL (fun hge => ?_)
  obtain ⟨ea', f', hr3, hck3, _⟩ := ww_rc_log hr2 h9 hge
  obtain ⟨rfl, _⟩ := h9
  have hf3 := hr3.1.2.1.1
  have hh43 := (hf3.1 q hq).1.1
  have hnum := (hf3.1 q hq).1.2.1
  have hfin : ww_rc g M9 c ea' P W kl f' z D (q_eS E u (nI p) (-1) 0) n (u + 1) w m (q_take S w0 p) := ww_rc_us hr3 (fun k hk => (q_moves_us hk).trans (ww_u2_k (ww_u2_k (q_us_use hk rfl))))
  have hck : ww_ck c M M9 := ww_ck_tr (ww_ck_tr hck1 (ww_ck_pk t2)) hck3
  rw [e, ← hnum]
  refine ww_aload_n (i := 3) dX6_take_54 rfl rfl ?_
  refine ww_getI (f := 160) wf_X6_149 dX6_take_55 rfl rfl (show ww_is _ _ 4 from hh43).1 (show ww_is _ _ 4 from hh43).2 ?_
  exact ww_ireturn dX6_take_58 rfl (by first | rfl | exact ww_b_nar) ⟨rfl, ea', f', hfin, hck⟩
/-! scrap -/
theorem q_wait_P (h : ww_pf M P W kl n S) (hW : q_W S n w) (h6 : n ≤ 60) {p : Nat} (hp : p < n) : q_any (fun j => P (q_wq S j) = P p) w ↔ q_wait S w (nI p) := by
  constructor
  · rintro ⟨j, hj, e⟩
    obtain ⟨k1, k2⟩ := hW.2.2 j hj
    exact ⟨j, hj, by show S 27 j = nI p; rw [k2, h.2.2 _ _ k1 hp e]⟩
  · rintro ⟨j, hj, e⟩
    have e : S 27 j = nI p := e
    obtain ⟨k1, k2⟩ := hW.2.2 j hj
    rw [k2] at e
    exact ⟨j, hj, by show P (q_wq S j) = P p; rw [(nI_eq (by omega) (by omega)).mp e]⟩
theorem p_wait_t (hr : ww_rc g M c ea P W kl f z D E n u w m S) (hW : q_W S n w) {p : Nat} (hp : p < n) (h : q_wait S w (nI p)) : ww_C g wy_X5_isWaiting 4 0 0 [.ref (c 6), .ref (P p)] M (ww_ret (some (.int 1)) M) ww_no := by
  have e := c_isWaiting (g := g) (a := P p) hr.2.2.1.1.2
  rw [ww_b_t ((q_wait_P hr.1.2.1.1 hW hr.1.1.2.2.2 hp).mpr h)] at e
  exact e
theorem p_wait_f (hr : ww_rc g M c ea P W kl f z D E n u w m S) (hW : q_W S n w) {p : Nat} (hp : p < n) (h : ¬ q_wait S w (nI p)) : ww_C g wy_X5_isWaiting 4 0 0 [.ref (c 6), .ref (P p)] M (ww_ret (some (.int 0)) M) ww_no := by
  have e := c_isWaiting (g := g) (a := P p) hr.2.2.1.1.2
  rw [ww_b_f (fun y => h ((q_wait_P hr.1.2.1.1 hW hr.1.1.2.2.2 hp).mp y))] at e
  exact e
set_option maxRecDepth 20000 in
theorem c_scrap_1 (hr : ww_rc g M c ea P W kl f z D E n u w m S) {p : Int32} (hc : q_noP n p) : ww_C g wy_X6_scrap 8 1 6 [.ref (c 0), .int p] M ww_nr (ww_th "java/lang/IndexOutOfBoundsException" M) := by
  refine ww_ent (by decide +kernel) (Nat.le_of_ble_eq_true rfl) ⟨rfl, rfl, trivial⟩ ?_
  have hw := ww_cp_wo hr.1
  refine ww_aload_n (i := 0) dX6_scrap_0 rfl rfl ?_
  refine ww_iload_n (i := 1) dX6_scrap_1 rfl rfl ?_
  refine ww_callV (κ := 7) (r := (RX6, TX6, 4)) wk_X6_83 dX6_scrap_2 (c_existing_x hw hc) rfl rfl (show ww_is _ _ 7 from hw.1).1 (show ww_is _ _ 7 from hw.1).2 rfl rfl (by omega) (by omega) (by omega) (by first | exact Nat.le_of_ble_eq_true rfl | (simp [ww_rf_cat, Value.category])) rfl (fun E M9 h9 => h9) (fun v9 M9 h9 => ?_)
  exact h9.elim
  -- at 5, locals [0, 1]
set_option maxRecDepth 20000 in
set_option maxHeartbeats 4000000 in
theorem c_scrap_2 (hr : ww_rc g M c ea P W kl f z D E n u w m S) (hG : q_G S n) (hW : q_W S n w) {p : Nat} (hp : p < n) (hc : ¬ q_scrapS S n w p) : ww_C g wy_X6_scrap 8 1 6 [.ref (c 0), .int (nI p)] M ww_nr (ww_th "java/lang/IllegalStateException" M) := by
  refine ww_ent (by decide +kernel) (Nat.le_of_ble_eq_true rfl) ⟨rfl, rfl, trivial⟩ ?_
  have hw := ww_cp_wo hr.1
  have hf := hr.1.2.1.1
  have h6 := hG.2.1
  have hi4 := (hf.1 p hp).1.1
  have hy := hr.2.2.1.1.2.1
  have hin := p_inside2 (g := g) hw hf hG hp
  have hle : q_in S n (nI p) ≤ n := q_cnt_le _ n
  by_cases c1 : S 5 p = -1
  · by_cases c2 : q_in S n (nI p) = 0
    · by_cases c3 : q_bound S p
      · refine ww_aload_n (i := 0) dX6_scrap_0 rfl rfl ?_
        refine ww_iload_n (i := 1) dX6_scrap_1 rfl rfl ?_
        refine ww_callV (κ := 7) (r := (RX6, TX6, 4)) wk_X6_83 dX6_scrap_2 (c_existing hw hf hp) rfl rfl (show ww_is _ _ 7 from hw.1).1 (show ww_is _ _ 7 from hw.1).2 rfl rfl (by omega) (by omega) (by omega) (by first | exact Nat.le_of_ble_eq_true rfl | (simp [ww_rf_cat, Value.category])) rfl (fun E M9 h9 => h9.elim) (fun v9 M9 h9 => ?_)
        obtain ⟨rfl, rfl⟩ := h9
        first | refine ww_astore_n (i := 2) (lv2 := [(0, _), (1, _), (2, _)]) dX6_scrap_5 rfl (Nat.le_of_ble_eq_true rfl) rfl ?_ | refine ww_astore_nQ (i := 2) (lv2 := [(0, _), (1, _), (2, _)]) dX6_scrap_5 rfl (Nat.le_of_ble_eq_true rfl) rfl ?_
        refine ww_aload_n (i := 2) dX6_scrap_6 rfl rfl ?_
        refine ww_callV (κ := 4) (r := (RX3, TX3, 18)) wk_X6_96 dX6_scrap_7 (p_store_t hf hG hp c1) rfl rfl (show ww_is _ _ 4 from hi4).1 (show ww_is _ _ 4 from hi4).2 rfl rfl (by omega) (by omega) (by omega) (by first | exact Nat.le_of_ble_eq_true rfl | (simp [ww_rf_cat, Value.category])) rfl (fun E M9 h9 => h9.elim) (fun v9 M9 h9 => ?_)
        obtain ⟨rfl, rfl⟩ := h9
        refine ww_if_eq_f (tgt := 21) dX6_scrap_10 (by decide) (by decide) ?_
        refine ww_aload_n (i := 0) dX6_scrap_13 rfl rfl ?_
        refine ww_aload_n (i := 2) dX6_scrap_14 rfl rfl ?_
        refine ww_callV (κ := 7) (r := (RX6, TX6, 4)) wk_X6_144 dX6_scrap_15 (hin) rfl rfl (show ww_is _ _ 7 from hw.1).1 (show ww_is _ _ 7 from hw.1).2 rfl rfl (by omega) (by omega) (by omega) (by first | exact Nat.le_of_ble_eq_true rfl | (simp [ww_rf_cat, Value.category])) rfl (fun E M9 h9 => h9.elim) (fun v9 M9 h9 => ?_)
        obtain ⟨rfl, rfl⟩ := h9
        refine ww_if_le_t (tgt := 31) dX6_scrap_18 (by decide) (by rw [c2]; decide) ?_
        refine ww_aload_n (i := 2) dX6_scrap_31 rfl rfl ?_
        refine ww_callV (κ := 4) (r := (RX3, TX3, 18)) wk_X6_109 dX6_scrap_32 (p_bound_t hf hG hp c3) rfl rfl (show ww_is _ _ 4 from hi4).1 (show ww_is _ _ 4 from hi4).2 rfl rfl (by omega) (by omega) (by omega) (by first | exact Nat.le_of_ble_eq_true rfl | (simp [ww_rf_cat, Value.category])) rfl (fun E M9 h9 => h9.elim) (fun v9 M9 h9 => ?_)
        obtain ⟨rfl, rfl⟩ := h9
        refine ww_if_ne_t (tgt := 49) dX6_scrap_35 (by decide) (by decide) ?_
        exact ww_throw wx_X6_56_158 dX6_scrap_49 dX6_scrap_52 dX6_scrap_53 dX6_scrap_55 dX6_scrap_58 rfl (Nat.le_of_ble_eq_true rfl) (by omega) (by omega) (by first | exact Nat.le_of_ble_eq_true rfl | (simp [ww_rf_cat, Value.category])) ⟨rfl, rfl⟩
      · have c4 : q_wait S w (nI p) := Classical.not_not.mp fun y => hc ⟨c1, c2, c3, y⟩
        refine ww_aload_n (i := 0) dX6_scrap_0 rfl rfl ?_
        refine ww_iload_n (i := 1) dX6_scrap_1 rfl rfl ?_
        refine ww_callV (κ := 7) (r := (RX6, TX6, 4)) wk_X6_83 dX6_scrap_2 (c_existing hw hf hp) rfl rfl (show ww_is _ _ 7 from hw.1).1 (show ww_is _ _ 7 from hw.1).2 rfl rfl (by omega) (by omega) (by omega) (by first | exact Nat.le_of_ble_eq_true rfl | (simp [ww_rf_cat, Value.category])) rfl (fun E M9 h9 => h9.elim) (fun v9 M9 h9 => ?_)
        obtain ⟨rfl, rfl⟩ := h9
        first | refine ww_astore_n (i := 2) (lv2 := [(0, _), (1, _), (2, _)]) dX6_scrap_5 rfl (Nat.le_of_ble_eq_true rfl) rfl ?_ | refine ww_astore_nQ (i := 2) (lv2 := [(0, _), (1, _), (2, _)]) dX6_scrap_5 rfl (Nat.le_of_ble_eq_true rfl) rfl ?_
        refine ww_aload_n (i := 2) dX6_scrap_6 rfl rfl ?_
        refine ww_callV (κ := 4) (r := (RX3, TX3, 18)) wk_X6_96 dX6_scrap_7 (p_store_t hf hG hp c1) rfl rfl (show ww_is _ _ 4 from hi4).1 (show ww_is _ _ 4 from hi4).2 rfl rfl (by omega) (by omega) (by omega) (by first | exact Nat.le_of_ble_eq_true rfl | (simp [ww_rf_cat, Value.category])) rfl (fun E M9 h9 => h9.elim) (fun v9 M9 h9 => ?_)
        obtain ⟨rfl, rfl⟩ := h9
        refine ww_if_eq_f (tgt := 21) dX6_scrap_10 (by decide) (by decide) ?_
        refine ww_aload_n (i := 0) dX6_scrap_13 rfl rfl ?_
        refine ww_aload_n (i := 2) dX6_scrap_14 rfl rfl ?_
        refine ww_callV (κ := 7) (r := (RX6, TX6, 4)) wk_X6_144 dX6_scrap_15 (hin) rfl rfl (show ww_is _ _ 7 from hw.1).1 (show ww_is _ _ 7 from hw.1).2 rfl rfl (by omega) (by omega) (by omega) (by first | exact Nat.le_of_ble_eq_true rfl | (simp [ww_rf_cat, Value.category])) rfl (fun E M9 h9 => h9.elim) (fun v9 M9 h9 => ?_)
        obtain ⟨rfl, rfl⟩ := h9
        refine ww_if_le_t (tgt := 31) dX6_scrap_18 (by decide) (by rw [c2]; decide) ?_
        refine ww_aload_n (i := 2) dX6_scrap_31 rfl rfl ?_
        refine ww_callV (κ := 4) (r := (RX3, TX3, 18)) wk_X6_109 dX6_scrap_32 (p_bound_f hf hG hp c3) rfl rfl (show ww_is _ _ 4 from hi4).1 (show ww_is _ _ 4 from hi4).2 rfl rfl (by omega) (by omega) (by omega) (by first | exact Nat.le_of_ble_eq_true rfl | (simp [ww_rf_cat, Value.category])) rfl (fun E M9 h9 => h9.elim) (fun v9 M9 h9 => ?_)
        obtain ⟨rfl, rfl⟩ := h9
        refine ww_if_ne_f (tgt := 49) dX6_scrap_35 (by decide) (by decide) ?_
        refine ww_aload_n (i := 0) dX6_scrap_38 rfl rfl ?_
        refine ww_getR (f := 283) wf_X6_32 dX6_scrap_39 rfl rfl (show ww_is _ _ 7 from hw.1).1 (show ww_is _ _ 7 from hw.1).2 hr.2.2.1.1.1 ?_
        refine ww_aload_n (i := 2) dX6_scrap_42 rfl rfl ?_
        refine ww_callV (κ := 6) (r := (RX5, TX5, 5)) wk_X6_154 dX6_scrap_43 (p_wait_t hr hW hp c4) rfl rfl (show ww_is _ _ 6 from hy).1 (show ww_is _ _ 6 from hy).2 rfl rfl (by omega) (by omega) (by omega) (by first | exact Nat.le_of_ble_eq_true rfl | (simp [ww_rf_cat, Value.category])) rfl (fun E M9 h9 => h9.elim) (fun v9 M9 h9 => ?_)
        obtain ⟨rfl, rfl⟩ := h9
        refine ww_if_eq_f (tgt := 59) dX6_scrap_46 (by decide) (by decide) ?_
        exact ww_throw wx_X6_56_158 dX6_scrap_49 dX6_scrap_52 dX6_scrap_53 dX6_scrap_55 dX6_scrap_58 rfl (Nat.le_of_ble_eq_true rfl) (by omega) (by omega) (by first | exact Nat.le_of_ble_eq_true rfl | (simp [ww_rf_cat, Value.category])) ⟨rfl, rfl⟩
    · refine ww_aload_n (i := 0) dX6_scrap_0 rfl rfl ?_
      refine ww_iload_n (i := 1) dX6_scrap_1 rfl rfl ?_
      refine ww_callV (κ := 7) (r := (RX6, TX6, 4)) wk_X6_83 dX6_scrap_2 (c_existing hw hf hp) rfl rfl (show ww_is _ _ 7 from hw.1).1 (show ww_is _ _ 7 from hw.1).2 rfl rfl (by omega) (by omega) (by omega) (by first | exact Nat.le_of_ble_eq_true rfl | (simp [ww_rf_cat, Value.category])) rfl (fun E M9 h9 => h9.elim) (fun v9 M9 h9 => ?_)
      obtain ⟨rfl, rfl⟩ := h9
      first | refine ww_astore_n (i := 2) (lv2 := [(0, _), (1, _), (2, _)]) dX6_scrap_5 rfl (Nat.le_of_ble_eq_true rfl) rfl ?_ | refine ww_astore_nQ (i := 2) (lv2 := [(0, _), (1, _), (2, _)]) dX6_scrap_5 rfl (Nat.le_of_ble_eq_true rfl) rfl ?_
      refine ww_aload_n (i := 2) dX6_scrap_6 rfl rfl ?_
      refine ww_callV (κ := 4) (r := (RX3, TX3, 18)) wk_X6_96 dX6_scrap_7 (p_store_t hf hG hp c1) rfl rfl (show ww_is _ _ 4 from hi4).1 (show ww_is _ _ 4 from hi4).2 rfl rfl (by omega) (by omega) (by omega) (by first | exact Nat.le_of_ble_eq_true rfl | (simp [ww_rf_cat, Value.category])) rfl (fun E M9 h9 => h9.elim) (fun v9 M9 h9 => ?_)
      obtain ⟨rfl, rfl⟩ := h9
      refine ww_if_eq_f (tgt := 21) dX6_scrap_10 (by decide) (by decide) ?_
      refine ww_aload_n (i := 0) dX6_scrap_13 rfl rfl ?_
      refine ww_aload_n (i := 2) dX6_scrap_14 rfl rfl ?_
      refine ww_callV (κ := 7) (r := (RX6, TX6, 4)) wk_X6_144 dX6_scrap_15 (hin) rfl rfl (show ww_is _ _ 7 from hw.1).1 (show ww_is _ _ 7 from hw.1).2 rfl rfl (by omega) (by omega) (by omega) (by first | exact Nat.le_of_ble_eq_true rfl | (simp [ww_rf_cat, Value.category])) rfl (fun E M9 h9 => h9.elim) (fun v9 M9 h9 => ?_)
      obtain ⟨rfl, rfl⟩ := h9
      refine ww_if_le_f (tgt := 31) dX6_scrap_18 (by decide) (nI_ge (a := 0) (by omega) (by omega)) ?_
      exact ww_throw wx_X6_56_152 dX6_scrap_21 dX6_scrap_24 dX6_scrap_25 dX6_scrap_27 dX6_scrap_30 rfl (Nat.le_of_ble_eq_true rfl) (by omega) (by omega) (by first | exact Nat.le_of_ble_eq_true rfl | (simp [ww_rf_cat, Value.category])) ⟨rfl, rfl⟩
  · refine ww_aload_n (i := 0) dX6_scrap_0 rfl rfl ?_
    refine ww_iload_n (i := 1) dX6_scrap_1 rfl rfl ?_
    refine ww_callV (κ := 7) (r := (RX6, TX6, 4)) wk_X6_83 dX6_scrap_2 (c_existing hw hf hp) rfl rfl (show ww_is _ _ 7 from hw.1).1 (show ww_is _ _ 7 from hw.1).2 rfl rfl (by omega) (by omega) (by omega) (by first | exact Nat.le_of_ble_eq_true rfl | (simp [ww_rf_cat, Value.category])) rfl (fun E M9 h9 => h9.elim) (fun v9 M9 h9 => ?_)
    obtain ⟨rfl, rfl⟩ := h9
    first | refine ww_astore_n (i := 2) (lv2 := [(0, _), (1, _), (2, _)]) dX6_scrap_5 rfl (Nat.le_of_ble_eq_true rfl) rfl ?_ | refine ww_astore_nQ (i := 2) (lv2 := [(0, _), (1, _), (2, _)]) dX6_scrap_5 rfl (Nat.le_of_ble_eq_true rfl) rfl ?_
    refine ww_aload_n (i := 2) dX6_scrap_6 rfl rfl ?_
    refine ww_callV (κ := 4) (r := (RX3, TX3, 18)) wk_X6_96 dX6_scrap_7 (p_store_f hf hG hp c1) rfl rfl (show ww_is _ _ 4 from hi4).1 (show ww_is _ _ 4 from hi4).2 rfl rfl (by omega) (by omega) (by omega) (by first | exact Nat.le_of_ble_eq_true rfl | (simp [ww_rf_cat, Value.category])) rfl (fun E M9 h9 => h9.elim) (fun v9 M9 h9 => ?_)
    obtain ⟨rfl, rfl⟩ := h9
    refine ww_if_eq_t (tgt := 21) dX6_scrap_10 (by decide) (by decide) ?_
    exact ww_throw wx_X6_56_152 dX6_scrap_21 dX6_scrap_24 dX6_scrap_25 dX6_scrap_27 dX6_scrap_30 rfl (Nat.le_of_ble_eq_true rfl) (by omega) (by omega) (by first | exact Nat.le_of_ble_eq_true rfl | (simp [ww_rf_cat, Value.category])) ⟨rfl, rfl⟩
set_option maxRecDepth 20000 in
set_option maxHeartbeats 8000000 in
theorem c_scrap_0 (hr : ww_rc g M c ea P W kl f z D E n u w m S) (hG : q_G S n) (hW : q_W S n w) (h5 : u < 512) (w0 : Nat) {p : Nat} (hp : p < n) (hc : q_scrapS S n w p) : ww_C g wy_X6_scrap 10 2 1037 [.ref (c 0), .int (nI p)] M (ww_lQ g M c P W kl z D (q_eS E u (nI p) (-2) 0) n (u + 1) w m none (q_moves (q_us S 0 0) p w0 (-2))) ww_no := by
  refine ww_ent (by decide +kernel) (Nat.le_of_ble_eq_true rfl) ⟨rfl, rfl, trivial⟩ ?_
  have hw := ww_cp_wo hr.1
  have hf := hr.1.2.1.1
  have h6 := hG.2.1
  have hi4 := (hf.1 p hp).1.1
  have hy := hr.2.2.1.1.2.1
  have hin := p_inside2 (g := g) hw hf hG hp
  obtain ⟨c1, c2, c3, c4⟩ := hc
  have hkp : ww_kp M (ww_sI M 167 (P p) 1) := ww_kp_I ww_kp_rf (by decide)
  obtain ⟨hr1, hck1⟩ := ww_kp_rc hr hkp (ww_pf_167 hf hp (by rw [c1]; decide)) rfl rfl
  have hR282 : ww_R (ww_sI M 167 (P p) 1) 282 (c 0) = some (c 5) := hr1.2.1.1
  have hlg := hr1.2.1.2.1
  have hx1 : ww_is (ww_sI M 167 (P p) 1).1 (c 0) 7 := hr1.1.1.1
  refine ww_aload_n (i := 0) dX6_scrap_0 rfl rfl ?_
  refine ww_iload_n (i := 1) dX6_scrap_1 rfl rfl ?_
  refine ww_callV (κ := 7) (r := (RX6, TX6, 4)) wk_X6_83 dX6_scrap_2 (c_existing hw hf hp) rfl rfl (show ww_is _ _ 7 from hw.1).1 (show ww_is _ _ 7 from hw.1).2 rfl rfl (by omega) (by omega) (by omega) (by first | exact Nat.le_of_ble_eq_true rfl | (simp [ww_rf_cat, Value.category])) rfl (fun E M9 h9 => h9.elim) (fun v9 M9 h9 => ?_)
  obtain ⟨rfl, rfl⟩ := h9
  first | refine ww_astore_n (i := 2) (lv2 := [(0, _), (1, _), (2, _)]) dX6_scrap_5 rfl (Nat.le_of_ble_eq_true rfl) rfl ?_ | refine ww_astore_nQ (i := 2) (lv2 := [(0, _), (1, _), (2, _)]) dX6_scrap_5 rfl (Nat.le_of_ble_eq_true rfl) rfl ?_
  refine ww_aload_n (i := 2) dX6_scrap_6 rfl rfl ?_
  refine ww_callV (κ := 4) (r := (RX3, TX3, 18)) wk_X6_96 dX6_scrap_7 (p_store_t hf hG hp c1) rfl rfl (show ww_is _ _ 4 from hi4).1 (show ww_is _ _ 4 from hi4).2 rfl rfl (by omega) (by omega) (by omega) (by first | exact Nat.le_of_ble_eq_true rfl | (simp [ww_rf_cat, Value.category])) rfl (fun E M9 h9 => h9.elim) (fun v9 M9 h9 => ?_)
  obtain ⟨rfl, rfl⟩ := h9
  refine ww_if_eq_f (tgt := 21) dX6_scrap_10 (by decide) (by decide) ?_
  refine ww_aload_n (i := 0) dX6_scrap_13 rfl rfl ?_
  refine ww_aload_n (i := 2) dX6_scrap_14 rfl rfl ?_
  refine ww_callV (κ := 7) (r := (RX6, TX6, 4)) wk_X6_144 dX6_scrap_15 (hin) rfl rfl (show ww_is _ _ 7 from hw.1).1 (show ww_is _ _ 7 from hw.1).2 rfl rfl (by omega) (by omega) (by omega) (by first | exact Nat.le_of_ble_eq_true rfl | (simp [ww_rf_cat, Value.category])) rfl (fun E M9 h9 => h9.elim) (fun v9 M9 h9 => ?_)
  obtain ⟨rfl, rfl⟩ := h9
  refine ww_if_le_t (tgt := 31) dX6_scrap_18 (by decide) (by rw [c2]; decide) ?_
  refine ww_aload_n (i := 2) dX6_scrap_31 rfl rfl ?_
  refine ww_callV (κ := 4) (r := (RX3, TX3, 18)) wk_X6_109 dX6_scrap_32 (p_bound_f hf hG hp c3) rfl rfl (show ww_is _ _ 4 from hi4).1 (show ww_is _ _ 4 from hi4).2 rfl rfl (by omega) (by omega) (by omega) (by first | exact Nat.le_of_ble_eq_true rfl | (simp [ww_rf_cat, Value.category])) rfl (fun E M9 h9 => h9.elim) (fun v9 M9 h9 => ?_)
  obtain ⟨rfl, rfl⟩ := h9
  refine ww_if_ne_f (tgt := 49) dX6_scrap_35 (by decide) (by decide) ?_
  refine ww_aload_n (i := 0) dX6_scrap_38 rfl rfl ?_
  refine ww_getR (f := 283) wf_X6_32 dX6_scrap_39 rfl rfl (show ww_is _ _ 7 from hw.1).1 (show ww_is _ _ 7 from hw.1).2 hr.2.2.1.1.1 ?_
  refine ww_aload_n (i := 2) dX6_scrap_42 rfl rfl ?_
  refine ww_callV (κ := 6) (r := (RX5, TX5, 5)) wk_X6_154 dX6_scrap_43 (p_wait_f hr hW hp c4) rfl rfl (show ww_is _ _ 6 from hy).1 (show ww_is _ _ 6 from hy).2 rfl rfl (by omega) (by omega) (by omega) (by first | exact Nat.le_of_ble_eq_true rfl | (simp [ww_rf_cat, Value.category])) rfl (fun E M9 h9 => h9.elim) (fun v9 M9 h9 => ?_)
  obtain ⟨rfl, rfl⟩ := h9
  refine ww_if_eq_t (tgt := 59) dX6_scrap_46 (by decide) (by decide) ?_
  refine ww_aload_n (i := 2) dX6_scrap_59 rfl rfl ?_
  refine ww_iconst (v := 1) dX6_scrap_60 (by decide) ?_
  refine ww_putI (f := 167) wf_X6_106 wt_4_7 dX6_scrap_61 rfl rfl (show ww_is _ _ 4 from hi4).1 (show ww_is _ _ 4 from hi4).2 (by first | rfl | exact ww_b_nar) (by first | rfl | exact ww_b_fit) ?_
  -- at 64, locals [0, 1, 2]
  refine ww_aload_n (i := 0) dX6_scrap_64 rfl rfl ?_
  refine ww_getR (f := 282) wf_X6_25 dX6_scrap_65 rfl rfl (show ww_is _ _ 7 from hx1).1 (show ww_is _ _ 7 from hx1).2 hR282 ?_
  refine ww_iload_n (i := 1) dX6_scrap_68 rfl rfl ?_
  refine ww_bipush (v := (-2)) dX6_scrap_69 (by decide) ?_
  refine ww_callV (κ := 3) (r := (RX2, TX2, 2)) wk_X6_133 dX6_scrap_71 (c_addMove hr1.2.1.2 h5 (nI p) (-2)) rfl rfl (show ww_is _ _ 3 from hlg).1 (show ww_is _ _ 3 from hlg).2 rfl rfl (by omega) (by omega) (by omega) (by first | exact Nat.le_of_ble_eq_true rfl | (simp [ww_rf_cat, Value.category])) rfl (fun E M9 h9 => h9.elim) (fun v9 M9 h9 => ?_)
  skip
  -- at 74, locals [0, 1, 2]
  refine ww_geL (fun hge => ?_)
  obtain ⟨ea', f', hr2, hck2, _⟩ := ww_rc_log hr1 h9 hge
  obtain ⟨rfl, _⟩ := h9
  have hfin : ww_rc g M9 c ea' P W kl f' z D (q_eS E u (nI p) (-2) 0) n (u + 1) w m (q_moves (q_us S 0 0) p w0 (-2)) := ww_rc_us hr2 (fun k hk => (q_moves_us hk).trans (ww_u2_k (q_us_use hk rfl)))
  exact ww_vreturn dX6_scrap_74 rfl ⟨rfl, ea', f', hfin, ww_ck_tr hck1 hck2⟩
end WWA6
