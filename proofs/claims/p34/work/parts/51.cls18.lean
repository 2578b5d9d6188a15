section WWM1
variable {g : ww_G} {M0 M M1 : ww_M} {a x pl pe n : Nat} {P W kl : Nat → Nat} {S : Nat → Nat → Int32} {v : Int32}
set_option maxRecDepth 20000 in
theorem c_clear_1 (hw : ww_wo g M0 M x pl pe n P) {p : Int32} (hc : q_noP n p) : ww_C g wy_X6_clear 8 1 6 [.ref x, .int p] M ww_nr (ww_th "java/lang/IndexOutOfBoundsException" M) := by
  refine ww_ent (by decide +kernel) (Nat.le_of_ble_eq_true rfl) ⟨rfl, rfl, trivial⟩ ?_
  refine ww_aload_n (i := 0) dX6_clear_0 rfl rfl ?_
  refine ww_iload_n (i := 1) dX6_clear_1 rfl rfl ?_
  refine ww_callV (κ := 7) (r := (RX6, TX6, 4)) wk_X6_83 dX6_clear_2 (c_existing_x hw hc) rfl rfl (show ww_is _ _ 7 from hw.1).1 (show ww_is _ _ 7 from hw.1).2 rfl rfl (by omega) (by omega) (by omega) (by first | exact Nat.le_of_ble_eq_true rfl | (simp [ww_rf_cat, Value.category])) rfl (fun E M9 h9 => h9) (fun v9 M9 h9 => ?_)
  exact h9.elim
  -- at 5, locals [0, 1]
set_option maxRecDepth 20000 in
theorem c_clear_2 (hw : ww_wo g M0 M x pl pe n P) (h : ww_pf M P W kl n S) (hG : q_G S n) {p : Nat} (hp : p < n) (hc : ¬ q_clear S p) : ww_C g wy_X6_clear 8 1 6 [.ref x, .int (nI p)] M ww_nr (ww_th "java/lang/IllegalStateException" M) := by
  refine ww_ent (by decide +kernel) (Nat.le_of_ble_eq_true rfl) ⟨rfl, rfl, trivial⟩ ?_
  obtain ⟨⟨hi4, _⟩, _, _, _, _, ⟨_, _, _, k9, _⟩, _⟩ := h.1 p hp
  by_cases c1 : S 9 p = 0
  · refine ww_aload_n (i := 0) dX6_clear_0 rfl rfl ?_
    refine ww_iload_n (i := 1) dX6_clear_1 rfl rfl ?_
    refine ww_callV (κ := 7) (r := (RX6, TX6, 4)) wk_X6_83 dX6_clear_2 (c_existing hw h hp) rfl rfl (show ww_is _ _ 7 from hw.1).1 (show ww_is _ _ 7 from hw.1).2 rfl rfl (by omega) (by omega) (by omega) (by first | exact Nat.le_of_ble_eq_true rfl | (simp [ww_rf_cat, Value.category])) rfl (fun E M9 h9 => h9.elim) (fun v9 M9 h9 => ?_)
    obtain ⟨rfl, rfl⟩ := h9
    first | refine ww_astore_n (i := 2) (lv2 := [(0, _), (1, _), (2, _)]) dX6_clear_5 rfl (Nat.le_of_ble_eq_true rfl) rfl ?_ | refine ww_astore_nQ (i := 2) (lv2 := [(0, _), (1, _), (2, _)]) dX6_clear_5 rfl (Nat.le_of_ble_eq_true rfl) rfl ?_
    refine ww_aload_n (i := 2) dX6_clear_6 rfl rfl ?_
    refine ww_getI (f := 171) wf_X6_100 dX6_clear_7 rfl rfl (show ww_is _ _ 4 from hi4).1 (show ww_is _ _ 4 from hi4).2 ?_
    refine ww_if_eq_t (tgt := 20) dX6_clear_10 (by decide) (k9.trans c1) ?_
    exact ww_throw wx_X6_56_251 dX6_clear_20 dX6_clear_23 dX6_clear_24 dX6_clear_26 dX6_clear_29 rfl (Nat.le_of_ble_eq_true rfl) (by omega) (by omega) (by first | exact Nat.le_of_ble_eq_true rfl | (simp [ww_rf_cat, Value.category])) ⟨rfl, rfl⟩
  · have c2 : q_bound S p := Classical.not_not.mp fun z => hc ⟨c1, z⟩
    refine ww_aload_n (i := 0) dX6_clear_0 rfl rfl ?_
    refine ww_iload_n (i := 1) dX6_clear_1 rfl rfl ?_
    refine ww_callV (κ := 7) (r := (RX6, TX6, 4)) wk_X6_83 dX6_clear_2 (c_existing hw h hp) rfl rfl (show ww_is _ _ 7 from hw.1).1 (show ww_is _ _ 7 from hw.1).2 rfl rfl (by omega) (by omega) (by omega) (by first | exact Nat.le_of_ble_eq_true rfl | (simp [ww_rf_cat, Value.category])) rfl (fun E M9 h9 => h9.elim) (fun v9 M9 h9 => ?_)
    obtain ⟨rfl, rfl⟩ := h9
    first | refine ww_astore_n (i := 2) (lv2 := [(0, _), (1, _), (2, _)]) dX6_clear_5 rfl (Nat.le_of_ble_eq_true rfl) rfl ?_ | refine ww_astore_nQ (i := 2) (lv2 := [(0, _), (1, _), (2, _)]) dX6_clear_5 rfl (Nat.le_of_ble_eq_true rfl) rfl ?_
    refine ww_aload_n (i := 2) dX6_clear_6 rfl rfl ?_
    refine ww_getI (f := 171) wf_X6_100 dX6_clear_7 rfl rfl (show ww_is _ _ 4 from hi4).1 (show ww_is _ _ 4 from hi4).2 ?_
    refine ww_if_eq_f (tgt := 20) dX6_clear_10 (by decide) (by rw [k9]; exact c1) ?_
    refine ww_aload_n (i := 2) dX6_clear_13 rfl rfl ?_
    refine ww_callV (κ := 4) (r := (RX3, TX3, 18)) wk_X6_109 dX6_clear_14 (p_bound_t h hG hp c2) rfl rfl (show ww_is _ _ 4 from hi4).1 (show ww_is _ _ 4 from hi4).2 rfl rfl (by omega) (by omega) (by omega) (by first | exact Nat.le_of_ble_eq_true rfl | (simp [ww_rf_cat, Value.category])) rfl (fun E M9 h9 => h9.elim) (fun v9 M9 h9 => ?_)
    obtain ⟨rfl, rfl⟩ := h9
    refine ww_if_eq_f (tgt := 30) dX6_clear_17 (by decide) (by decide) ?_
    exact ww_throw wx_X6_56_251 dX6_clear_20 dX6_clear_23 dX6_clear_24 dX6_clear_26 dX6_clear_29 rfl (Nat.le_of_ble_eq_true rfl) (by omega) (by omega) (by first | exact Nat.le_of_ble_eq_true rfl | (simp [ww_rf_cat, Value.category])) ⟨rfl, rfl⟩
set_option maxRecDepth 20000 in
theorem c_clear_0 (hw : ww_wo g M0 M x pl pe n P) (h : ww_pf M P W kl n S) (hG : q_G S n) {p : Nat} (hp : p < n) (hc : q_clear S p) : ww_C g wy_X6_clear 5 0 0 [.ref x, .int (nI p)] M (ww_cq g M0 (some (.int (S 18 p))) x pl pe n P W kl (ww_u2 (ww_u2 S 18 p 0) 9 p 0)) ww_no := by
  refine ww_ent (by decide +kernel) (Nat.le_of_ble_eq_true rfl) ⟨rfl, rfl, trivial⟩ ?_
  obtain ⟨⟨hi4, _⟩, _, _, _, _, ⟨_, _, _, k9, _, k18, _⟩, _⟩ := h.1 p hp
  rw [← k18]
  refine ww_aload_n (i := 0) dX6_clear_0 rfl rfl ?_
  refine ww_iload_n (i := 1) dX6_clear_1 rfl rfl ?_
  refine ww_callV (κ := 7) (r := (RX6, TX6, 4)) wk_X6_83 dX6_clear_2 (c_existing hw h hp) rfl rfl (show ww_is _ _ 7 from hw.1).1 (show ww_is _ _ 7 from hw.1).2 rfl rfl (by omega) (by omega) (by omega) (by first | exact Nat.le_of_ble_eq_true rfl | (simp [ww_rf_cat, Value.category])) rfl (fun E M9 h9 => h9.elim) (fun v9 M9 h9 => ?_)
  obtain ⟨rfl, rfl⟩ := h9
  first | refine ww_astore_n (i := 2) (lv2 := [(0, _), (1, _), (2, _)]) dX6_clear_5 rfl (Nat.le_of_ble_eq_true rfl) rfl ?_ | refine ww_astore_nQ (i := 2) (lv2 := [(0, _), (1, _), (2, _)]) dX6_clear_5 rfl (Nat.le_of_ble_eq_true rfl) rfl ?_
  refine ww_aload_n (i := 2) dX6_clear_6 rfl rfl ?_
  refine ww_getI (f := 171) wf_X6_100 dX6_clear_7 rfl rfl (show ww_is _ _ 4 from hi4).1 (show ww_is _ _ 4 from hi4).2 ?_
  refine ww_if_eq_f (tgt := 20) dX6_clear_10 (by decide) (by rw [k9]; exact hc.1) ?_
  refine ww_aload_n (i := 2) dX6_clear_13 rfl rfl ?_
  refine ww_callV (κ := 4) (r := (RX3, TX3, 18)) wk_X6_109 dX6_clear_14 (p_bound_f h hG hp hc.2) rfl rfl (show ww_is _ _ 4 from hi4).1 (show ww_is _ _ 4 from hi4).2 rfl rfl (by omega) (by omega) (by omega) (by first | exact Nat.le_of_ble_eq_true rfl | (simp [ww_rf_cat, Value.category])) rfl (fun E M9 h9 => h9.elim) (fun v9 M9 h9 => ?_)
  obtain ⟨rfl, rfl⟩ := h9
  refine ww_if_eq_t (tgt := 30) dX6_clear_17 (by decide) (by decide) ?_
  refine ww_aload_n (i := 2) dX6_clear_30 rfl rfl ?_
  refine ww_getI (f := 173) wf_X6_181 dX6_clear_31 rfl rfl (show ww_is _ _ 4 from hi4).1 (show ww_is _ _ 4 from hi4).2 ?_
  refine ww_istore_n (i := 3) (lv2 := [(0, _), (1, _), (2, _), (3, _)]) dX6_clear_34 rfl (Nat.le_of_ble_eq_true rfl) rfl ?_
  refine ww_aload_n (i := 2) dX6_clear_35 rfl rfl ?_
  refine ww_iconst (v := 0) dX6_clear_36 (by decide) ?_
  refine ww_putI (f := 173) wf_X6_181 wt_4_13 dX6_clear_37 rfl rfl (show ww_is _ _ 4 from hi4).1 (show ww_is _ _ 4 from hi4).2 rfl rfl ?_
  refine ww_aload_n (i := 2) dX6_clear_40 rfl rfl ?_
  refine ww_iconst (v := 0) dX6_clear_41 (by decide) ?_
  refine ww_putI (f := 171) wf_X6_100 wt_4_11 dX6_clear_42 rfl rfl (show ww_is _ _ 4 from hi4).1 (show ww_is _ _ 4 from hi4).2 (by first | rfl | exact ww_b_nar) (by first | rfl | exact ww_b_fit) ?_
  refine ww_iload_n (i := 3) dX6_clear_45 rfl rfl ?_
  exact ww_ireturn dX6_clear_46 rfl (by first | rfl | exact ww_b_nar) ⟨rfl, ww_wo_I (ww_wo_I hw (by decide)) (by decide), ww_pf_171 (ww_pf_173 h hp) hp⟩
set_option maxRecDepth 20000 in
theorem c_look_1 (hw : ww_wo g M0 M x pl pe n P) {p : Int32} (v : Int32) (hc : q_noP n p) : ww_C g wy_X6_look 8 1 6 [.ref x, .int p, .int v] M ww_nr (ww_th "java/lang/IndexOutOfBoundsException" M) := by
  refine ww_ent (by decide +kernel) (Nat.le_of_ble_eq_true rfl) ⟨rfl, rfl, rfl, trivial⟩ ?_
  refine ww_aload_n (i := 0) dX6_look_0 rfl rfl ?_
  refine ww_iload_n (i := 1) dX6_look_1 rfl rfl ?_
  refine ww_callV (κ := 7) (r := (RX6, TX6, 4)) wk_X6_83 dX6_look_2 (c_existing_x hw hc) rfl rfl (show ww_is _ _ 7 from hw.1).1 (show ww_is _ _ 7 from hw.1).2 rfl rfl (by omega) (by omega) (by omega) (by first | exact Nat.le_of_ble_eq_true rfl | (simp [ww_rf_cat, Value.category])) rfl (fun E M9 h9 => h9) (fun v9 M9 h9 => ?_)
  exact h9.elim
  -- at 5, locals [0, 1, 2]
theorem p_store_t (h : ww_pf M P W kl n S) (hG : q_G S n) {p : Nat} (hp : p < n) (e : S 5 p = -1) : ww_C g wy_X3_isInStore 1 0 0 [.ref (P p)] M (ww_ret (some (.int 1)) M) ww_no := by
  have hs := c_isInStore (g := g) (ww_pf_hs h) hG.2.2.1 hG.2.1 hp
  rw [if_pos ⟨by rw [e]; decide, by rw [(h.1 p hp).2.2.2.2.1, e]; decide⟩] at hs
  exact hs
theorem p_store_f (h : ww_pf M P W kl n S) (hG : q_G S n) {p : Nat} (hp : p < n) (e : ¬ S 5 p = -1) : ww_C g wy_X3_isInStore 1 0 0 [.ref (P p)] M (ww_ret (some (.int 0)) M) ww_no := by
  have hs := c_isInStore (g := g) (ww_pf_hs h) hG.2.2.1 hG.2.1 hp
  rw [if_neg (fun z => by
    obtain ⟨z1, z2⟩ := z
    rw [(h.1 p hp).2.2.2.2.1] at z2
    rcases (hG.2.2.1 p hp).2 with y | y | ⟨q, hq, y, hl⟩
    · exact e y
    · rw [if_pos y] at z2; exact absurd z2 (by decide)
    · have := hG.2.1
      rw [y] at z1; exact absurd z1 (nI_pos (by omega)))] at hs
  exact hs
set_option maxRecDepth 20000 in
set_option maxHeartbeats 4000000 in
theorem c_look_2 (hw : ww_wo g M0 M x pl pe n P) (h : ww_pf M P W kl n S) (hG : q_G S n) {p : Nat} (hp : p < n) (hc : ¬ q_look S p v) : ww_C g wy_X6_look 8 1 6 [.ref x, .int (nI p), .int v] M ww_nr (ww_th "java/lang/IllegalStateException" M) := by
  refine ww_ent (by decide +kernel) (Nat.le_of_ble_eq_true rfl) ⟨rfl, rfl, rfl, trivial⟩ ?_
  obtain ⟨⟨hi4, _⟩, _, _, _, k167, _⟩ := h.1 p hp
  by_cases c1 : S 5 p = -2
  · rw [if_pos c1] at k167
    have k167 : ¬ ww_I M 167 (P p) = 0 := by rw [k167]; decide
    refine ww_aload_n (i := 0) dX6_look_0 rfl rfl ?_
    refine ww_iload_n (i := 1) dX6_look_1 rfl rfl ?_
    refine ww_callV (κ := 7) (r := (RX6, TX6, 4)) wk_X6_83 dX6_look_2 (c_existing hw h hp) rfl rfl (show ww_is _ _ 7 from hw.1).1 (show ww_is _ _ 7 from hw.1).2 rfl rfl (by omega) (by omega) (by omega) (by first | exact Nat.le_of_ble_eq_true rfl | (simp [ww_rf_cat, Value.category])) rfl (fun E M9 h9 => h9.elim) (fun v9 M9 h9 => ?_)
    obtain ⟨rfl, rfl⟩ := h9
    first | refine ww_astore_n (i := 3) (lv2 := [(0, _), (1, _), (2, _), (3, _)]) dX6_look_5 rfl (Nat.le_of_ble_eq_true rfl) rfl ?_ | refine ww_astore_nQ (i := 3) (lv2 := [(0, _), (1, _), (2, _), (3, _)]) dX6_look_5 rfl (Nat.le_of_ble_eq_true rfl) rfl ?_
    refine ww_aload_n (i := 3) dX6_look_6 rfl rfl ?_
    refine ww_getI (f := 167) wf_X6_106 dX6_look_7 rfl rfl (show ww_is _ _ 4 from hi4).1 (show ww_is _ _ 4 from hi4).2 ?_
    refine ww_if_ne_t (tgt := 31) dX6_look_10 (by decide) k167 ?_
    exact ww_throw wx_X6_56_246 dX6_look_31 dX6_look_34 dX6_look_35 dX6_look_37 dX6_look_40 rfl (Nat.le_of_ble_eq_true rfl) (by omega) (by omega) (by first | exact Nat.le_of_ble_eq_true rfl | (simp [ww_rf_cat, Value.category])) ⟨rfl, rfl⟩
  · rw [if_neg c1] at k167
    by_cases c2 : q_bound S p
    · refine ww_aload_n (i := 0) dX6_look_0 rfl rfl ?_
      refine ww_iload_n (i := 1) dX6_look_1 rfl rfl ?_
      refine ww_callV (κ := 7) (r := (RX6, TX6, 4)) wk_X6_83 dX6_look_2 (c_existing hw h hp) rfl rfl (show ww_is _ _ 7 from hw.1).1 (show ww_is _ _ 7 from hw.1).2 rfl rfl (by omega) (by omega) (by omega) (by first | exact Nat.le_of_ble_eq_true rfl | (simp [ww_rf_cat, Value.category])) rfl (fun E M9 h9 => h9.elim) (fun v9 M9 h9 => ?_)
      obtain ⟨rfl, rfl⟩ := h9
      first | refine ww_astore_n (i := 3) (lv2 := [(0, _), (1, _), (2, _), (3, _)]) dX6_look_5 rfl (Nat.le_of_ble_eq_true rfl) rfl ?_ | refine ww_astore_nQ (i := 3) (lv2 := [(0, _), (1, _), (2, _), (3, _)]) dX6_look_5 rfl (Nat.le_of_ble_eq_true rfl) rfl ?_
      refine ww_aload_n (i := 3) dX6_look_6 rfl rfl ?_
      refine ww_getI (f := 167) wf_X6_106 dX6_look_7 rfl rfl (show ww_is _ _ 4 from hi4).1 (show ww_is _ _ 4 from hi4).2 ?_
      refine ww_if_ne_f (tgt := 31) dX6_look_10 (by decide) k167 ?_
      refine ww_aload_n (i := 3) dX6_look_13 rfl rfl ?_
      refine ww_callV (κ := 4) (r := (RX3, TX3, 18)) wk_X6_109 dX6_look_14 (p_bound_t h hG hp c2) rfl rfl (show ww_is _ _ 4 from hi4).1 (show ww_is _ _ 4 from hi4).2 rfl rfl (by omega) (by omega) (by omega) (by first | exact Nat.le_of_ble_eq_true rfl | (simp [ww_rf_cat, Value.category])) rfl (fun E M9 h9 => h9.elim) (fun v9 M9 h9 => ?_)
      obtain ⟨rfl, rfl⟩ := h9
      refine ww_if_ne_t (tgt := 31) dX6_look_17 (by decide) (by decide) ?_
      exact ww_throw wx_X6_56_246 dX6_look_31 dX6_look_34 dX6_look_35 dX6_look_37 dX6_look_40 rfl (Nat.le_of_ble_eq_true rfl) (by omega) (by omega) (by first | exact Nat.le_of_ble_eq_true rfl | (simp [ww_rf_cat, Value.category])) ⟨rfl, rfl⟩
    · have c3 : ¬ v = 0 := fun z => hc ⟨c1, c2, Or.inl z⟩
      have c4 : ¬ S 5 p = -1 := fun z => hc ⟨c1, c2, Or.inr z⟩
      refine ww_aload_n (i := 0) dX6_look_0 rfl rfl ?_
      refine ww_iload_n (i := 1) dX6_look_1 rfl rfl ?_
      refine ww_callV (κ := 7) (r := (RX6, TX6, 4)) wk_X6_83 dX6_look_2 (c_existing hw h hp) rfl rfl (show ww_is _ _ 7 from hw.1).1 (show ww_is _ _ 7 from hw.1).2 rfl rfl (by omega) (by omega) (by omega) (by first | exact Nat.le_of_ble_eq_true rfl | (simp [ww_rf_cat, Value.category])) rfl (fun E M9 h9 => h9.elim) (fun v9 M9 h9 => ?_)
      obtain ⟨rfl, rfl⟩ := h9
      first | refine ww_astore_n (i := 3) (lv2 := [(0, _), (1, _), (2, _), (3, _)]) dX6_look_5 rfl (Nat.le_of_ble_eq_true rfl) rfl ?_ | refine ww_astore_nQ (i := 3) (lv2 := [(0, _), (1, _), (2, _), (3, _)]) dX6_look_5 rfl (Nat.le_of_ble_eq_true rfl) rfl ?_
      refine ww_aload_n (i := 3) dX6_look_6 rfl rfl ?_
      refine ww_getI (f := 167) wf_X6_106 dX6_look_7 rfl rfl (show ww_is _ _ 4 from hi4).1 (show ww_is _ _ 4 from hi4).2 ?_
      refine ww_if_ne_f (tgt := 31) dX6_look_10 (by decide) k167 ?_
      refine ww_aload_n (i := 3) dX6_look_13 rfl rfl ?_
      refine ww_callV (κ := 4) (r := (RX3, TX3, 18)) wk_X6_109 dX6_look_14 (p_bound_f h hG hp c2) rfl rfl (show ww_is _ _ 4 from hi4).1 (show ww_is _ _ 4 from hi4).2 rfl rfl (by omega) (by omega) (by omega) (by first | exact Nat.le_of_ble_eq_true rfl | (simp [ww_rf_cat, Value.category])) rfl (fun E M9 h9 => h9.elim) (fun v9 M9 h9 => ?_)
      obtain ⟨rfl, rfl⟩ := h9
      refine ww_if_ne_f (tgt := 31) dX6_look_17 (by decide) (by decide) ?_
      refine ww_iload_n (i := 2) dX6_look_20 rfl rfl ?_
      refine ww_if_eq_f (tgt := 41) dX6_look_21 (by decide) c3 ?_
      refine ww_aload_n (i := 3) dX6_look_24 rfl rfl ?_
      refine ww_callV (κ := 4) (r := (RX3, TX3, 18)) wk_X6_96 dX6_look_25 (p_store_f h hG hp c4) rfl rfl (show ww_is _ _ 4 from hi4).1 (show ww_is _ _ 4 from hi4).2 rfl rfl (by omega) (by omega) (by omega) (by first | exact Nat.le_of_ble_eq_true rfl | (simp [ww_rf_cat, Value.category])) rfl (fun E M9 h9 => h9.elim) (fun v9 M9 h9 => ?_)
      obtain ⟨rfl, rfl⟩ := h9
      refine ww_if_ne_f (tgt := 41) dX6_look_28 (by decide) (by decide) ?_
      exact ww_throw wx_X6_56_246 dX6_look_31 dX6_look_34 dX6_look_35 dX6_look_37 dX6_look_40 rfl (Nat.le_of_ble_eq_true rfl) (by omega) (by omega) (by first | exact Nat.le_of_ble_eq_true rfl | (simp [ww_rf_cat, Value.category])) ⟨rfl, rfl⟩
end WWM1
