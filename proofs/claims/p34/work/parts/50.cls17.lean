section WWL1
variable {g : ww_G} {M0 M M1 : ww_M} {a x pl pe n : Nat} {P W kl : Nat → Nat} {S : Nat → Nat → Int32} {v : Int32}
set_option maxRecDepth 20000 in
theorem c_examine_2 (hw : ww_wo g M0 M x pl pe n P) (h : ww_pf M P W kl n S) (hG : q_G S n) {p : Nat} (hp : p < n) (hc : ¬ q_exam S p) : ww_C g wy_X6_examine 8 1 6 [.ref x, .int (nI p)] M ww_nr (ww_th "java/lang/IllegalStateException" M) := by
  refine ww_ent (by decide +kernel) (Nat.le_of_ble_eq_true rfl) ⟨rfl, rfl, trivial⟩ ?_
  obtain ⟨⟨hi4, _, _, _, _, hR4⟩, _, _, _, k167, ⟨_, k7, _⟩, _⟩ := h.1 p hp
  have hkd := q_kd_of hG.2.2.1 hp
  have hl := h.2.1 (q_kd S p) hkd.2
  have hm := c_mayBe (g := g) hi4 hR4 hl.1
  rw [hl.2.2.1, hl.2.2.2, k7] at hm
  by_cases c : ¬ S 21 (q_kd S p) ≤ 0 ∧ ¬ S 7 p < S 21 (q_kd S p) - S 22 (q_kd S p)
  · rw [if_pos c] at hm
    by_cases c3 : S 5 p = -2
    · rw [if_pos c3] at k167
      have k167 : ¬ ww_I M 167 (P p) = 0 := by rw [k167]; decide
      refine ww_aload_n (i := 0) dX6_examine_0 rfl rfl ?_
      refine ww_iload_n (i := 1) dX6_examine_1 rfl rfl ?_
      refine ww_callV (κ := 7) (r := (RX6, TX6, 4)) wk_X6_83 dX6_examine_2 (c_existing hw h hp) rfl rfl (show ww_is _ _ 7 from hw.1).1 (show ww_is _ _ 7 from hw.1).2 rfl rfl (by omega) (by omega) (by omega) (by first | exact Nat.le_of_ble_eq_true rfl | (simp [ww_rf_cat, Value.category])) rfl (fun E M9 h9 => h9.elim) (fun v9 M9 h9 => ?_)
      obtain ⟨rfl, rfl⟩ := h9
      first | refine ww_astore_n (i := 2) (lv2 := [(0, _), (1, _), (2, _)]) dX6_examine_5 rfl (Nat.le_of_ble_eq_true rfl) rfl ?_ | refine ww_astore_nQ (i := 2) (lv2 := [(0, _), (1, _), (2, _)]) dX6_examine_5 rfl (Nat.le_of_ble_eq_true rfl) rfl ?_
      refine ww_aload_n (i := 2) dX6_examine_6 rfl rfl ?_
      refine ww_callV (κ := 4) (r := (RX3, TX3, 18)) wk_X6_219 dX6_examine_7 (hm) rfl rfl (show ww_is _ _ 4 from hi4).1 (show ww_is _ _ 4 from hi4).2 rfl rfl (by omega) (by omega) (by omega) (by first | exact Nat.le_of_ble_eq_true rfl | (simp [ww_rf_cat, Value.category])) rfl (fun E M9 h9 => h9.elim) (fun v9 M9 h9 => ?_)
      obtain ⟨rfl, rfl⟩ := h9
      refine ww_if_eq_f (tgt := 27) dX6_examine_10 (by decide) (by decide) ?_
      refine ww_aload_n (i := 2) dX6_examine_13 rfl rfl ?_
      refine ww_getI (f := 167) wf_X6_106 dX6_examine_14 rfl rfl (show ww_is _ _ 4 from hi4).1 (show ww_is _ _ 4 from hi4).2 ?_
      refine ww_if_ne_t (tgt := 27) dX6_examine_17 (by decide) k167 ?_
      exact ww_throw wx_X6_56_222 dX6_examine_27 dX6_examine_30 dX6_examine_31 dX6_examine_33 dX6_examine_36 rfl (Nat.le_of_ble_eq_true rfl) (by omega) (by omega) (by first | exact Nat.le_of_ble_eq_true rfl | (simp [ww_rf_cat, Value.category])) ⟨rfl, rfl⟩
    · rw [if_neg c3] at k167
      have c4 : q_bound S p := Classical.not_not.mp fun z => hc ⟨c.1, c.2, c3, z⟩
      refine ww_aload_n (i := 0) dX6_examine_0 rfl rfl ?_
      refine ww_iload_n (i := 1) dX6_examine_1 rfl rfl ?_
      refine ww_callV (κ := 7) (r := (RX6, TX6, 4)) wk_X6_83 dX6_examine_2 (c_existing hw h hp) rfl rfl (show ww_is _ _ 7 from hw.1).1 (show ww_is _ _ 7 from hw.1).2 rfl rfl (by omega) (by omega) (by omega) (by first | exact Nat.le_of_ble_eq_true rfl | (simp [ww_rf_cat, Value.category])) rfl (fun E M9 h9 => h9.elim) (fun v9 M9 h9 => ?_)
      obtain ⟨rfl, rfl⟩ := h9
      first | refine ww_astore_n (i := 2) (lv2 := [(0, _), (1, _), (2, _)]) dX6_examine_5 rfl (Nat.le_of_ble_eq_true rfl) rfl ?_ | refine ww_astore_nQ (i := 2) (lv2 := [(0, _), (1, _), (2, _)]) dX6_examine_5 rfl (Nat.le_of_ble_eq_true rfl) rfl ?_
      refine ww_aload_n (i := 2) dX6_examine_6 rfl rfl ?_
      refine ww_callV (κ := 4) (r := (RX3, TX3, 18)) wk_X6_219 dX6_examine_7 (hm) rfl rfl (show ww_is _ _ 4 from hi4).1 (show ww_is _ _ 4 from hi4).2 rfl rfl (by omega) (by omega) (by omega) (by first | exact Nat.le_of_ble_eq_true rfl | (simp [ww_rf_cat, Value.category])) rfl (fun E M9 h9 => h9.elim) (fun v9 M9 h9 => ?_)
      obtain ⟨rfl, rfl⟩ := h9
      refine ww_if_eq_f (tgt := 27) dX6_examine_10 (by decide) (by decide) ?_
      refine ww_aload_n (i := 2) dX6_examine_13 rfl rfl ?_
      refine ww_getI (f := 167) wf_X6_106 dX6_examine_14 rfl rfl (show ww_is _ _ 4 from hi4).1 (show ww_is _ _ 4 from hi4).2 ?_
      refine ww_if_ne_f (tgt := 27) dX6_examine_17 (by decide) k167 ?_
      refine ww_aload_n (i := 2) dX6_examine_20 rfl rfl ?_
      refine ww_callV (κ := 4) (r := (RX3, TX3, 18)) wk_X6_109 dX6_examine_21 (p_bound_t h hG hp c4) rfl rfl (show ww_is _ _ 4 from hi4).1 (show ww_is _ _ 4 from hi4).2 rfl rfl (by omega) (by omega) (by omega) (by first | exact Nat.le_of_ble_eq_true rfl | (simp [ww_rf_cat, Value.category])) rfl (fun E M9 h9 => h9.elim) (fun v9 M9 h9 => ?_)
      obtain ⟨rfl, rfl⟩ := h9
      refine ww_if_eq_f (tgt := 37) dX6_examine_24 (by decide) (by decide) ?_
      exact ww_throw wx_X6_56_222 dX6_examine_27 dX6_examine_30 dX6_examine_31 dX6_examine_33 dX6_examine_36 rfl (Nat.le_of_ble_eq_true rfl) (by omega) (by omega) (by first | exact Nat.le_of_ble_eq_true rfl | (simp [ww_rf_cat, Value.category])) ⟨rfl, rfl⟩
  · rw [if_neg c] at hm
    refine ww_aload_n (i := 0) dX6_examine_0 rfl rfl ?_
    refine ww_iload_n (i := 1) dX6_examine_1 rfl rfl ?_
    refine ww_callV (κ := 7) (r := (RX6, TX6, 4)) wk_X6_83 dX6_examine_2 (c_existing hw h hp) rfl rfl (show ww_is _ _ 7 from hw.1).1 (show ww_is _ _ 7 from hw.1).2 rfl rfl (by omega) (by omega) (by omega) (by first | exact Nat.le_of_ble_eq_true rfl | (simp [ww_rf_cat, Value.category])) rfl (fun E M9 h9 => h9.elim) (fun v9 M9 h9 => ?_)
    obtain ⟨rfl, rfl⟩ := h9
    first | refine ww_astore_n (i := 2) (lv2 := [(0, _), (1, _), (2, _)]) dX6_examine_5 rfl (Nat.le_of_ble_eq_true rfl) rfl ?_ | refine ww_astore_nQ (i := 2) (lv2 := [(0, _), (1, _), (2, _)]) dX6_examine_5 rfl (Nat.le_of_ble_eq_true rfl) rfl ?_
    refine ww_aload_n (i := 2) dX6_examine_6 rfl rfl ?_
    refine ww_callV (κ := 4) (r := (RX3, TX3, 18)) wk_X6_219 dX6_examine_7 (hm) rfl rfl (show ww_is _ _ 4 from hi4).1 (show ww_is _ _ 4 from hi4).2 rfl rfl (by omega) (by omega) (by omega) (by first | exact Nat.le_of_ble_eq_true rfl | (simp [ww_rf_cat, Value.category])) rfl (fun E M9 h9 => h9.elim) (fun v9 M9 h9 => ?_)
    obtain ⟨rfl, rfl⟩ := h9
    refine ww_if_eq_t (tgt := 27) dX6_examine_10 (by decide) (by decide) ?_
    exact ww_throw wx_X6_56_222 dX6_examine_27 dX6_examine_30 dX6_examine_31 dX6_examine_33 dX6_examine_36 rfl (Nat.le_of_ble_eq_true rfl) (by omega) (by omega) (by first | exact Nat.le_of_ble_eq_true rfl | (simp [ww_rf_cat, Value.category])) ⟨rfl, rfl⟩
set_option maxRecDepth 20000 in
theorem c_waive_1 (hw : ww_wo g M0 M x pl pe n P) {p : Int32} (v : Int32) (hc : q_noP n p) : ww_C g wy_X6_waive 8 1 6 [.ref x, .int p, .int v] M ww_nr (ww_th "java/lang/IndexOutOfBoundsException" M) := by
  refine ww_ent (by decide +kernel) (Nat.le_of_ble_eq_true rfl) ⟨rfl, rfl, rfl, trivial⟩ ?_
  refine ww_aload_n (i := 0) dX6_waive_0 rfl rfl ?_
  refine ww_iload_n (i := 1) dX6_waive_1 rfl rfl ?_
  refine ww_callV (κ := 7) (r := (RX6, TX6, 4)) wk_X6_83 dX6_waive_2 (c_existing_x hw hc) rfl rfl (show ww_is _ _ 7 from hw.1).1 (show ww_is _ _ 7 from hw.1).2 rfl rfl (by omega) (by omega) (by omega) (by first | exact Nat.le_of_ble_eq_true rfl | (simp [ww_rf_cat, Value.category])) rfl (fun E M9 h9 => h9) (fun v9 M9 h9 => ?_)
  exact h9.elim
  -- at 5, locals [0, 1, 2]
set_option maxRecDepth 20000 in
theorem c_waive_2 (hw : ww_wo g M0 M x pl pe n P) (h : ww_pf M P W kl n S) {p : Nat} (hp : p < n) (hv : ¬ q_rg 1 999 v) : ww_C g wy_X6_waive 8 1 6 [.ref x, .int (nI p), .int v] M ww_nr (ww_th "java/lang/IllegalArgumentException" M) := by
  refine ww_ent (by decide +kernel) (Nat.le_of_ble_eq_true rfl) ⟨rfl, rfl, rfl, trivial⟩ ?_
  refine ww_aload_n (i := 0) dX6_waive_0 rfl rfl ?_
  refine ww_iload_n (i := 1) dX6_waive_1 rfl rfl ?_
  refine ww_callV (κ := 7) (r := (RX6, TX6, 4)) wk_X6_83 dX6_waive_2 (c_existing hw h hp) rfl rfl (show ww_is _ _ 7 from hw.1).1 (show ww_is _ _ 7 from hw.1).2 rfl rfl (by omega) (by omega) (by omega) (by first | exact Nat.le_of_ble_eq_true rfl | (simp [ww_rf_cat, Value.category])) rfl (fun E M9 h9 => h9.elim) (fun v9 M9 h9 => ?_)
  obtain ⟨rfl, rfl⟩ := h9
  first | refine ww_astore_n (i := 3) (lv2 := [(0, _), (1, _), (2, _), (3, _)]) dX6_waive_5 rfl (Nat.le_of_ble_eq_true rfl) rfl ?_ | refine ww_astore_nQ (i := 3) (lv2 := [(0, _), (1, _), (2, _), (3, _)]) dX6_waive_5 rfl (Nat.le_of_ble_eq_true rfl) rfl ?_
  refine ww_iload_n (i := 2) dX6_waive_6 rfl rfl ?_
  refine ww_iconst (v := 1) dX6_waive_7 (by decide) ?_
  refine ww_sipush (v := 999) dX6_waive_8 (by decide) ?_
  refine ww_callS wk_X6_41 rfl dX6_waive_11 (c_out_t hv) rfl rfl (by omega) (by omega) (by omega) (by first | exact Nat.le_of_ble_eq_true rfl | (simp [ww_rf_cat, Value.category])) rfl (fun E M9 h9 => h9.elim) (fun v9 M9 h9 => ?_)
  obtain ⟨rfl, rfl⟩ := h9
  refine ww_if_eq_f (tgt := 27) dX6_waive_14 (by decide) (by decide) ?_
  exact ww_throw wx_X6_45_230 dX6_waive_17 dX6_waive_20 dX6_waive_21 dX6_waive_23 dX6_waive_26 rfl (Nat.le_of_ble_eq_true rfl) (by omega) (by omega) (by first | exact Nat.le_of_ble_eq_true rfl | (simp [ww_rf_cat, Value.category])) ⟨rfl, rfl⟩
set_option maxRecDepth 20000 in
theorem c_waive_3 (hw : ww_wo g M0 M x pl pe n P) (h : ww_pf M P W kl n S) (hG : q_G S n) {p : Nat} (hp : p < n) (hv : q_rg 1 999 v) (hc : ¬ q_waive S p) : ww_C g wy_X6_waive 8 1 6 [.ref x, .int (nI p), .int v] M ww_nr (ww_th "java/lang/IllegalStateException" M) := by
  refine ww_ent (by decide +kernel) (Nat.le_of_ble_eq_true rfl) ⟨rfl, rfl, rfl, trivial⟩ ?_
  obtain ⟨⟨hi4, _, _, _, _, hR4⟩, _, _, _, _, ⟨_, _, k8, _⟩, _⟩ := h.1 p hp
  have hkd := q_kd_of hG.2.2.1 hp
  have hl := h.2.1 (q_kd S p) hkd.2
  by_cases c1 : S 21 (q_kd S p) = 0
  · refine ww_aload_n (i := 0) dX6_waive_0 rfl rfl ?_
    refine ww_iload_n (i := 1) dX6_waive_1 rfl rfl ?_
    refine ww_callV (κ := 7) (r := (RX6, TX6, 4)) wk_X6_83 dX6_waive_2 (c_existing hw h hp) rfl rfl (show ww_is _ _ 7 from hw.1).1 (show ww_is _ _ 7 from hw.1).2 rfl rfl (by omega) (by omega) (by omega) (by first | exact Nat.le_of_ble_eq_true rfl | (simp [ww_rf_cat, Value.category])) rfl (fun E M9 h9 => h9.elim) (fun v9 M9 h9 => ?_)
    obtain ⟨rfl, rfl⟩ := h9
    first | refine ww_astore_n (i := 3) (lv2 := [(0, _), (1, _), (2, _), (3, _)]) dX6_waive_5 rfl (Nat.le_of_ble_eq_true rfl) rfl ?_ | refine ww_astore_nQ (i := 3) (lv2 := [(0, _), (1, _), (2, _), (3, _)]) dX6_waive_5 rfl (Nat.le_of_ble_eq_true rfl) rfl ?_
    refine ww_iload_n (i := 2) dX6_waive_6 rfl rfl ?_
    refine ww_iconst (v := 1) dX6_waive_7 (by decide) ?_
    refine ww_sipush (v := 999) dX6_waive_8 (by decide) ?_
    refine ww_callS wk_X6_41 rfl dX6_waive_11 (c_out_f hv) rfl rfl (by omega) (by omega) (by omega) (by first | exact Nat.le_of_ble_eq_true rfl | (simp [ww_rf_cat, Value.category])) rfl (fun E M9 h9 => h9.elim) (fun v9 M9 h9 => ?_)
    obtain ⟨rfl, rfl⟩ := h9
    refine ww_if_eq_t (tgt := 27) dX6_waive_14 (by decide) (by decide) ?_
    refine ww_aload_n (i := 3) dX6_waive_27 rfl rfl ?_
    refine ww_getR (f := 164) wf_X6_232 dX6_waive_28 rfl rfl (show ww_is _ _ 4 from hi4).1 (show ww_is _ _ 4 from hi4).2 hR4 ?_
    refine ww_getI (f := 81) wf_X6_77 dX6_waive_31 rfl rfl (show ww_is _ _ 2 from hl.1).1 (show ww_is _ _ 2 from hl.1).2 ?_
    refine ww_if_eq_t (tgt := 44) dX6_waive_34 (by decide) (hl.2.2.1.trans c1) ?_
    exact ww_throw wx_X6_56_236 dX6_waive_44 dX6_waive_47 dX6_waive_48 dX6_waive_50 dX6_waive_53 rfl (Nat.le_of_ble_eq_true rfl) (by omega) (by omega) (by first | exact Nat.le_of_ble_eq_true rfl | (simp [ww_rf_cat, Value.category])) ⟨rfl, rfl⟩
  · have c2 : ¬ ww_I M 170 (P p) ≤ 0 := by rw [k8]; exact fun z => hc ⟨c1, z⟩
    refine ww_aload_n (i := 0) dX6_waive_0 rfl rfl ?_
    refine ww_iload_n (i := 1) dX6_waive_1 rfl rfl ?_
    refine ww_callV (κ := 7) (r := (RX6, TX6, 4)) wk_X6_83 dX6_waive_2 (c_existing hw h hp) rfl rfl (show ww_is _ _ 7 from hw.1).1 (show ww_is _ _ 7 from hw.1).2 rfl rfl (by omega) (by omega) (by omega) (by first | exact Nat.le_of_ble_eq_true rfl | (simp [ww_rf_cat, Value.category])) rfl (fun E M9 h9 => h9.elim) (fun v9 M9 h9 => ?_)
    obtain ⟨rfl, rfl⟩ := h9
    first | refine ww_astore_n (i := 3) (lv2 := [(0, _), (1, _), (2, _), (3, _)]) dX6_waive_5 rfl (Nat.le_of_ble_eq_true rfl) rfl ?_ | refine ww_astore_nQ (i := 3) (lv2 := [(0, _), (1, _), (2, _), (3, _)]) dX6_waive_5 rfl (Nat.le_of_ble_eq_true rfl) rfl ?_
    refine ww_iload_n (i := 2) dX6_waive_6 rfl rfl ?_
    refine ww_iconst (v := 1) dX6_waive_7 (by decide) ?_
    refine ww_sipush (v := 999) dX6_waive_8 (by decide) ?_
    refine ww_callS wk_X6_41 rfl dX6_waive_11 (c_out_f hv) rfl rfl (by omega) (by omega) (by omega) (by first | exact Nat.le_of_ble_eq_true rfl | (simp [ww_rf_cat, Value.category])) rfl (fun E M9 h9 => h9.elim) (fun v9 M9 h9 => ?_)
    obtain ⟨rfl, rfl⟩ := h9
    refine ww_if_eq_t (tgt := 27) dX6_waive_14 (by decide) (by decide) ?_
    refine ww_aload_n (i := 3) dX6_waive_27 rfl rfl ?_
    refine ww_getR (f := 164) wf_X6_232 dX6_waive_28 rfl rfl (show ww_is _ _ 4 from hi4).1 (show ww_is _ _ 4 from hi4).2 hR4 ?_
    refine ww_getI (f := 81) wf_X6_77 dX6_waive_31 rfl rfl (show ww_is _ _ 2 from hl.1).1 (show ww_is _ _ 2 from hl.1).2 ?_
    refine ww_if_eq_f (tgt := 44) dX6_waive_34 (by decide) (by rw [hl.2.2.1]; exact c1) ?_
    refine ww_aload_n (i := 3) dX6_waive_37 rfl rfl ?_
    refine ww_getI (f := 170) wf_X6_227 dX6_waive_38 rfl rfl (show ww_is _ _ 4 from hi4).1 (show ww_is _ _ 4 from hi4).2 ?_
    refine ww_if_le_f (tgt := 54) dX6_waive_41 (by decide) c2 ?_
    exact ww_throw wx_X6_56_236 dX6_waive_44 dX6_waive_47 dX6_waive_48 dX6_waive_50 dX6_waive_53 rfl (Nat.le_of_ble_eq_true rfl) (by omega) (by omega) (by first | exact Nat.le_of_ble_eq_true rfl | (simp [ww_rf_cat, Value.category])) ⟨rfl, rfl⟩
set_option maxRecDepth 20000 in
theorem c_waive_0 (hw : ww_wo g M0 M x pl pe n P) (h : ww_pf M P W kl n S) (hG : q_G S n) {p : Nat} (hp : p < n) (hv : q_rg 1 999 v) (hc : q_waive S p) : ww_C g wy_X6_waive 5 0 0 [.ref x, .int (nI p), .int v] M (ww_cq g M0 none x pl pe n P W kl (ww_u2 S 8 p v)) ww_no := by
  refine ww_ent (by decide +kernel) (Nat.le_of_ble_eq_true rfl) ⟨rfl, rfl, rfl, trivial⟩ ?_
  obtain ⟨⟨hi4, _, _, _, _, hR4⟩, _, _, _, _, ⟨_, _, k8, _⟩, _⟩ := h.1 p hp
  have hkd := q_kd_of hG.2.2.1 hp
  have hl := h.2.1 (q_kd S p) hkd.2
  refine ww_aload_n (i := 0) dX6_waive_0 rfl rfl ?_
  refine ww_iload_n (i := 1) dX6_waive_1 rfl rfl ?_
  refine ww_callV (κ := 7) (r := (RX6, TX6, 4)) wk_X6_83 dX6_waive_2 (c_existing hw h hp) rfl rfl (show ww_is _ _ 7 from hw.1).1 (show ww_is _ _ 7 from hw.1).2 rfl rfl (by omega) (by omega) (by omega) (by first | exact Nat.le_of_ble_eq_true rfl | (simp [ww_rf_cat, Value.category])) rfl (fun E M9 h9 => h9.elim) (fun v9 M9 h9 => ?_)
  obtain ⟨rfl, rfl⟩ := h9
  first | refine ww_astore_n (i := 3) (lv2 := [(0, _), (1, _), (2, _), (3, _)]) dX6_waive_5 rfl (Nat.le_of_ble_eq_true rfl) rfl ?_ | refine ww_astore_nQ (i := 3) (lv2 := [(0, _), (1, _), (2, _), (3, _)]) dX6_waive_5 rfl (Nat.le_of_ble_eq_true rfl) rfl ?_
  refine ww_iload_n (i := 2) dX6_waive_6 rfl rfl ?_
  refine ww_iconst (v := 1) dX6_waive_7 (by decide) ?_
  refine ww_sipush (v := 999) dX6_waive_8 (by decide) ?_
  refine ww_callS wk_X6_41 rfl dX6_waive_11 (c_out_f hv) rfl rfl (by omega) (by omega) (by omega) (by first | exact Nat.le_of_ble_eq_true rfl | (simp [ww_rf_cat, Value.category])) rfl (fun E M9 h9 => h9.elim) (fun v9 M9 h9 => ?_)
  obtain ⟨rfl, rfl⟩ := h9
  refine ww_if_eq_t (tgt := 27) dX6_waive_14 (by decide) (by decide) ?_
  refine ww_aload_n (i := 3) dX6_waive_27 rfl rfl ?_
  refine ww_getR (f := 164) wf_X6_232 dX6_waive_28 rfl rfl (show ww_is _ _ 4 from hi4).1 (show ww_is _ _ 4 from hi4).2 hR4 ?_
  refine ww_getI (f := 81) wf_X6_77 dX6_waive_31 rfl rfl (show ww_is _ _ 2 from hl.1).1 (show ww_is _ _ 2 from hl.1).2 ?_
  refine ww_if_eq_f (tgt := 44) dX6_waive_34 (by decide) (by rw [hl.2.2.1]; exact hc.1) ?_
  refine ww_aload_n (i := 3) dX6_waive_37 rfl rfl ?_
  refine ww_getI (f := 170) wf_X6_227 dX6_waive_38 rfl rfl (show ww_is _ _ 4 from hi4).1 (show ww_is _ _ 4 from hi4).2 ?_
  refine ww_if_le_t (tgt := 54) dX6_waive_41 (by decide) (by rw [k8]; exact hc.2) ?_
  refine ww_aload_n (i := 3) dX6_waive_54 rfl rfl ?_
  refine ww_iload_n (i := 2) dX6_waive_55 rfl rfl ?_
  refine ww_putI (f := 170) wf_X6_227 wt_4_10 dX6_waive_56 rfl rfl (show ww_is _ _ 4 from hi4).1 (show ww_is _ _ 4 from hi4).2 rfl rfl ?_
  exact ww_vreturn dX6_waive_59 rfl ⟨rfl, ww_wo_I hw (by decide), ww_pf_170 h hp⟩
set_option maxRecDepth 20000 in
theorem c_flaw_1 (hw : ww_wo g M0 M x pl pe n P) {p : Int32} (v : Int32) (hc : q_noP n p) : ww_C g wy_X6_flaw 8 1 6 [.ref x, .int p, .int v] M ww_nr (ww_th "java/lang/IndexOutOfBoundsException" M) := by
  refine ww_ent (by decide +kernel) (Nat.le_of_ble_eq_true rfl) ⟨rfl, rfl, rfl, trivial⟩ ?_
  refine ww_aload_n (i := 0) dX6_flaw_0 rfl rfl ?_
  refine ww_iload_n (i := 1) dX6_flaw_1 rfl rfl ?_
  refine ww_callV (κ := 7) (r := (RX6, TX6, 4)) wk_X6_83 dX6_flaw_2 (c_existing_x hw hc) rfl rfl (show ww_is _ _ 7 from hw.1).1 (show ww_is _ _ 7 from hw.1).2 rfl rfl (by omega) (by omega) (by omega) (by first | exact Nat.le_of_ble_eq_true rfl | (simp [ww_rf_cat, Value.category])) rfl (fun E M9 h9 => h9) (fun v9 M9 h9 => ?_)
  exact h9.elim
  -- at 5, locals [0, 1, 2]
set_option maxRecDepth 20000 in
theorem c_flaw_2 (hw : ww_wo g M0 M x pl pe n P) (h : ww_pf M P W kl n S) {p : Nat} (hp : p < n) (hc : ¬ ((S 2 p = 3 ∨ S 2 p = 4) ∧ q_rg 1 99 v)) : ww_C g wy_X6_flaw 8 1 6 [.ref x, .int (nI p), .int v] M ww_nr (ww_th "java/lang/IllegalArgumentException" M) := by
  refine ww_ent (by decide +kernel) (Nat.le_of_ble_eq_true rfl) ⟨rfl, rfl, rfl, trivial⟩ ?_
  have hi4 := (h.1 p hp).1.1
  have hk := ww_pf_kd h p hp
  by_cases c3 : S 2 p = 3
  · have hv : ¬ q_rg 1 99 v := fun z => hc ⟨Or.inl c3, z⟩
    refine ww_aload_n (i := 0) dX6_flaw_0 rfl rfl ?_
    refine ww_iload_n (i := 1) dX6_flaw_1 rfl rfl ?_
    refine ww_callV (κ := 7) (r := (RX6, TX6, 4)) wk_X6_83 dX6_flaw_2 (c_existing hw h hp) rfl rfl (show ww_is _ _ 7 from hw.1).1 (show ww_is _ _ 7 from hw.1).2 rfl rfl (by omega) (by omega) (by omega) (by first | exact Nat.le_of_ble_eq_true rfl | (simp [ww_rf_cat, Value.category])) rfl (fun E M9 h9 => h9.elim) (fun v9 M9 h9 => ?_)
    obtain ⟨rfl, rfl⟩ := h9
    first | refine ww_astore_n (i := 3) (lv2 := [(0, _), (1, _), (2, _), (3, _)]) dX6_flaw_5 rfl (Nat.le_of_ble_eq_true rfl) rfl ?_ | refine ww_astore_nQ (i := 3) (lv2 := [(0, _), (1, _), (2, _), (3, _)]) dX6_flaw_5 rfl (Nat.le_of_ble_eq_true rfl) rfl ?_
    refine ww_aload_n (i := 3) dX6_flaw_6 rfl rfl ?_
    refine ww_getI (f := 161) wf_X6_87 dX6_flaw_7 rfl rfl (show ww_is _ _ 4 from hi4).1 (show ww_is _ _ 4 from hi4).2 ?_
    refine ww_iconst (v := 3) dX6_flaw_10 (by decide) ?_
    refine ww_icmp_eq_t (tgt := 32) dX6_flaw_11 (by decide) (hk.trans c3) ?_
    refine ww_iload_n (i := 2) dX6_flaw_32 rfl rfl ?_
    refine ww_iconst (v := 1) dX6_flaw_33 (by decide) ?_
    refine ww_bipush (v := 99) dX6_flaw_34 (by decide) ?_
    refine ww_callS wk_X6_41 rfl dX6_flaw_36 (c_out_t hv) rfl rfl (by omega) (by omega) (by omega) (by first | exact Nat.le_of_ble_eq_true rfl | (simp [ww_rf_cat, Value.category])) rfl (fun E M9 h9 => h9.elim) (fun v9 M9 h9 => ?_)
    obtain ⟨rfl, rfl⟩ := h9
    refine ww_if_eq_f (tgt := 52) dX6_flaw_39 (by decide) (by decide) ?_
    exact ww_throw wx_X6_45_240 dX6_flaw_42 dX6_flaw_45 dX6_flaw_46 dX6_flaw_48 dX6_flaw_51 rfl (Nat.le_of_ble_eq_true rfl) (by omega) (by omega) (by first | exact Nat.le_of_ble_eq_true rfl | (simp [ww_rf_cat, Value.category])) ⟨rfl, rfl⟩
  · by_cases c4 : S 2 p = 4
    · have hv : ¬ q_rg 1 99 v := fun z => hc ⟨Or.inr c4, z⟩
      refine ww_aload_n (i := 0) dX6_flaw_0 rfl rfl ?_
      refine ww_iload_n (i := 1) dX6_flaw_1 rfl rfl ?_
      refine ww_callV (κ := 7) (r := (RX6, TX6, 4)) wk_X6_83 dX6_flaw_2 (c_existing hw h hp) rfl rfl (show ww_is _ _ 7 from hw.1).1 (show ww_is _ _ 7 from hw.1).2 rfl rfl (by omega) (by omega) (by omega) (by first | exact Nat.le_of_ble_eq_true rfl | (simp [ww_rf_cat, Value.category])) rfl (fun E M9 h9 => h9.elim) (fun v9 M9 h9 => ?_)
      obtain ⟨rfl, rfl⟩ := h9
      first | refine ww_astore_n (i := 3) (lv2 := [(0, _), (1, _), (2, _), (3, _)]) dX6_flaw_5 rfl (Nat.le_of_ble_eq_true rfl) rfl ?_ | refine ww_astore_nQ (i := 3) (lv2 := [(0, _), (1, _), (2, _), (3, _)]) dX6_flaw_5 rfl (Nat.le_of_ble_eq_true rfl) rfl ?_
      refine ww_aload_n (i := 3) dX6_flaw_6 rfl rfl ?_
      refine ww_getI (f := 161) wf_X6_87 dX6_flaw_7 rfl rfl (show ww_is _ _ 4 from hi4).1 (show ww_is _ _ 4 from hi4).2 ?_
      refine ww_iconst (v := 3) dX6_flaw_10 (by decide) ?_
      refine ww_icmp_eq_f (tgt := 32) dX6_flaw_11 (by decide) (by rw [hk]; exact c3) ?_
      refine ww_aload_n (i := 3) dX6_flaw_14 rfl rfl ?_
      refine ww_getI (f := 161) wf_X6_87 dX6_flaw_15 rfl rfl (show ww_is _ _ 4 from hi4).1 (show ww_is _ _ 4 from hi4).2 ?_
      refine ww_iconst (v := 4) dX6_flaw_18 (by decide) ?_
      refine ww_icmp_eq_t (tgt := 32) dX6_flaw_19 (by decide) (hk.trans c4) ?_
      refine ww_iload_n (i := 2) dX6_flaw_32 rfl rfl ?_
      refine ww_iconst (v := 1) dX6_flaw_33 (by decide) ?_
      refine ww_bipush (v := 99) dX6_flaw_34 (by decide) ?_
      refine ww_callS wk_X6_41 rfl dX6_flaw_36 (c_out_t hv) rfl rfl (by omega) (by omega) (by omega) (by first | exact Nat.le_of_ble_eq_true rfl | (simp [ww_rf_cat, Value.category])) rfl (fun E M9 h9 => h9.elim) (fun v9 M9 h9 => ?_)
      obtain ⟨rfl, rfl⟩ := h9
      refine ww_if_eq_f (tgt := 52) dX6_flaw_39 (by decide) (by decide) ?_
      exact ww_throw wx_X6_45_240 dX6_flaw_42 dX6_flaw_45 dX6_flaw_46 dX6_flaw_48 dX6_flaw_51 rfl (Nat.le_of_ble_eq_true rfl) (by omega) (by omega) (by first | exact Nat.le_of_ble_eq_true rfl | (simp [ww_rf_cat, Value.category])) ⟨rfl, rfl⟩
    · refine ww_aload_n (i := 0) dX6_flaw_0 rfl rfl ?_
      refine ww_iload_n (i := 1) dX6_flaw_1 rfl rfl ?_
      refine ww_callV (κ := 7) (r := (RX6, TX6, 4)) wk_X6_83 dX6_flaw_2 (c_existing hw h hp) rfl rfl (show ww_is _ _ 7 from hw.1).1 (show ww_is _ _ 7 from hw.1).2 rfl rfl (by omega) (by omega) (by omega) (by first | exact Nat.le_of_ble_eq_true rfl | (simp [ww_rf_cat, Value.category])) rfl (fun E M9 h9 => h9.elim) (fun v9 M9 h9 => ?_)
      obtain ⟨rfl, rfl⟩ := h9
      first | refine ww_astore_n (i := 3) (lv2 := [(0, _), (1, _), (2, _), (3, _)]) dX6_flaw_5 rfl (Nat.le_of_ble_eq_true rfl) rfl ?_ | refine ww_astore_nQ (i := 3) (lv2 := [(0, _), (1, _), (2, _), (3, _)]) dX6_flaw_5 rfl (Nat.le_of_ble_eq_true rfl) rfl ?_
      refine ww_aload_n (i := 3) dX6_flaw_6 rfl rfl ?_
      refine ww_getI (f := 161) wf_X6_87 dX6_flaw_7 rfl rfl (show ww_is _ _ 4 from hi4).1 (show ww_is _ _ 4 from hi4).2 ?_
      refine ww_iconst (v := 3) dX6_flaw_10 (by decide) ?_
      refine ww_icmp_eq_f (tgt := 32) dX6_flaw_11 (by decide) (by rw [hk]; exact c3) ?_
      refine ww_aload_n (i := 3) dX6_flaw_14 rfl rfl ?_
      refine ww_getI (f := 161) wf_X6_87 dX6_flaw_15 rfl rfl (show ww_is _ _ 4 from hi4).1 (show ww_is _ _ 4 from hi4).2 ?_
      refine ww_iconst (v := 4) dX6_flaw_18 (by decide) ?_
      refine ww_icmp_eq_f (tgt := 32) dX6_flaw_19 (by decide) (by rw [hk]; exact c4) ?_
      exact ww_throw wx_X6_45_238 dX6_flaw_22 dX6_flaw_25 dX6_flaw_26 dX6_flaw_28 dX6_flaw_31 rfl (Nat.le_of_ble_eq_true rfl) (by omega) (by omega) (by first | exact Nat.le_of_ble_eq_true rfl | (simp [ww_rf_cat, Value.category])) ⟨rfl, rfl⟩
set_option maxRecDepth 20000 in
theorem c_flaw_0 (hw : ww_wo g M0 M x pl pe n P) (h : ww_pf M P W kl n S) {p : Nat} (hp : p < n) (hk : S 2 p = 3 ∨ S 2 p = 4) (hv : q_rg 1 99 v) : ww_C g wy_X6_flaw 5 0 0 [.ref x, .int (nI p), .int v] M (ww_cq g M0 (some (.int (S 18 p))) x pl pe n P W kl (ww_u2 (ww_u2 S 18 p v) 19 p (S 6 p))) ww_no := by
  refine ww_ent (by decide +kernel) (Nat.le_of_ble_eq_true rfl) ⟨rfl, rfl, rfl, trivial⟩ ?_
  obtain ⟨⟨hi4, _⟩, _, _, _, _, ⟨k6, _, _, _, _, k18, _⟩, _⟩ := h.1 p hp
  have hkd := ww_pf_kd h p hp
  have e6 : ww_I (ww_sI M 173 (P p) v) 168 (P p) = S 6 p := (ww_sI_f (by decide)).trans k6
  have hend := ww_pf_174 (v := S 6 p) (ww_pf_173 (v := v) h hp) hp
  rw [← k18]
  rw [← e6] at hend
  have e66 : S 6 p = ww_I (ww_sI M 173 (P p) v) 168 (P p) := e6.symm
  rw [e66]
  by_cases c3 : S 2 p = 3
  · refine ww_aload_n (i := 0) dX6_flaw_0 rfl rfl ?_
    refine ww_iload_n (i := 1) dX6_flaw_1 rfl rfl ?_
    refine ww_callV (κ := 7) (r := (RX6, TX6, 4)) wk_X6_83 dX6_flaw_2 (c_existing hw h hp) rfl rfl (show ww_is _ _ 7 from hw.1).1 (show ww_is _ _ 7 from hw.1).2 rfl rfl (by omega) (by omega) (by omega) (by first | exact Nat.le_of_ble_eq_true rfl | (simp [ww_rf_cat, Value.category])) rfl (fun E M9 h9 => h9.elim) (fun v9 M9 h9 => ?_)
    obtain ⟨rfl, rfl⟩ := h9
    first | refine ww_astore_n (i := 3) (lv2 := [(0, _), (1, _), (2, _), (3, _)]) dX6_flaw_5 rfl (Nat.le_of_ble_eq_true rfl) rfl ?_ | refine ww_astore_nQ (i := 3) (lv2 := [(0, _), (1, _), (2, _), (3, _)]) dX6_flaw_5 rfl (Nat.le_of_ble_eq_true rfl) rfl ?_
    refine ww_aload_n (i := 3) dX6_flaw_6 rfl rfl ?_
    refine ww_getI (f := 161) wf_X6_87 dX6_flaw_7 rfl rfl (show ww_is _ _ 4 from hi4).1 (show ww_is _ _ 4 from hi4).2 ?_
    refine ww_iconst (v := 3) dX6_flaw_10 (by decide) ?_
    refine ww_icmp_eq_t (tgt := 32) dX6_flaw_11 (by decide) (hkd.trans c3) ?_
    refine ww_iload_n (i := 2) dX6_flaw_32 rfl rfl ?_
    refine ww_iconst (v := 1) dX6_flaw_33 (by decide) ?_
    refine ww_bipush (v := 99) dX6_flaw_34 (by decide) ?_
    refine ww_callS wk_X6_41 rfl dX6_flaw_36 (c_out_f hv) rfl rfl (by omega) (by omega) (by omega) (by first | exact Nat.le_of_ble_eq_true rfl | (simp [ww_rf_cat, Value.category])) rfl (fun E M9 h9 => h9.elim) (fun v9 M9 h9 => ?_)
    obtain ⟨rfl, rfl⟩ := h9
    refine ww_if_eq_t (tgt := 52) dX6_flaw_39 (by decide) (by decide) ?_
    refine ww_aload_n (i := 3) dX6_flaw_52 rfl rfl ?_
    refine ww_getI (f := 173) wf_X6_181 dX6_flaw_53 rfl rfl (show ww_is _ _ 4 from hi4).1 (show ww_is _ _ 4 from hi4).2 ?_
    refine ww_istore (i := 4) (lv2 := [(0, _), (1, _), (2, _), (3, _), (4, _)]) dX6_flaw_56 (Nat.le_of_ble_eq_true rfl) rfl ?_
    refine ww_aload_n (i := 3) dX6_flaw_58 rfl rfl ?_
    refine ww_iload_n (i := 2) dX6_flaw_59 rfl rfl ?_
    refine ww_putI (f := 173) wf_X6_181 wt_4_13 dX6_flaw_60 rfl rfl (show ww_is _ _ 4 from hi4).1 (show ww_is _ _ 4 from hi4).2 rfl rfl ?_
    refine ww_aload_n (i := 3) dX6_flaw_63 rfl rfl ?_
    refine ww_aload_n (i := 3) dX6_flaw_64 rfl rfl ?_
    refine ww_getI (f := 168) wf_X6_242 dX6_flaw_65 rfl rfl (show ww_is _ _ 4 from hi4).1 (show ww_is _ _ 4 from hi4).2 ?_
    refine ww_putI (f := 174) wf_X6_243 wt_4_14 dX6_flaw_68 rfl rfl (show ww_is _ _ 4 from hi4).1 (show ww_is _ _ 4 from hi4).2 rfl rfl ?_
    refine ww_iload (i := 4) dX6_flaw_71 rfl ?_
    exact ww_ireturn dX6_flaw_73 rfl (by first | rfl | exact ww_b_nar) ⟨rfl, ww_wo_I (ww_wo_I hw (by decide)) (by decide), hend⟩
  · refine ww_aload_n (i := 0) dX6_flaw_0 rfl rfl ?_
    refine ww_iload_n (i := 1) dX6_flaw_1 rfl rfl ?_
    refine ww_callV (κ := 7) (r := (RX6, TX6, 4)) wk_X6_83 dX6_flaw_2 (c_existing hw h hp) rfl rfl (show ww_is _ _ 7 from hw.1).1 (show ww_is _ _ 7 from hw.1).2 rfl rfl (by omega) (by omega) (by omega) (by first | exact Nat.le_of_ble_eq_true rfl | (simp [ww_rf_cat, Value.category])) rfl (fun E M9 h9 => h9.elim) (fun v9 M9 h9 => ?_)
    obtain ⟨rfl, rfl⟩ := h9
    first | refine ww_astore_n (i := 3) (lv2 := [(0, _), (1, _), (2, _), (3, _)]) dX6_flaw_5 rfl (Nat.le_of_ble_eq_true rfl) rfl ?_ | refine ww_astore_nQ (i := 3) (lv2 := [(0, _), (1, _), (2, _), (3, _)]) dX6_flaw_5 rfl (Nat.le_of_ble_eq_true rfl) rfl ?_
    refine ww_aload_n (i := 3) dX6_flaw_6 rfl rfl ?_
    refine ww_getI (f := 161) wf_X6_87 dX6_flaw_7 rfl rfl (show ww_is _ _ 4 from hi4).1 (show ww_is _ _ 4 from hi4).2 ?_
    refine ww_iconst (v := 3) dX6_flaw_10 (by decide) ?_
    refine ww_icmp_eq_f (tgt := 32) dX6_flaw_11 (by decide) (by rw [hkd]; exact c3) ?_
    refine ww_aload_n (i := 3) dX6_flaw_14 rfl rfl ?_
    refine ww_getI (f := 161) wf_X6_87 dX6_flaw_15 rfl rfl (show ww_is _ _ 4 from hi4).1 (show ww_is _ _ 4 from hi4).2 ?_
    refine ww_iconst (v := 4) dX6_flaw_18 (by decide) ?_
    refine ww_icmp_eq_t (tgt := 32) dX6_flaw_19 (by decide) (hkd.trans (hk.resolve_left c3)) ?_
    refine ww_iload_n (i := 2) dX6_flaw_32 rfl rfl ?_
    refine ww_iconst (v := 1) dX6_flaw_33 (by decide) ?_
    refine ww_bipush (v := 99) dX6_flaw_34 (by decide) ?_
    refine ww_callS wk_X6_41 rfl dX6_flaw_36 (c_out_f hv) rfl rfl (by omega) (by omega) (by omega) (by first | exact Nat.le_of_ble_eq_true rfl | (simp [ww_rf_cat, Value.category])) rfl (fun E M9 h9 => h9.elim) (fun v9 M9 h9 => ?_)
    obtain ⟨rfl, rfl⟩ := h9
    refine ww_if_eq_t (tgt := 52) dX6_flaw_39 (by decide) (by decide) ?_
    refine ww_aload_n (i := 3) dX6_flaw_52 rfl rfl ?_
    refine ww_getI (f := 173) wf_X6_181 dX6_flaw_53 rfl rfl (show ww_is _ _ 4 from hi4).1 (show ww_is _ _ 4 from hi4).2 ?_
    refine ww_istore (i := 4) (lv2 := [(0, _), (1, _), (2, _), (3, _), (4, _)]) dX6_flaw_56 (Nat.le_of_ble_eq_true rfl) rfl ?_
    refine ww_aload_n (i := 3) dX6_flaw_58 rfl rfl ?_
    refine ww_iload_n (i := 2) dX6_flaw_59 rfl rfl ?_
    refine ww_putI (f := 173) wf_X6_181 wt_4_13 dX6_flaw_60 rfl rfl (show ww_is _ _ 4 from hi4).1 (show ww_is _ _ 4 from hi4).2 rfl rfl ?_
    refine ww_aload_n (i := 3) dX6_flaw_63 rfl rfl ?_
    refine ww_aload_n (i := 3) dX6_flaw_64 rfl rfl ?_
    refine ww_getI (f := 168) wf_X6_242 dX6_flaw_65 rfl rfl (show ww_is _ _ 4 from hi4).1 (show ww_is _ _ 4 from hi4).2 ?_
    refine ww_putI (f := 174) wf_X6_243 wt_4_14 dX6_flaw_68 rfl rfl (show ww_is _ _ 4 from hi4).1 (show ww_is _ _ 4 from hi4).2 rfl rfl ?_
    refine ww_iload (i := 4) dX6_flaw_71 rfl ?_
    exact ww_ireturn dX6_flaw_73 rfl (by first | rfl | exact ww_b_nar) ⟨rfl, ww_wo_I (ww_wo_I hw (by decide)) (by decide), hend⟩
end WWL1
