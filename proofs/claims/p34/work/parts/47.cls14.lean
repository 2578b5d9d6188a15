section WWI1
variable {g : ww_G} {M0 M M1 : ww_M} {a x pl pe n : Nat} {P W kl : Nat → Nat} {S : Nat → Nat → Int32}
set_option maxRecDepth 20000 in
theorem c_existing_x (hw : ww_wo g M0 M x pl pe n P) {p : Int32} (hc : q_noP n p) : ww_C g wy_X6_existing 7 1 6 [.ref x, .int p] M ww_nr (ww_th "java/lang/IndexOutOfBoundsException" M) := by
  refine ww_ent (by decide +kernel) (Nat.le_of_ble_eq_true rfl) ⟨rfl, rfl, trivial⟩ ?_
  have h6 := hw.2.2.2.1
  have hsz := l_size (g := g) hw.2.2.1
  by_cases h1 : p < 0
  · refine ww_iload_n (i := 1) dX6_existing_0 rfl rfl ?_
    refine ww_if_lt_t (tgt := 15) dX6_existing_1 (by decide) h1 ?_
    exact ww_throwW wx_X6_305_341 dX6_existing_15 dX6_existing_18 dX6_existing_19 dX6_existing_22 dX6_existing_25 rfl (Nat.le_of_ble_eq_true rfl) (by omega) (by omega) (by first | exact Nat.le_of_ble_eq_true rfl | (simp [ww_rf_cat, Value.category])) ⟨rfl, rfl⟩
  · have h2 : ¬ p < nI n := fun z => hc (by
      rw [ww_lt, nI_toInt (by omega)] at z
      rw [ww_lt, show (0 : Int32).toInt = 0 from rfl] at h1
      exact ⟨by omega, z⟩)
    refine ww_iload_n (i := 1) dX6_existing_0 rfl rfl ?_
    refine ww_if_lt_f (tgt := 15) dX6_existing_1 (by decide) h1 ?_
    refine ww_iload_n (i := 1) dX6_existing_4 rfl rfl ?_
    refine ww_aload_n (i := 0) dX6_existing_5 rfl rfl ?_
    refine ww_getR (f := 280) wf_X6_10 dX6_existing_6 rfl rfl (show ww_is _ _ 7 from hw.1).1 (show ww_is _ _ 7 from hw.1).2 hw.2.1 ?_
    refine ww_callV (κ := 0) (r := (RJx4a65c, TJx4a65c, 3)) wk_X6_52 dX6_existing_9 (hsz) rfl rfl (show ww_is _ _ 0 from hw.2.2.1.1).1 (show ww_is _ _ 0 from hw.2.2.1.1).2 rfl rfl (by omega) (by omega) (by omega) (by first | exact Nat.le_of_ble_eq_true rfl | (simp [ww_rf_cat, Value.category])) rfl (fun E M9 h9 => h9.elim) (fun v9 M9 h9 => ?_)
    obtain ⟨rfl, rfl⟩ := h9
    refine ww_icmp_lt_f (tgt := 26) dX6_existing_12 (by decide) h2 ?_
    exact ww_throwW wx_X6_305_341 dX6_existing_15 dX6_existing_18 dX6_existing_19 dX6_existing_22 dX6_existing_25 rfl (Nat.le_of_ble_eq_true rfl) (by omega) (by omega) (by first | exact Nat.le_of_ble_eq_true rfl | (simp [ww_rf_cat, Value.category])) ⟨rfl, rfl⟩
set_option maxRecDepth 20000 in
theorem c_existingTrain_1 (hw : ww_wo g M0 M x pl pe n P) {p : Int32} (hc : q_noP n p) : ww_C g wy_X6_existingTrain 8 1 6 [.ref x, .int p] M ww_nr (ww_th "java/lang/IndexOutOfBoundsException" M) := by
  refine ww_ent (by decide +kernel) (Nat.le_of_ble_eq_true rfl) ⟨rfl, rfl, trivial⟩ ?_
  refine ww_aload_n (i := 0) dX6_existingTrain_0 rfl rfl ?_
  refine ww_iload_n (i := 1) dX6_existingTrain_1 rfl rfl ?_
  refine ww_callV (κ := 7) (r := (RX6, TX6, 4)) wk_X6_83 dX6_existingTrain_2 (c_existing_x hw hc) rfl rfl (show ww_is _ _ 7 from hw.1).1 (show ww_is _ _ 7 from hw.1).2 rfl rfl (by omega) (by omega) (by omega) (by first | exact Nat.le_of_ble_eq_true rfl | (simp [ww_rf_cat, Value.category])) rfl (fun E M9 h9 => h9) (fun v9 M9 h9 => ?_)
  exact h9.elim
  -- at 5, locals [0, 1]
set_option maxRecDepth 20000 in
theorem c_existingTrain_2 (hw : ww_wo g M0 M x pl pe n P) (h : ww_pf M P W kl n S) {p : Nat} (hp : p < n) (hk : ¬ S 2 p = 0) : ww_C g wy_X6_existingTrain 8 1 6 [.ref x, .int (nI p)] M ww_nr (ww_th "java/lang/IllegalArgumentException" M) := by
  refine ww_ent (by decide +kernel) (Nat.le_of_ble_eq_true rfl) ⟨rfl, rfl, trivial⟩ ?_
  have hi4 := (h.1 p hp).1.1
  have hk' : ¬ ww_I M 161 (P p) = 0 := fun z => hk ((ww_pf_kd h p hp).symm.trans z)
  refine ww_aload_n (i := 0) dX6_existingTrain_0 rfl rfl ?_
  refine ww_iload_n (i := 1) dX6_existingTrain_1 rfl rfl ?_
  refine ww_callV (κ := 7) (r := (RX6, TX6, 4)) wk_X6_83 dX6_existingTrain_2 (c_existing hw h hp) rfl rfl (show ww_is _ _ 7 from hw.1).1 (show ww_is _ _ 7 from hw.1).2 rfl rfl (by omega) (by omega) (by omega) (by first | exact Nat.le_of_ble_eq_true rfl | (simp [ww_rf_cat, Value.category])) rfl (fun E M9 h9 => h9.elim) (fun v9 M9 h9 => ?_)
  obtain ⟨rfl, rfl⟩ := h9
  first | refine ww_astore_n (i := 2) (lv2 := [(0, _), (1, _), (2, _)]) dX6_existingTrain_5 rfl (Nat.le_of_ble_eq_true rfl) rfl ?_ | refine ww_astore_nQ (i := 2) (lv2 := [(0, _), (1, _), (2, _)]) dX6_existingTrain_5 rfl (Nat.le_of_ble_eq_true rfl) rfl ?_
  refine ww_aload_n (i := 2) dX6_existingTrain_6 rfl rfl ?_
  refine ww_getI (f := 161) wf_X6_87 dX6_existingTrain_7 rfl rfl (show ww_is _ _ 4 from hi4).1 (show ww_is _ _ 4 from hi4).2 ?_
  refine ww_if_eq_f (tgt := 24) dX6_existingTrain_10 (by decide) hk' ?_
  exact ww_throwW wx_X6_45_343 dX6_existingTrain_13 dX6_existingTrain_16 dX6_existingTrain_17 dX6_existingTrain_20 dX6_existingTrain_23 rfl (Nat.le_of_ble_eq_true rfl) (by omega) (by omega) (by first | exact Nat.le_of_ble_eq_true rfl | (simp [ww_rf_cat, Value.category])) ⟨rfl, rfl⟩
set_option maxRecDepth 20000 in
theorem c_existingWheel_1 (hw : ww_wo g M0 M x pl pe n P) {p : Int32} (hc : q_noP n p) : ww_C g wy_X6_existingWheel 8 1 6 [.ref x, .int p] M ww_nr (ww_th "java/lang/IndexOutOfBoundsException" M) := by
  refine ww_ent (by decide +kernel) (Nat.le_of_ble_eq_true rfl) ⟨rfl, rfl, trivial⟩ ?_
  refine ww_aload_n (i := 0) dX6_existingWheel_0 rfl rfl ?_
  refine ww_iload_n (i := 1) dX6_existingWheel_1 rfl rfl ?_
  refine ww_callV (κ := 7) (r := (RX6, TX6, 4)) wk_X6_83 dX6_existingWheel_2 (c_existing_x hw hc) rfl rfl (show ww_is _ _ 7 from hw.1).1 (show ww_is _ _ 7 from hw.1).2 rfl rfl (by omega) (by omega) (by omega) (by first | exact Nat.le_of_ble_eq_true rfl | (simp [ww_rf_cat, Value.category])) rfl (fun E M9 h9 => h9) (fun v9 M9 h9 => ?_)
  exact h9.elim
  -- at 5, locals [0, 1]
set_option maxRecDepth 20000 in
theorem c_existingWheel_2 (hw : ww_wo g M0 M x pl pe n P) (h : ww_pf M P W kl n S) {p : Nat} (hp : p < n) (hk : ¬ S 2 p = 3) : ww_C g wy_X6_existingWheel 8 1 6 [.ref x, .int (nI p)] M ww_nr (ww_th "java/lang/IllegalArgumentException" M) := by
  refine ww_ent (by decide +kernel) (Nat.le_of_ble_eq_true rfl) ⟨rfl, rfl, trivial⟩ ?_
  have hi4 := (h.1 p hp).1.1
  have hR := (h.1 p hp).2.2.1 hk
  refine ww_aload_n (i := 0) dX6_existingWheel_0 rfl rfl ?_
  refine ww_iload_n (i := 1) dX6_existingWheel_1 rfl rfl ?_
  refine ww_callV (κ := 7) (r := (RX6, TX6, 4)) wk_X6_83 dX6_existingWheel_2 (c_existing hw h hp) rfl rfl (show ww_is _ _ 7 from hw.1).1 (show ww_is _ _ 7 from hw.1).2 rfl rfl (by omega) (by omega) (by omega) (by first | exact Nat.le_of_ble_eq_true rfl | (simp [ww_rf_cat, Value.category])) rfl (fun E M9 h9 => h9.elim) (fun v9 M9 h9 => ?_)
  obtain ⟨rfl, rfl⟩ := h9
  refine ww_getN (f := 165) wf_X6_345 dX6_existingWheel_5 rfl rfl (show ww_is _ _ 4 from hi4).1 (show ww_is _ _ 4 from hi4).2 hR ?_
  -- at 8, locals [0, 1]
  refine ww_astore_nQ (i := 2) (r := none) (lv2 := [(0, _), (1, _), (2, _)]) dX6_existingWheel_8 rfl (Nat.le_of_ble_eq_true rfl) rfl ?_
  refine ww_aload_nQ (i := 2) (r := none) dX6_existingWheel_9 rfl rfl ?_
  refine ww_ifnonnull_f dX6_existingWheel_10 ?_
  exact ww_throwW wx_X6_45_349 dX6_existingWheel_13 dX6_existingWheel_16 dX6_existingWheel_17 dX6_existingWheel_20 dX6_existingWheel_23 rfl (Nat.le_of_ble_eq_true rfl) (by omega) (by omega) (by first | exact Nat.le_of_ble_eq_true rfl | (simp [ww_rf_cat, Value.category])) ⟨rfl, rfl⟩
/-! what is only asked -/
set_option maxRecDepth 20000 in
theorem c_head (hw : ww_wo g M0 M x pl pe n P) (h : ww_pf M P W kl n S) (hG : q_G S n) {p : Nat} (hp : p < n) : ww_C g wy_X6_head 5 0 0 [.ref x, .int (nI p)] M (ww_ret (some (.int (nI (q_hd (S 5) 5 p)))) M) ww_no := by
  refine ww_ent (by decide +kernel) (Nat.le_of_ble_eq_true rfl) ⟨rfl, rfl, trivial⟩ ?_
  have hd := q_hd_lt hG.2.2.1 hG.2.1 5 p hp
  have hi4 := (h.1 p hp).1.1
  have ht4 := (h.1 _ hd).1.1
  have hnum := (h.1 _ hd).1.2.1
  rw [← hnum]
  refine ww_aload_n (i := 0) dX6_head_0 rfl rfl ?_
  refine ww_iload_n (i := 1) dX6_head_1 rfl rfl ?_
  refine ww_callV (κ := 7) (r := (RX6, TX6, 4)) wk_X6_83 dX6_head_2 (c_existing hw h hp) rfl rfl (show ww_is _ _ 7 from hw.1).1 (show ww_is _ _ 7 from hw.1).2 rfl rfl (by omega) (by omega) (by omega) (by first | exact Nat.le_of_ble_eq_true rfl | (simp [ww_rf_cat, Value.category])) rfl (fun E M9 h9 => h9.elim) (fun v9 M9 h9 => ?_)
  obtain ⟨rfl, rfl⟩ := h9
  refine ww_callV (κ := 4) (r := (RX3, TX3, 18)) wk_X6_137 dX6_head_5 (p_top h hG hp) rfl rfl (show ww_is _ _ 4 from hi4).1 (show ww_is _ _ 4 from hi4).2 rfl rfl (by omega) (by omega) (by omega) (by first | exact Nat.le_of_ble_eq_true rfl | (simp [ww_rf_cat, Value.category])) rfl (fun E M9 h9 => h9.elim) (fun v9 M9 h9 => ?_)
  obtain ⟨rfl, rfl⟩ := h9
  refine ww_getI (f := 160) wf_X6_149 dX6_head_8 rfl rfl (show ww_is _ _ 4 from ht4).1 (show ww_is _ _ 4 from ht4).2 ?_
  exact ww_ireturn dX6_head_11 rfl (by first | rfl | exact ww_b_nar) ⟨rfl, rfl⟩
set_option maxRecDepth 20000 in
theorem c_bars (hw : ww_wo g M0 M x pl pe n P) (h : ww_pf M P W kl n S) (hG : q_G S n) {p : Nat} (hp : p < n) (hk : S 2 p = 0) : ww_C g wy_X6_bars 9 0 0 [.ref x, .int (nI p)] M (ww_ret (some (.int (nI (q_fbar S n p 7 1)))) M) ww_no := by
  refine ww_ent (by decide +kernel) (Nat.le_of_ble_eq_true rfl) ⟨rfl, rfl, trivial⟩ ?_
  have hi4 := (h.1 p hp).1.1
  refine ww_aload_n (i := 0) dX6_bars_0 rfl rfl ?_
  refine ww_aload_n (i := 0) dX6_bars_1 rfl rfl ?_
  refine ww_iload_n (i := 1) dX6_bars_2 rfl rfl ?_
  refine ww_callV (κ := 7) (r := (RX6, TX6, 4)) wk_X6_160 dX6_bars_3 (c_existingTrain hw h hp hk) rfl rfl (show ww_is _ _ 7 from hw.1).1 (show ww_is _ _ 7 from hw.1).2 rfl rfl (by omega) (by omega) (by omega) (by first | exact Nat.le_of_ble_eq_true rfl | (simp [ww_rf_cat, Value.category])) rfl (fun E M9 h9 => h9.elim) (fun v9 M9 h9 => ?_)
  obtain ⟨rfl, rfl⟩ := h9
  refine ww_callV (κ := 7) (r := (RX6, TX6, 4)) wk_X6_258 dX6_bars_6 (c_firstBar hw h hG hp) rfl rfl (show ww_is _ _ 7 from hw.1).1 (show ww_is _ _ 7 from hw.1).2 rfl rfl (by omega) (by omega) (by omega) (by first | exact Nat.le_of_ble_eq_true rfl | (simp [ww_rf_cat, Value.category])) rfl (fun E M9 h9 => h9.elim) (fun v9 M9 h9 => ?_)
  obtain ⟨rfl, rfl⟩ := h9
  exact ww_ireturn dX6_bars_9 rfl (by first | rfl | exact ww_b_nar) ⟨rfl, rfl⟩
set_option maxRecDepth 20000 in
theorem c_isReleased (hw : ww_wo g M0 M x pl pe n P) (h : ww_pf M P W kl n S) (hG : q_G S n) {p : Nat} (hp : p < n) (hk : S 2 p = 0) : ww_C g wy_X6_isReleased 6 0 0 [.ref x, .int (nI p)] M (ww_ret (some (.int (S 11 p))) M) ww_no := by
  refine ww_ent (by decide +kernel) (Nat.le_of_ble_eq_true rfl) ⟨rfl, rfl, trivial⟩ ?_
  have hi4 := (h.1 p hp).1.1
  have k11 : ww_I M 175 (P p) = S 11 p := (h.1 p hp).2.2.2.2.2.1.2.2.2.2.2.2.2.1
  have hnar : narrow .boolean (.int (ww_I M 175 (P p))) = .int (ww_I M 175 (P p)) := by
    rw [k11]
    rcases hG.2.2.2.2.2.1 p with e | e <;> rw [e] <;> rfl
  rw [← k11]
  refine ww_aload_n (i := 0) dX6_isReleased_0 rfl rfl ?_
  refine ww_iload_n (i := 1) dX6_isReleased_1 rfl rfl ?_
  refine ww_callV (κ := 7) (r := (RX6, TX6, 4)) wk_X6_160 dX6_isReleased_2 (c_existingTrain hw h hp hk) rfl rfl (show ww_is _ _ 7 from hw.1).1 (show ww_is _ _ 7 from hw.1).2 rfl rfl (by omega) (by omega) (by omega) (by first | exact Nat.le_of_ble_eq_true rfl | (simp [ww_rf_cat, Value.category])) rfl (fun E M9 h9 => h9.elim) (fun v9 M9 h9 => ?_)
  obtain ⟨rfl, rfl⟩ := h9
  refine ww_getI (f := 175) wf_X6_141 dX6_isReleased_5 rfl rfl (show ww_is _ _ 4 from hi4).1 (show ww_is _ _ 4 from hi4).2 ?_
  -- at 8, locals [0, 1]
  exact ww_ireturn dX6_isReleased_8 rfl hnar ⟨rfl, rfl⟩
end WWI1
