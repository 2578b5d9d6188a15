/-! ===== the law's calls of the class ===== -/
section WWL9
variable {g : ww_G} {M : ww_M} {x ol : Nat} {a1 a2 a3 a4 r : Int32} {R : ww_M → Prop} {d' mc' ms' : Nat}
/-- the end of such a call -/
def ww_lo0 (ol : Nat) (r : Int32) (R : ww_M → Prop) : Option Value → ww_M → Prop := fun v M2 => v = some (.int 0) ∧ ∃ M1, R M1 ∧ ww_sZ M1 ol 0 r.toInt64 = M2
def ww_rR (v0 : Option Value) (R : ww_M → Prop) : Option Value → ww_M → Prop := fun v M' => v = v0 ∧ R M'
set_option maxRecDepth 20000 in
theorem lw_part_0 (h : ww_C g wy_X6_part d' mc' ms' [.ref x, .int a1, .int a2, .int a3] M (ww_rR (some (.int r)) R) ww_no) (hx : ww_is M.1 x 7) (hR : ∀ M1, R M1 → ww_is M1.1 ol 13 ∧ ww_N M1 ol = 1) (hd : d' ≤ 14) (hmc : mc' ≤ 10) (hms : ms' ≤ 1100) : ww_C g wy_L_part 15 10 1100 [.ref x, .int a1, .int a2, .int a3, .ref ol] M (ww_lo0 ol r R) ww_no := by
  refine ww_ent (by decide +kernel) (Nat.le_of_ble_eq_true rfl) ⟨rfl, rfl, rfl, rfl, rfl, trivial⟩ ?_
  refine ww_aload (i := 4) dL_part_0 rfl ?_
  refine ww_iconst (v := 0) dL_part_2 (by decide) ?_
  refine ww_aload_n (i := 0) dL_part_3 rfl rfl ?_
  refine ww_iload_n (i := 1) dL_part_4 rfl rfl ?_
  refine ww_iload_n (i := 2) dL_part_5 rfl rfl ?_
  refine ww_iload_n (i := 3) dL_part_6 rfl rfl ?_
  -- at 7, locals [0, 1, 2, 3, 4]
  refine ww_callVX (κ := 7) (r := (RX6, TX6, 4)) wk_L_7 dL_part_7 h rfl rfl hx.1 hx.2 rfl rfl (by omega) hmc hms (by first | exact Nat.le_of_ble_eq_true rfl | (simp [ww_rf_cat, Value.category])) (fun E M9 h9 => h9.elim) (fun v9 M9 h9 => ?_)
  obtain ⟨rfl, hr9⟩ := h9
  obtain ⟨o1, o2⟩ := hR M9 hr9
  refine ww_i2l dL_part_10 ?_
  -- at 11, locals [0, 1, 2, 3, 4]
  refine ww_last (j := 0) dL_part_11 o1.1 o1.2 nI_0.symm (by rw [o2]; decide) (by rw [o2]; decide) ?_
  refine ww_goto (tgt := 23) dL_part_12 (by decide) ?_
  refine ww_iconst (v := 0) dL_part_23 (by decide) ?_
  exact ww_ireturn dL_part_24 rfl (by first | rfl | exact ww_b_nar) ⟨rfl, M9, hr9, rfl⟩
set_option maxRecDepth 20000 in
theorem lw_part_1 (h : ww_C g wy_X6_part d' mc' ms' [.ref x, .int a1, .int a2, .int a3] M ww_nr (ww_th "java/lang/IllegalArgumentException" M)) (hx : ww_is M.1 x 7) (hd : d' ≤ 14) (hmc : mc' ≤ 10) (hms : ms' ≤ 1100) : ww_C g wy_L_part 15 10 1100 [.ref x, .int a1, .int a2, .int a3, .ref ol] M (ww_ret (some (.int 1)) M) ww_no := by
  refine ww_ent (by decide +kernel) (Nat.le_of_ble_eq_true rfl) ⟨rfl, rfl, rfl, rfl, rfl, trivial⟩ ?_
  refine ww_aload (i := 4) dL_part_0 rfl ?_
  refine ww_iconst (v := 0) dL_part_2 (by decide) ?_
  refine ww_aload_n (i := 0) dL_part_3 rfl rfl ?_
  refine ww_iload_n (i := 1) dL_part_4 rfl rfl ?_
  refine ww_iload_n (i := 2) dL_part_5 rfl rfl ?_
  refine ww_iload_n (i := 3) dL_part_6 rfl rfl ?_
  -- at 7, locals [0, 1, 2, 3, 4]
  refine ww_callVX (κ := 7) (r := (RX6, TX6, 4)) wk_L_7 dL_part_7 h rfl rfl hx.1 hx.2 rfl rfl (by omega) hmc hms (by first | exact Nat.le_of_ble_eq_true rfl | (simp [ww_rf_cat, Value.category])) (fun E M9 h9 => ?_) (fun v9 M9 h9 => h9.elim)
  obtain ⟨rfl, rfl⟩ := h9
  refine ⟨15, ⟨[], (0, 12, 15, 13), [(0, 12, 19, 15)], "java/lang/IllegalArgumentException", rfl, (fun z hz => by cases hz), ⟨by decide, by decide⟩, by decide, wm_242, by decide, rfl⟩, fun q => ?_⟩
  first | refine ww_astore (i := 5) (lv2 := [(0, _), (1, _), (2, _), (3, _), (4, _), (5, _)]) dL_part_15 (Nat.le_of_ble_eq_true rfl) rfl ?_ | refine ww_astoreQ (i := 5) (lv2 := [(0, _), (1, _), (2, _), (3, _), (4, _), (5, _)]) dL_part_15 (Nat.le_of_ble_eq_true rfl) rfl ?_
  refine ww_iconst (v := 1) dL_part_17 (by decide) ?_
  exact ww_ireturn dL_part_18 rfl (by first | rfl | exact ww_b_nar) ⟨rfl, rfl⟩
set_option maxRecDepth 20000 in
theorem lw_part_2 (h : ww_C g wy_X6_part d' mc' ms' [.ref x, .int a1, .int a2, .int a3] M ww_nr (ww_th "java/lang/IllegalStateException" M)) (hx : ww_is M.1 x 7) (hd : d' ≤ 14) (hmc : mc' ≤ 10) (hms : ms' ≤ 1100) : ww_C g wy_L_part 15 10 1100 [.ref x, .int a1, .int a2, .int a3, .ref ol] M (ww_ret (some (.int 2)) M) ww_no := by
  refine ww_ent (by decide +kernel) (Nat.le_of_ble_eq_true rfl) ⟨rfl, rfl, rfl, rfl, rfl, trivial⟩ ?_
  refine ww_aload (i := 4) dL_part_0 rfl ?_
  refine ww_iconst (v := 0) dL_part_2 (by decide) ?_
  refine ww_aload_n (i := 0) dL_part_3 rfl rfl ?_
  refine ww_iload_n (i := 1) dL_part_4 rfl rfl ?_
  refine ww_iload_n (i := 2) dL_part_5 rfl rfl ?_
  refine ww_iload_n (i := 3) dL_part_6 rfl rfl ?_
  -- at 7, locals [0, 1, 2, 3, 4]
  refine ww_callVX (κ := 7) (r := (RX6, TX6, 4)) wk_L_7 dL_part_7 h rfl rfl hx.1 hx.2 rfl rfl (by omega) hmc hms (by first | exact Nat.le_of_ble_eq_true rfl | (simp [ww_rf_cat, Value.category])) (fun E M9 h9 => ?_) (fun v9 M9 h9 => h9.elim)
  obtain ⟨rfl, rfl⟩ := h9
  refine ⟨19, ⟨[(0, 12, 15, 13)], (0, 12, 19, 15), [], "java/lang/IllegalStateException", rfl, (List.forall_mem_cons.mpr ⟨⟨by decide, "java/lang/IllegalArgumentException", wm_242, by decide⟩, fun _ h => absurd h List.not_mem_nil⟩), ⟨by decide, by decide⟩, by decide, wm_243, by decide, rfl⟩, fun q => ?_⟩
  first | refine ww_astore (i := 5) (lv2 := [(0, _), (1, _), (2, _), (3, _), (4, _), (5, _)]) dL_part_19 (Nat.le_of_ble_eq_true rfl) rfl ?_ | refine ww_astoreQ (i := 5) (lv2 := [(0, _), (1, _), (2, _), (3, _), (4, _), (5, _)]) dL_part_19 (Nat.le_of_ble_eq_true rfl) rfl ?_
  refine ww_iconst (v := 2) dL_part_21 (by decide) ?_
  exact ww_ireturn dL_part_22 rfl (by first | rfl | exact ww_b_nar) ⟨rfl, rfl⟩
set_option maxRecDepth 20000 in
theorem lw_limits_0 (h : ww_C g wy_X6_limits d' mc' ms' [.ref x, .int a1, .int a2, .int a3, .int a4] M (ww_rR (some (.int r)) R) ww_no) (hx : ww_is M.1 x 7) (hR : ∀ M1, R M1 → ww_is M1.1 ol 13 ∧ ww_N M1 ol = 1) (hd : d' ≤ 14) (hmc : mc' ≤ 10) (hms : ms' ≤ 1100) : ww_C g wy_L_limits 15 10 1100 [.ref x, .int a1, .int a2, .int a3, .int a4, .ref ol] M (ww_lo0 ol r R) ww_no := by
  refine ww_ent (by decide +kernel) (Nat.le_of_ble_eq_true rfl) ⟨rfl, rfl, rfl, rfl, rfl, rfl, trivial⟩ ?_
  refine ww_aload (i := 5) dL_limits_0 rfl ?_
  refine ww_iconst (v := 0) dL_limits_2 (by decide) ?_
  refine ww_aload_n (i := 0) dL_limits_3 rfl rfl ?_
  refine ww_iload_n (i := 1) dL_limits_4 rfl rfl ?_
  refine ww_iload_n (i := 2) dL_limits_5 rfl rfl ?_
  refine ww_iload_n (i := 3) dL_limits_6 rfl rfl ?_
  refine ww_iload (i := 4) dL_limits_7 rfl ?_
  -- at 9, locals [0, 1, 2, 3, 4, 5]
  refine ww_callVX (κ := 7) (r := (RX6, TX6, 4)) wk_L_17 dL_limits_9 h rfl rfl hx.1 hx.2 rfl rfl (by omega) hmc hms (by first | exact Nat.le_of_ble_eq_true rfl | (simp [ww_rf_cat, Value.category])) (fun E M9 h9 => h9.elim) (fun v9 M9 h9 => ?_)
  obtain ⟨rfl, hr9⟩ := h9
  obtain ⟨o1, o2⟩ := hR M9 hr9
  refine ww_i2l dL_limits_12 ?_
  -- at 13, locals [0, 1, 2, 3, 4, 5]
  refine ww_last (j := 0) dL_limits_13 o1.1 o1.2 nI_0.symm (by rw [o2]; decide) (by rw [o2]; decide) ?_
  refine ww_goto (tgt := 21) dL_limits_14 (by decide) ?_
  refine ww_iconst (v := 0) dL_limits_21 (by decide) ?_
  exact ww_ireturn dL_limits_22 rfl (by first | rfl | exact ww_b_nar) ⟨rfl, M9, hr9, rfl⟩
set_option maxRecDepth 20000 in
theorem lw_limits_1 (h : ww_C g wy_X6_limits d' mc' ms' [.ref x, .int a1, .int a2, .int a3, .int a4] M ww_nr (ww_th "java/lang/IllegalArgumentException" M)) (hx : ww_is M.1 x 7) (hd : d' ≤ 14) (hmc : mc' ≤ 10) (hms : ms' ≤ 1100) : ww_C g wy_L_limits 15 10 1100 [.ref x, .int a1, .int a2, .int a3, .int a4, .ref ol] M (ww_ret (some (.int 1)) M) ww_no := by
  refine ww_ent (by decide +kernel) (Nat.le_of_ble_eq_true rfl) ⟨rfl, rfl, rfl, rfl, rfl, rfl, trivial⟩ ?_
  refine ww_aload (i := 5) dL_limits_0 rfl ?_
  refine ww_iconst (v := 0) dL_limits_2 (by decide) ?_
  refine ww_aload_n (i := 0) dL_limits_3 rfl rfl ?_
  refine ww_iload_n (i := 1) dL_limits_4 rfl rfl ?_
  refine ww_iload_n (i := 2) dL_limits_5 rfl rfl ?_
  refine ww_iload_n (i := 3) dL_limits_6 rfl rfl ?_
  refine ww_iload (i := 4) dL_limits_7 rfl ?_
  -- at 9, locals [0, 1, 2, 3, 4, 5]
  refine ww_callVX (κ := 7) (r := (RX6, TX6, 4)) wk_L_17 dL_limits_9 h rfl rfl hx.1 hx.2 rfl rfl (by omega) hmc hms (by first | exact Nat.le_of_ble_eq_true rfl | (simp [ww_rf_cat, Value.category])) (fun E M9 h9 => ?_) (fun v9 M9 h9 => h9.elim)
  obtain ⟨rfl, rfl⟩ := h9
  refine ⟨17, ⟨[], (0, 14, 17, 13), [], "java/lang/IllegalArgumentException", rfl, (fun z hz => by cases hz), ⟨by decide, by decide⟩, by decide, wm_242, by decide, rfl⟩, fun q => ?_⟩
  first | refine ww_astore (i := 6) (lv2 := [(0, _), (1, _), (2, _), (3, _), (4, _), (5, _), (6, _)]) dL_limits_17 (Nat.le_of_ble_eq_true rfl) rfl ?_ | refine ww_astoreQ (i := 6) (lv2 := [(0, _), (1, _), (2, _), (3, _), (4, _), (5, _), (6, _)]) dL_limits_17 (Nat.le_of_ble_eq_true rfl) rfl ?_
  refine ww_iconst (v := 1) dL_limits_19 (by decide) ?_
  exact ww_ireturn dL_limits_20 rfl (by first | rfl | exact ww_b_nar) ⟨rfl, rfl⟩
set_option maxRecDepth 20000 in
theorem lw_fit_0 (h : ww_C g wy_X6_fit d' mc' ms' [.ref x, .int a1, .int a2] M (ww_rR (some (.int r)) R) ww_no) (hx : ww_is M.1 x 7) (hR : ∀ M1, R M1 → ww_is M1.1 ol 13 ∧ ww_N M1 ol = 1) (hd : d' ≤ 14) (hmc : mc' ≤ 10) (hms : ms' ≤ 1100) : ww_C g wy_L_fit 15 10 1100 [.ref x, .int a1, .int a2, .ref ol] M (ww_lo0 ol r R) ww_no := by
  refine ww_ent (by decide +kernel) (Nat.le_of_ble_eq_true rfl) ⟨rfl, rfl, rfl, rfl, trivial⟩ ?_
  refine ww_aload_n (i := 3) dL_fit_0 rfl rfl ?_
  refine ww_iconst (v := 0) dL_fit_1 (by decide) ?_
  refine ww_aload_n (i := 0) dL_fit_2 rfl rfl ?_
  refine ww_iload_n (i := 1) dL_fit_3 rfl rfl ?_
  refine ww_iload_n (i := 2) dL_fit_4 rfl rfl ?_
  -- at 5, locals [0, 1, 2, 3]
  refine ww_callVX (κ := 7) (r := (RX6, TX6, 4)) wk_L_21 dL_fit_5 h rfl rfl hx.1 hx.2 rfl rfl (by omega) hmc hms (by first | exact Nat.le_of_ble_eq_true rfl | (simp [ww_rf_cat, Value.category])) (fun E M9 h9 => h9.elim) (fun v9 M9 h9 => ?_)
  obtain ⟨rfl, hr9⟩ := h9
  obtain ⟨o1, o2⟩ := hR M9 hr9
  refine ww_i2l dL_fit_8 ?_
  -- at 9, locals [0, 1, 2, 3]
  refine ww_last (j := 0) dL_fit_9 o1.1 o1.2 nI_0.symm (by rw [o2]; decide) (by rw [o2]; decide) ?_
  refine ww_goto (tgt := 25) dL_fit_10 (by decide) ?_
  refine ww_iconst (v := 0) dL_fit_25 (by decide) ?_
  exact ww_ireturn dL_fit_26 rfl (by first | rfl | exact ww_b_nar) ⟨rfl, M9, hr9, rfl⟩
set_option maxRecDepth 20000 in
theorem lw_fit_1 (h : ww_C g wy_X6_fit d' mc' ms' [.ref x, .int a1, .int a2] M ww_nr (ww_th "java/lang/IndexOutOfBoundsException" M)) (hx : ww_is M.1 x 7) (hd : d' ≤ 14) (hmc : mc' ≤ 10) (hms : ms' ≤ 1100) : ww_C g wy_L_fit 15 10 1100 [.ref x, .int a1, .int a2, .ref ol] M (ww_ret (some (.int 1)) M) ww_no := by
  refine ww_ent (by decide +kernel) (Nat.le_of_ble_eq_true rfl) ⟨rfl, rfl, rfl, rfl, trivial⟩ ?_
  refine ww_aload_n (i := 3) dL_fit_0 rfl rfl ?_
  refine ww_iconst (v := 0) dL_fit_1 (by decide) ?_
  refine ww_aload_n (i := 0) dL_fit_2 rfl rfl ?_
  refine ww_iload_n (i := 1) dL_fit_3 rfl rfl ?_
  refine ww_iload_n (i := 2) dL_fit_4 rfl rfl ?_
  -- at 5, locals [0, 1, 2, 3]
  refine ww_callVX (κ := 7) (r := (RX6, TX6, 4)) wk_L_21 dL_fit_5 h rfl rfl hx.1 hx.2 rfl rfl (by omega) hmc hms (by first | exact Nat.le_of_ble_eq_true rfl | (simp [ww_rf_cat, Value.category])) (fun E M9 h9 => ?_) (fun v9 M9 h9 => h9.elim)
  obtain ⟨rfl, rfl⟩ := h9
  refine ⟨13, ⟨[], (0, 10, 13, 25), [(0, 10, 17, 13), (0, 10, 21, 15)], "java/lang/IndexOutOfBoundsException", rfl, (fun z hz => by cases hz), ⟨by decide, by decide⟩, by decide, wm_509, by decide, rfl⟩, fun q => ?_⟩
  first | refine ww_astore (i := 4) (lv2 := [(0, _), (1, _), (2, _), (3, _), (4, _)]) dL_fit_13 (Nat.le_of_ble_eq_true rfl) rfl ?_ | refine ww_astoreQ (i := 4) (lv2 := [(0, _), (1, _), (2, _), (3, _), (4, _)]) dL_fit_13 (Nat.le_of_ble_eq_true rfl) rfl ?_
  refine ww_iconst (v := 1) dL_fit_15 (by decide) ?_
  exact ww_ireturn dL_fit_16 rfl (by first | rfl | exact ww_b_nar) ⟨rfl, rfl⟩
set_option maxRecDepth 20000 in
theorem lw_fit_2 (h : ww_C g wy_X6_fit d' mc' ms' [.ref x, .int a1, .int a2] M ww_nr (ww_th "java/lang/IllegalArgumentException" M)) (hx : ww_is M.1 x 7) (hd : d' ≤ 14) (hmc : mc' ≤ 10) (hms : ms' ≤ 1100) : ww_C g wy_L_fit 15 10 1100 [.ref x, .int a1, .int a2, .ref ol] M (ww_ret (some (.int 2)) M) ww_no := by
  refine ww_ent (by decide +kernel) (Nat.le_of_ble_eq_true rfl) ⟨rfl, rfl, rfl, rfl, trivial⟩ ?_
  refine ww_aload_n (i := 3) dL_fit_0 rfl rfl ?_
  refine ww_iconst (v := 0) dL_fit_1 (by decide) ?_
  refine ww_aload_n (i := 0) dL_fit_2 rfl rfl ?_
  refine ww_iload_n (i := 1) dL_fit_3 rfl rfl ?_
  refine ww_iload_n (i := 2) dL_fit_4 rfl rfl ?_
  -- at 5, locals [0, 1, 2, 3]
  refine ww_callVX (κ := 7) (r := (RX6, TX6, 4)) wk_L_21 dL_fit_5 h rfl rfl hx.1 hx.2 rfl rfl (by omega) hmc hms (by first | exact Nat.le_of_ble_eq_true rfl | (simp [ww_rf_cat, Value.category])) (fun E M9 h9 => ?_) (fun v9 M9 h9 => h9.elim)
  obtain ⟨rfl, rfl⟩ := h9
  refine ⟨17, ⟨[(0, 10, 13, 25)], (0, 10, 17, 13), [(0, 10, 21, 15)], "java/lang/IllegalArgumentException", rfl, (List.forall_mem_cons.mpr ⟨⟨by decide, "java/lang/IndexOutOfBoundsException", wm_509, by decide⟩, fun _ h => absurd h List.not_mem_nil⟩), ⟨by decide, by decide⟩, by decide, wm_242, by decide, rfl⟩, fun q => ?_⟩
  first | refine ww_astore (i := 4) (lv2 := [(0, _), (1, _), (2, _), (3, _), (4, _)]) dL_fit_17 (Nat.le_of_ble_eq_true rfl) rfl ?_ | refine ww_astoreQ (i := 4) (lv2 := [(0, _), (1, _), (2, _), (3, _), (4, _)]) dL_fit_17 (Nat.le_of_ble_eq_true rfl) rfl ?_
  refine ww_iconst (v := 2) dL_fit_19 (by decide) ?_
  exact ww_ireturn dL_fit_20 rfl (by first | rfl | exact ww_b_nar) ⟨rfl, rfl⟩
set_option maxRecDepth 20000 in
theorem lw_fit_3 (h : ww_C g wy_X6_fit d' mc' ms' [.ref x, .int a1, .int a2] M ww_nr (ww_th "java/lang/IllegalStateException" M)) (hx : ww_is M.1 x 7) (hd : d' ≤ 14) (hmc : mc' ≤ 10) (hms : ms' ≤ 1100) : ww_C g wy_L_fit 15 10 1100 [.ref x, .int a1, .int a2, .ref ol] M (ww_ret (some (.int 3)) M) ww_no := by
  refine ww_ent (by decide +kernel) (Nat.le_of_ble_eq_true rfl) ⟨rfl, rfl, rfl, rfl, trivial⟩ ?_
  refine ww_aload_n (i := 3) dL_fit_0 rfl rfl ?_
  refine ww_iconst (v := 0) dL_fit_1 (by decide) ?_
  refine ww_aload_n (i := 0) dL_fit_2 rfl rfl ?_
  refine ww_iload_n (i := 1) dL_fit_3 rfl rfl ?_
  refine ww_iload_n (i := 2) dL_fit_4 rfl rfl ?_
  -- at 5, locals [0, 1, 2, 3]
  refine ww_callVX (κ := 7) (r := (RX6, TX6, 4)) wk_L_21 dL_fit_5 h rfl rfl hx.1 hx.2 rfl rfl (by omega) hmc hms (by first | exact Nat.le_of_ble_eq_true rfl | (simp [ww_rf_cat, Value.category])) (fun E M9 h9 => ?_) (fun v9 M9 h9 => h9.elim)
  obtain ⟨rfl, rfl⟩ := h9
  refine ⟨21, ⟨[(0, 10, 13, 25), (0, 10, 17, 13)], (0, 10, 21, 15), [], "java/lang/IllegalStateException", rfl, (List.forall_mem_cons.mpr ⟨⟨by decide, "java/lang/IndexOutOfBoundsException", wm_509, by decide⟩, List.forall_mem_cons.mpr ⟨⟨by decide, "java/lang/IllegalArgumentException", wm_242, by decide⟩, fun _ h => absurd h List.not_mem_nil⟩⟩), ⟨by decide, by decide⟩, by decide, wm_243, by decide, rfl⟩, fun q => ?_⟩
  first | refine ww_astore (i := 4) (lv2 := [(0, _), (1, _), (2, _), (3, _), (4, _)]) dL_fit_21 (Nat.le_of_ble_eq_true rfl) rfl ?_ | refine ww_astoreQ (i := 4) (lv2 := [(0, _), (1, _), (2, _), (3, _), (4, _)]) dL_fit_21 (Nat.le_of_ble_eq_true rfl) rfl ?_
  refine ww_iconst (v := 3) dL_fit_23 (by decide) ?_
  exact ww_ireturn dL_fit_24 rfl (by first | rfl | exact ww_b_nar) ⟨rfl, rfl⟩
set_option maxRecDepth 20000 in
theorem lw_take_0 (h : ww_C g wy_X6_take d' mc' ms' [.ref x, .int a1] M (ww_rR (some (.int r)) R) ww_no) (hx : ww_is M.1 x 7) (hR : ∀ M1, R M1 → ww_is M1.1 ol 13 ∧ ww_N M1 ol = 1) (hd : d' ≤ 14) (hmc : mc' ≤ 10) (hms : ms' ≤ 1100) : ww_C g wy_L_take 15 10 1100 [.ref x, .int a1, .ref ol] M (ww_lo0 ol r R) ww_no := by
  refine ww_ent (by decide +kernel) (Nat.le_of_ble_eq_true rfl) ⟨rfl, rfl, rfl, trivial⟩ ?_
  refine ww_aload_n (i := 2) dL_take_0 rfl rfl ?_
  refine ww_iconst (v := 0) dL_take_1 (by decide) ?_
  refine ww_aload_n (i := 0) dL_take_2 rfl rfl ?_
  refine ww_iload_n (i := 1) dL_take_3 rfl rfl ?_
  -- at 4, locals [0, 1, 2]
  refine ww_callVX (κ := 7) (r := (RX6, TX6, 4)) wk_L_27 dL_take_4 h rfl rfl hx.1 hx.2 rfl rfl (by omega) hmc hms (by first | exact Nat.le_of_ble_eq_true rfl | (simp [ww_rf_cat, Value.category])) (fun E M9 h9 => h9.elim) (fun v9 M9 h9 => ?_)
  obtain ⟨rfl, hr9⟩ := h9
  obtain ⟨o1, o2⟩ := hR M9 hr9
  refine ww_i2l dL_take_7 ?_
  -- at 8, locals [0, 1, 2]
  refine ww_last (j := 0) dL_take_8 o1.1 o1.2 nI_0.symm (by rw [o2]; decide) (by rw [o2]; decide) ?_
  refine ww_goto (tgt := 18) dL_take_9 (by decide) ?_
  refine ww_iconst (v := 0) dL_take_18 (by decide) ?_
  exact ww_ireturn dL_take_19 rfl (by first | rfl | exact ww_b_nar) ⟨rfl, M9, hr9, rfl⟩
set_option maxRecDepth 20000 in
theorem lw_take_1 (h : ww_C g wy_X6_take d' mc' ms' [.ref x, .int a1] M ww_nr (ww_th "java/lang/IndexOutOfBoundsException" M)) (hx : ww_is M.1 x 7) (hd : d' ≤ 14) (hmc : mc' ≤ 10) (hms : ms' ≤ 1100) : ww_C g wy_L_take 15 10 1100 [.ref x, .int a1, .ref ol] M (ww_ret (some (.int 1)) M) ww_no := by
  refine ww_ent (by decide +kernel) (Nat.le_of_ble_eq_true rfl) ⟨rfl, rfl, rfl, trivial⟩ ?_
  refine ww_aload_n (i := 2) dL_take_0 rfl rfl ?_
  refine ww_iconst (v := 0) dL_take_1 (by decide) ?_
  refine ww_aload_n (i := 0) dL_take_2 rfl rfl ?_
  refine ww_iload_n (i := 1) dL_take_3 rfl rfl ?_
  -- at 4, locals [0, 1, 2]
  refine ww_callVX (κ := 7) (r := (RX6, TX6, 4)) wk_L_27 dL_take_4 h rfl rfl hx.1 hx.2 rfl rfl (by omega) hmc hms (by first | exact Nat.le_of_ble_eq_true rfl | (simp [ww_rf_cat, Value.category])) (fun E M9 h9 => ?_) (fun v9 M9 h9 => h9.elim)
  obtain ⟨rfl, rfl⟩ := h9
  refine ⟨12, ⟨[], (0, 9, 12, 25), [(0, 9, 15, 15)], "java/lang/IndexOutOfBoundsException", rfl, (fun z hz => by cases hz), ⟨by decide, by decide⟩, by decide, wm_509, by decide, rfl⟩, fun q => ?_⟩
  first | refine ww_astore_n (i := 3) (lv2 := [(0, _), (1, _), (2, _), (3, _)]) dL_take_12 rfl (Nat.le_of_ble_eq_true rfl) rfl ?_ | refine ww_astore_nQ (i := 3) (lv2 := [(0, _), (1, _), (2, _), (3, _)]) dL_take_12 rfl (Nat.le_of_ble_eq_true rfl) rfl ?_
  refine ww_iconst (v := 1) dL_take_13 (by decide) ?_
  exact ww_ireturn dL_take_14 rfl (by first | rfl | exact ww_b_nar) ⟨rfl, rfl⟩
set_option maxRecDepth 20000 in
theorem lw_take_2 (h : ww_C g wy_X6_take d' mc' ms' [.ref x, .int a1] M ww_nr (ww_th "java/lang/IllegalStateException" M)) (hx : ww_is M.1 x 7) (hd : d' ≤ 14) (hmc : mc' ≤ 10) (hms : ms' ≤ 1100) : ww_C g wy_L_take 15 10 1100 [.ref x, .int a1, .ref ol] M (ww_ret (some (.int 2)) M) ww_no := by
  refine ww_ent (by decide +kernel) (Nat.le_of_ble_eq_true rfl) ⟨rfl, rfl, rfl, trivial⟩ ?_
  refine ww_aload_n (i := 2) dL_take_0 rfl rfl ?_
  refine ww_iconst (v := 0) dL_take_1 (by decide) ?_
  refine ww_aload_n (i := 0) dL_take_2 rfl rfl ?_
  refine ww_iload_n (i := 1) dL_take_3 rfl rfl ?_
  -- at 4, locals [0, 1, 2]
  refine ww_callVX (κ := 7) (r := (RX6, TX6, 4)) wk_L_27 dL_take_4 h rfl rfl hx.1 hx.2 rfl rfl (by omega) hmc hms (by first | exact Nat.le_of_ble_eq_true rfl | (simp [ww_rf_cat, Value.category])) (fun E M9 h9 => ?_) (fun v9 M9 h9 => h9.elim)
  obtain ⟨rfl, rfl⟩ := h9
  refine ⟨15, ⟨[(0, 9, 12, 25)], (0, 9, 15, 15), [], "java/lang/IllegalStateException", rfl, (List.forall_mem_cons.mpr ⟨⟨by decide, "java/lang/IndexOutOfBoundsException", wm_509, by decide⟩, fun _ h => absurd h List.not_mem_nil⟩), ⟨by decide, by decide⟩, by decide, wm_243, by decide, rfl⟩, fun q => ?_⟩
  first | refine ww_astore_n (i := 3) (lv2 := [(0, _), (1, _), (2, _), (3, _)]) dL_take_15 rfl (Nat.le_of_ble_eq_true rfl) rfl ?_ | refine ww_astore_nQ (i := 3) (lv2 := [(0, _), (1, _), (2, _), (3, _)]) dL_take_15 rfl (Nat.le_of_ble_eq_true rfl) rfl ?_
  refine ww_iconst (v := 2) dL_take_16 (by decide) ?_
  exact ww_ireturn dL_take_17 rfl (by first | rfl | exact ww_b_nar) ⟨rfl, rfl⟩
set_option maxRecDepth 20000 in
theorem lw_scrap_0 (h : ww_C g wy_X6_scrap d' mc' ms' [.ref x, .int a1] M (ww_rR (none) R) ww_no) (hx : ww_is M.1 x 7) (hd : d' ≤ 14) (hmc : mc' ≤ 10) (hms : ms' ≤ 1100) : ww_C g wy_L_scrap 15 10 1100 [.ref x, .int a1] M (ww_rR (some (.int 0)) R) ww_no := by
  refine ww_ent (by decide +kernel) (Nat.le_of_ble_eq_true rfl) ⟨rfl, rfl, trivial⟩ ?_
  refine ww_aload_n (i := 0) dL_scrap_0 rfl rfl ?_
  refine ww_iload_n (i := 1) dL_scrap_1 rfl rfl ?_
  -- at 2, locals [0, 1]
  refine ww_callVX (κ := 7) (r := (RX6, TX6, 4)) wk_L_31 dL_scrap_2 h rfl rfl hx.1 hx.2 rfl rfl (by omega) hmc hms (by first | exact Nat.le_of_ble_eq_true rfl | (simp [ww_rf_cat, Value.category])) (fun E M9 h9 => h9.elim) (fun v9 M9 h9 => ?_)
  obtain ⟨rfl, hr9⟩ := h9
  refine ww_goto (tgt := 14) dL_scrap_5 (by decide) ?_
  refine ww_iconst (v := 0) dL_scrap_14 (by decide) ?_
  exact ww_ireturn dL_scrap_15 rfl (by first | rfl | exact ww_b_nar) ⟨rfl, hr9⟩
set_option maxRecDepth 20000 in
theorem lw_scrap_1 (h : ww_C g wy_X6_scrap d' mc' ms' [.ref x, .int a1] M ww_nr (ww_th "java/lang/IndexOutOfBoundsException" M)) (hx : ww_is M.1 x 7) (hd : d' ≤ 14) (hmc : mc' ≤ 10) (hms : ms' ≤ 1100) : ww_C g wy_L_scrap 15 10 1100 [.ref x, .int a1] M (ww_ret (some (.int 1)) M) ww_no := by
  refine ww_ent (by decide +kernel) (Nat.le_of_ble_eq_true rfl) ⟨rfl, rfl, trivial⟩ ?_
  refine ww_aload_n (i := 0) dL_scrap_0 rfl rfl ?_
  refine ww_iload_n (i := 1) dL_scrap_1 rfl rfl ?_
  -- at 2, locals [0, 1]
  refine ww_callVX (κ := 7) (r := (RX6, TX6, 4)) wk_L_31 dL_scrap_2 h rfl rfl hx.1 hx.2 rfl rfl (by omega) hmc hms (by first | exact Nat.le_of_ble_eq_true rfl | (simp [ww_rf_cat, Value.category])) (fun E M9 h9 => ?_) (fun v9 M9 h9 => h9.elim)
  obtain ⟨rfl, rfl⟩ := h9
  refine ⟨8, ⟨[], (0, 5, 8, 25), [(0, 5, 11, 15)], "java/lang/IndexOutOfBoundsException", rfl, (fun z hz => by cases hz), ⟨by decide, by decide⟩, by decide, wm_509, by decide, rfl⟩, fun q => ?_⟩
  first | refine ww_astore_n (i := 2) (lv2 := [(0, _), (1, _), (2, _)]) dL_scrap_8 rfl (Nat.le_of_ble_eq_true rfl) rfl ?_ | refine ww_astore_nQ (i := 2) (lv2 := [(0, _), (1, _), (2, _)]) dL_scrap_8 rfl (Nat.le_of_ble_eq_true rfl) rfl ?_
  refine ww_iconst (v := 1) dL_scrap_9 (by decide) ?_
  exact ww_ireturn dL_scrap_10 rfl (by first | rfl | exact ww_b_nar) ⟨rfl, rfl⟩
set_option maxRecDepth 20000 in
theorem lw_scrap_2 (h : ww_C g wy_X6_scrap d' mc' ms' [.ref x, .int a1] M ww_nr (ww_th "java/lang/IllegalStateException" M)) (hx : ww_is M.1 x 7) (hd : d' ≤ 14) (hmc : mc' ≤ 10) (hms : ms' ≤ 1100) : ww_C g wy_L_scrap 15 10 1100 [.ref x, .int a1] M (ww_ret (some (.int 2)) M) ww_no := by
  refine ww_ent (by decide +kernel) (Nat.le_of_ble_eq_true rfl) ⟨rfl, rfl, trivial⟩ ?_
  refine ww_aload_n (i := 0) dL_scrap_0 rfl rfl ?_
  refine ww_iload_n (i := 1) dL_scrap_1 rfl rfl ?_
  -- at 2, locals [0, 1]
  refine ww_callVX (κ := 7) (r := (RX6, TX6, 4)) wk_L_31 dL_scrap_2 h rfl rfl hx.1 hx.2 rfl rfl (by omega) hmc hms (by first | exact Nat.le_of_ble_eq_true rfl | (simp [ww_rf_cat, Value.category])) (fun E M9 h9 => ?_) (fun v9 M9 h9 => h9.elim)
  obtain ⟨rfl, rfl⟩ := h9
  refine ⟨11, ⟨[(0, 5, 8, 25)], (0, 5, 11, 15), [], "java/lang/IllegalStateException", rfl, (List.forall_mem_cons.mpr ⟨⟨by decide, "java/lang/IndexOutOfBoundsException", wm_509, by decide⟩, fun _ h => absurd h List.not_mem_nil⟩), ⟨by decide, by decide⟩, by decide, wm_243, by decide, rfl⟩, fun q => ?_⟩
  first | refine ww_astore_n (i := 2) (lv2 := [(0, _), (1, _), (2, _)]) dL_scrap_11 rfl (Nat.le_of_ble_eq_true rfl) rfl ?_ | refine ww_astore_nQ (i := 2) (lv2 := [(0, _), (1, _), (2, _)]) dL_scrap_11 rfl (Nat.le_of_ble_eq_true rfl) rfl ?_
  refine ww_iconst (v := 2) dL_scrap_12 (by decide) ?_
  exact ww_ireturn dL_scrap_13 rfl (by first | rfl | exact ww_b_nar) ⟨rfl, rfl⟩
set_option maxRecDepth 20000 in
theorem lw_run_0 (h : ww_C g wy_X6_run d' mc' ms' [.ref x, .int a1, .int a2, .int a3] M (ww_rR (some (.int r)) R) ww_no) (hx : ww_is M.1 x 7) (hR : ∀ M1, R M1 → ww_is M1.1 ol 13 ∧ ww_N M1 ol = 1) (hd : d' ≤ 14) (hmc : mc' ≤ 10) (hms : ms' ≤ 1100) : ww_C g wy_L_run 15 10 1100 [.ref x, .int a1, .int a2, .int a3, .ref ol] M (ww_lo0 ol r R) ww_no := by
  refine ww_ent (by decide +kernel) (Nat.le_of_ble_eq_true rfl) ⟨rfl, rfl, rfl, rfl, rfl, trivial⟩ ?_
  refine ww_aload (i := 4) dL_run_0 rfl ?_
  refine ww_iconst (v := 0) dL_run_2 (by decide) ?_
  refine ww_aload_n (i := 0) dL_run_3 rfl rfl ?_
  refine ww_iload_n (i := 1) dL_run_4 rfl rfl ?_
  refine ww_iload_n (i := 2) dL_run_5 rfl rfl ?_
  refine ww_iload_n (i := 3) dL_run_6 rfl rfl ?_
  -- at 7, locals [0, 1, 2, 3, 4]
  refine ww_callVX (κ := 7) (r := (RX6, TX6, 4)) wk_L_35 dL_run_7 h rfl rfl hx.1 hx.2 rfl rfl (by omega) hmc hms (by first | exact Nat.le_of_ble_eq_true rfl | (simp [ww_rf_cat, Value.category])) (fun E M9 h9 => h9.elim) (fun v9 M9 h9 => ?_)
  obtain ⟨rfl, hr9⟩ := h9
  obtain ⟨o1, o2⟩ := hR M9 hr9
  refine ww_i2l dL_run_10 ?_
  -- at 11, locals [0, 1, 2, 3, 4]
  refine ww_last (j := 0) dL_run_11 o1.1 o1.2 nI_0.symm (by rw [o2]; decide) (by rw [o2]; decide) ?_
  refine ww_goto (tgt := 27) dL_run_12 (by decide) ?_
  refine ww_iconst (v := 0) dL_run_27 (by decide) ?_
  exact ww_ireturn dL_run_28 rfl (by first | rfl | exact ww_b_nar) ⟨rfl, M9, hr9, rfl⟩
set_option maxRecDepth 20000 in
theorem lw_run_1 (h : ww_C g wy_X6_run d' mc' ms' [.ref x, .int a1, .int a2, .int a3] M ww_nr (ww_th "java/lang/IndexOutOfBoundsException" M)) (hx : ww_is M.1 x 7) (hd : d' ≤ 14) (hmc : mc' ≤ 10) (hms : ms' ≤ 1100) : ww_C g wy_L_run 15 10 1100 [.ref x, .int a1, .int a2, .int a3, .ref ol] M (ww_ret (some (.int 1)) M) ww_no := by
  refine ww_ent (by decide +kernel) (Nat.le_of_ble_eq_true rfl) ⟨rfl, rfl, rfl, rfl, rfl, trivial⟩ ?_
  refine ww_aload (i := 4) dL_run_0 rfl ?_
  refine ww_iconst (v := 0) dL_run_2 (by decide) ?_
  refine ww_aload_n (i := 0) dL_run_3 rfl rfl ?_
  refine ww_iload_n (i := 1) dL_run_4 rfl rfl ?_
  refine ww_iload_n (i := 2) dL_run_5 rfl rfl ?_
  refine ww_iload_n (i := 3) dL_run_6 rfl rfl ?_
  -- at 7, locals [0, 1, 2, 3, 4]
  refine ww_callVX (κ := 7) (r := (RX6, TX6, 4)) wk_L_35 dL_run_7 h rfl rfl hx.1 hx.2 rfl rfl (by omega) hmc hms (by first | exact Nat.le_of_ble_eq_true rfl | (simp [ww_rf_cat, Value.category])) (fun E M9 h9 => ?_) (fun v9 M9 h9 => h9.elim)
  obtain ⟨rfl, rfl⟩ := h9
  refine ⟨15, ⟨[], (0, 12, 15, 25), [(0, 12, 19, 13), (0, 12, 23, 15)], "java/lang/IndexOutOfBoundsException", rfl, (fun z hz => by cases hz), ⟨by decide, by decide⟩, by decide, wm_509, by decide, rfl⟩, fun q => ?_⟩
  first | refine ww_astore (i := 5) (lv2 := [(0, _), (1, _), (2, _), (3, _), (4, _), (5, _)]) dL_run_15 (Nat.le_of_ble_eq_true rfl) rfl ?_ | refine ww_astoreQ (i := 5) (lv2 := [(0, _), (1, _), (2, _), (3, _), (4, _), (5, _)]) dL_run_15 (Nat.le_of_ble_eq_true rfl) rfl ?_
  refine ww_iconst (v := 1) dL_run_17 (by decide) ?_
  exact ww_ireturn dL_run_18 rfl (by first | rfl | exact ww_b_nar) ⟨rfl, rfl⟩
set_option maxRecDepth 20000 in
theorem lw_run_2 (h : ww_C g wy_X6_run d' mc' ms' [.ref x, .int a1, .int a2, .int a3] M ww_nr (ww_th "java/lang/IllegalArgumentException" M)) (hx : ww_is M.1 x 7) (hd : d' ≤ 14) (hmc : mc' ≤ 10) (hms : ms' ≤ 1100) : ww_C g wy_L_run 15 10 1100 [.ref x, .int a1, .int a2, .int a3, .ref ol] M (ww_ret (some (.int 2)) M) ww_no := by
  refine ww_ent (by decide +kernel) (Nat.le_of_ble_eq_true rfl) ⟨rfl, rfl, rfl, rfl, rfl, trivial⟩ ?_
  refine ww_aload (i := 4) dL_run_0 rfl ?_
  refine ww_iconst (v := 0) dL_run_2 (by decide) ?_
  refine ww_aload_n (i := 0) dL_run_3 rfl rfl ?_
  refine ww_iload_n (i := 1) dL_run_4 rfl rfl ?_
  refine ww_iload_n (i := 2) dL_run_5 rfl rfl ?_
  refine ww_iload_n (i := 3) dL_run_6 rfl rfl ?_
  -- at 7, locals [0, 1, 2, 3, 4]
  refine ww_callVX (κ := 7) (r := (RX6, TX6, 4)) wk_L_35 dL_run_7 h rfl rfl hx.1 hx.2 rfl rfl (by omega) hmc hms (by first | exact Nat.le_of_ble_eq_true rfl | (simp [ww_rf_cat, Value.category])) (fun E M9 h9 => ?_) (fun v9 M9 h9 => h9.elim)
  obtain ⟨rfl, rfl⟩ := h9
  refine ⟨19, ⟨[(0, 12, 15, 25)], (0, 12, 19, 13), [(0, 12, 23, 15)], "java/lang/IllegalArgumentException", rfl, (List.forall_mem_cons.mpr ⟨⟨by decide, "java/lang/IndexOutOfBoundsException", wm_509, by decide⟩, fun _ h => absurd h List.not_mem_nil⟩), ⟨by decide, by decide⟩, by decide, wm_242, by decide, rfl⟩, fun q => ?_⟩
  first | refine ww_astore (i := 5) (lv2 := [(0, _), (1, _), (2, _), (3, _), (4, _), (5, _)]) dL_run_19 (Nat.le_of_ble_eq_true rfl) rfl ?_ | refine ww_astoreQ (i := 5) (lv2 := [(0, _), (1, _), (2, _), (3, _), (4, _), (5, _)]) dL_run_19 (Nat.le_of_ble_eq_true rfl) rfl ?_
  refine ww_iconst (v := 2) dL_run_21 (by decide) ?_
  exact ww_ireturn dL_run_22 rfl (by first | rfl | exact ww_b_nar) ⟨rfl, rfl⟩
set_option maxRecDepth 20000 in
theorem lw_run_3 (h : ww_C g wy_X6_run d' mc' ms' [.ref x, .int a1, .int a2, .int a3] M ww_nr (ww_th "java/lang/IllegalStateException" M)) (hx : ww_is M.1 x 7) (hd : d' ≤ 14) (hmc : mc' ≤ 10) (hms : ms' ≤ 1100) : ww_C g wy_L_run 15 10 1100 [.ref x, .int a1, .int a2, .int a3, .ref ol] M (ww_ret (some (.int 3)) M) ww_no := by
  refine ww_ent (by decide +kernel) (Nat.le_of_ble_eq_true rfl) ⟨rfl, rfl, rfl, rfl, rfl, trivial⟩ ?_
  refine ww_aload (i := 4) dL_run_0 rfl ?_
  refine ww_iconst (v := 0) dL_run_2 (by decide) ?_
  refine ww_aload_n (i := 0) dL_run_3 rfl rfl ?_
  refine ww_iload_n (i := 1) dL_run_4 rfl rfl ?_
  refine ww_iload_n (i := 2) dL_run_5 rfl rfl ?_
  refine ww_iload_n (i := 3) dL_run_6 rfl rfl ?_
  -- at 7, locals [0, 1, 2, 3, 4]
  refine ww_callVX (κ := 7) (r := (RX6, TX6, 4)) wk_L_35 dL_run_7 h rfl rfl hx.1 hx.2 rfl rfl (by omega) hmc hms (by first | exact Nat.le_of_ble_eq_true rfl | (simp [ww_rf_cat, Value.category])) (fun E M9 h9 => ?_) (fun v9 M9 h9 => h9.elim)
  obtain ⟨rfl, rfl⟩ := h9
  refine ⟨23, ⟨[(0, 12, 15, 25), (0, 12, 19, 13)], (0, 12, 23, 15), [], "java/lang/IllegalStateException", rfl, (List.forall_mem_cons.mpr ⟨⟨by decide, "java/lang/IndexOutOfBoundsException", wm_509, by decide⟩, List.forall_mem_cons.mpr ⟨⟨by decide, "java/lang/IllegalArgumentException", wm_242, by decide⟩, fun _ h => absurd h List.not_mem_nil⟩⟩), ⟨by decide, by decide⟩, by decide, wm_243, by decide, rfl⟩, fun q => ?_⟩
  first | refine ww_astore (i := 5) (lv2 := [(0, _), (1, _), (2, _), (3, _), (4, _), (5, _)]) dL_run_23 (Nat.le_of_ble_eq_true rfl) rfl ?_ | refine ww_astoreQ (i := 5) (lv2 := [(0, _), (1, _), (2, _), (3, _), (4, _), (5, _)]) dL_run_23 (Nat.le_of_ble_eq_true rfl) rfl ?_
  refine ww_iconst (v := 3) dL_run_25 (by decide) ?_
  exact ww_ireturn dL_run_26 rfl (by first | rfl | exact ww_b_nar) ⟨rfl, rfl⟩
set_option maxRecDepth 20000 in
theorem lw_turn_0 (h : ww_C g wy_X6_turn d' mc' ms' [.ref x, .int a1] M (ww_rR (some (.int r)) R) ww_no) (hx : ww_is M.1 x 7) (hR : ∀ M1, R M1 → ww_is M1.1 ol 13 ∧ ww_N M1 ol = 1) (hd : d' ≤ 14) (hmc : mc' ≤ 10) (hms : ms' ≤ 1100) : ww_C g wy_L_turn 15 10 1100 [.ref x, .int a1, .ref ol] M (ww_lo0 ol r R) ww_no := by
  refine ww_ent (by decide +kernel) (Nat.le_of_ble_eq_true rfl) ⟨rfl, rfl, rfl, trivial⟩ ?_
  refine ww_aload_n (i := 2) dL_turn_0 rfl rfl ?_
  refine ww_iconst (v := 0) dL_turn_1 (by decide) ?_
  refine ww_aload_n (i := 0) dL_turn_2 rfl rfl ?_
  refine ww_iload_n (i := 1) dL_turn_3 rfl rfl ?_
  -- at 4, locals [0, 1, 2]
  refine ww_callVX (κ := 7) (r := (RX6, TX6, 4)) wk_L_38 dL_turn_4 h rfl rfl hx.1 hx.2 rfl rfl (by omega) hmc hms (by first | exact Nat.le_of_ble_eq_true rfl | (simp [ww_rf_cat, Value.category])) (fun E M9 h9 => h9.elim) (fun v9 M9 h9 => ?_)
  obtain ⟨rfl, hr9⟩ := h9
  obtain ⟨o1, o2⟩ := hR M9 hr9
  refine ww_i2l dL_turn_7 ?_
  -- at 8, locals [0, 1, 2]
  refine ww_last (j := 0) dL_turn_8 o1.1 o1.2 nI_0.symm (by rw [o2]; decide) (by rw [o2]; decide) ?_
  refine ww_goto (tgt := 21) dL_turn_9 (by decide) ?_
  refine ww_iconst (v := 0) dL_turn_21 (by decide) ?_
  exact ww_ireturn dL_turn_22 rfl (by first | rfl | exact ww_b_nar) ⟨rfl, M9, hr9, rfl⟩
set_option maxRecDepth 20000 in
theorem lw_turn_1 (h : ww_C g wy_X6_turn d' mc' ms' [.ref x, .int a1] M ww_nr (ww_th "java/lang/IndexOutOfBoundsException" M)) (hx : ww_is M.1 x 7) (hd : d' ≤ 14) (hmc : mc' ≤ 10) (hms : ms' ≤ 1100) : ww_C g wy_L_turn 15 10 1100 [.ref x, .int a1, .ref ol] M (ww_ret (some (.int 1)) M) ww_no := by
  refine ww_ent (by decide +kernel) (Nat.le_of_ble_eq_true rfl) ⟨rfl, rfl, rfl, trivial⟩ ?_
  refine ww_aload_n (i := 2) dL_turn_0 rfl rfl ?_
  refine ww_iconst (v := 0) dL_turn_1 (by decide) ?_
  refine ww_aload_n (i := 0) dL_turn_2 rfl rfl ?_
  refine ww_iload_n (i := 1) dL_turn_3 rfl rfl ?_
  -- at 4, locals [0, 1, 2]
  refine ww_callVX (κ := 7) (r := (RX6, TX6, 4)) wk_L_38 dL_turn_4 h rfl rfl hx.1 hx.2 rfl rfl (by omega) hmc hms (by first | exact Nat.le_of_ble_eq_true rfl | (simp [ww_rf_cat, Value.category])) (fun E M9 h9 => ?_) (fun v9 M9 h9 => h9.elim)
  obtain ⟨rfl, rfl⟩ := h9
  refine ⟨12, ⟨[], (0, 9, 12, 25), [(0, 9, 15, 13), (0, 9, 18, 15)], "java/lang/IndexOutOfBoundsException", rfl, (fun z hz => by cases hz), ⟨by decide, by decide⟩, by decide, wm_509, by decide, rfl⟩, fun q => ?_⟩
  first | refine ww_astore_n (i := 3) (lv2 := [(0, _), (1, _), (2, _), (3, _)]) dL_turn_12 rfl (Nat.le_of_ble_eq_true rfl) rfl ?_ | refine ww_astore_nQ (i := 3) (lv2 := [(0, _), (1, _), (2, _), (3, _)]) dL_turn_12 rfl (Nat.le_of_ble_eq_true rfl) rfl ?_
  refine ww_iconst (v := 1) dL_turn_13 (by decide) ?_
  exact ww_ireturn dL_turn_14 rfl (by first | rfl | exact ww_b_nar) ⟨rfl, rfl⟩
set_option maxRecDepth 20000 in
theorem lw_turn_2 (h : ww_C g wy_X6_turn d' mc' ms' [.ref x, .int a1] M ww_nr (ww_th "java/lang/IllegalArgumentException" M)) (hx : ww_is M.1 x 7) (hd : d' ≤ 14) (hmc : mc' ≤ 10) (hms : ms' ≤ 1100) : ww_C g wy_L_turn 15 10 1100 [.ref x, .int a1, .ref ol] M (ww_ret (some (.int 2)) M) ww_no := by
  refine ww_ent (by decide +kernel) (Nat.le_of_ble_eq_true rfl) ⟨rfl, rfl, rfl, trivial⟩ ?_
  refine ww_aload_n (i := 2) dL_turn_0 rfl rfl ?_
  refine ww_iconst (v := 0) dL_turn_1 (by decide) ?_
  refine ww_aload_n (i := 0) dL_turn_2 rfl rfl ?_
  refine ww_iload_n (i := 1) dL_turn_3 rfl rfl ?_
  -- at 4, locals [0, 1, 2]
  refine ww_callVX (κ := 7) (r := (RX6, TX6, 4)) wk_L_38 dL_turn_4 h rfl rfl hx.1 hx.2 rfl rfl (by omega) hmc hms (by first | exact Nat.le_of_ble_eq_true rfl | (simp [ww_rf_cat, Value.category])) (fun E M9 h9 => ?_) (fun v9 M9 h9 => h9.elim)
  obtain ⟨rfl, rfl⟩ := h9
  refine ⟨15, ⟨[(0, 9, 12, 25)], (0, 9, 15, 13), [(0, 9, 18, 15)], "java/lang/IllegalArgumentException", rfl, (List.forall_mem_cons.mpr ⟨⟨by decide, "java/lang/IndexOutOfBoundsException", wm_509, by decide⟩, fun _ h => absurd h List.not_mem_nil⟩), ⟨by decide, by decide⟩, by decide, wm_242, by decide, rfl⟩, fun q => ?_⟩
  first | refine ww_astore_n (i := 3) (lv2 := [(0, _), (1, _), (2, _), (3, _)]) dL_turn_15 rfl (Nat.le_of_ble_eq_true rfl) rfl ?_ | refine ww_astore_nQ (i := 3) (lv2 := [(0, _), (1, _), (2, _), (3, _)]) dL_turn_15 rfl (Nat.le_of_ble_eq_true rfl) rfl ?_
  refine ww_iconst (v := 2) dL_turn_16 (by decide) ?_
  exact ww_ireturn dL_turn_17 rfl (by first | rfl | exact ww_b_nar) ⟨rfl, rfl⟩
set_option maxRecDepth 20000 in
theorem lw_turn_3 (h : ww_C g wy_X6_turn d' mc' ms' [.ref x, .int a1] M ww_nr (ww_th "java/lang/IllegalStateException" M)) (hx : ww_is M.1 x 7) (hd : d' ≤ 14) (hmc : mc' ≤ 10) (hms : ms' ≤ 1100) : ww_C g wy_L_turn 15 10 1100 [.ref x, .int a1, .ref ol] M (ww_ret (some (.int 3)) M) ww_no := by
  refine ww_ent (by decide +kernel) (Nat.le_of_ble_eq_true rfl) ⟨rfl, rfl, rfl, trivial⟩ ?_
  refine ww_aload_n (i := 2) dL_turn_0 rfl rfl ?_
  refine ww_iconst (v := 0) dL_turn_1 (by decide) ?_
  refine ww_aload_n (i := 0) dL_turn_2 rfl rfl ?_
  refine ww_iload_n (i := 1) dL_turn_3 rfl rfl ?_
  -- at 4, locals [0, 1, 2]
  refine ww_callVX (κ := 7) (r := (RX6, TX6, 4)) wk_L_38 dL_turn_4 h rfl rfl hx.1 hx.2 rfl rfl (by omega) hmc hms (by first | exact Nat.le_of_ble_eq_true rfl | (simp [ww_rf_cat, Value.category])) (fun E M9 h9 => ?_) (fun v9 M9 h9 => h9.elim)
  obtain ⟨rfl, rfl⟩ := h9
  refine ⟨18, ⟨[(0, 9, 12, 25), (0, 9, 15, 13)], (0, 9, 18, 15), [], "java/lang/IllegalStateException", rfl, (List.forall_mem_cons.mpr ⟨⟨by decide, "java/lang/IndexOutOfBoundsException", wm_509, by decide⟩, List.forall_mem_cons.mpr ⟨⟨by decide, "java/lang/IllegalArgumentException", wm_242, by decide⟩, fun _ h => absurd h List.not_mem_nil⟩⟩), ⟨by decide, by decide⟩, by decide, wm_243, by decide, rfl⟩, fun q => ?_⟩
  first | refine ww_astore_n (i := 3) (lv2 := [(0, _), (1, _), (2, _), (3, _)]) dL_turn_18 rfl (Nat.le_of_ble_eq_true rfl) rfl ?_ | refine ww_astore_nQ (i := 3) (lv2 := [(0, _), (1, _), (2, _), (3, _)]) dL_turn_18 rfl (Nat.le_of_ble_eq_true rfl) rfl ?_
  refine ww_iconst (v := 3) dL_turn_19 (by decide) ?_
  exact ww_ireturn dL_turn_20 rfl (by first | rfl | exact ww_b_nar) ⟨rfl, rfl⟩
set_option maxRecDepth 20000 in
theorem lw_gate_0 (h : ww_C g wy_X6_gate d' mc' ms' [.ref x, .int a1, .int a2] M (ww_rR (some (.int r)) R) ww_no) (hx : ww_is M.1 x 7) (hR : ∀ M1, R M1 → ww_is M1.1 ol 13 ∧ ww_N M1 ol = 1) (hd : d' ≤ 14) (hmc : mc' ≤ 10) (hms : ms' ≤ 1100) : ww_C g wy_L_gate 15 10 1100 [.ref x, .int a1, .int a2, .ref ol] M (ww_lo0 ol r R) ww_no := by
  refine ww_ent (by decide +kernel) (Nat.le_of_ble_eq_true rfl) ⟨rfl, rfl, rfl, rfl, trivial⟩ ?_
  refine ww_aload_n (i := 3) dL_gate_0 rfl rfl ?_
  refine ww_iconst (v := 0) dL_gate_1 (by decide) ?_
  refine ww_aload_n (i := 0) dL_gate_2 rfl rfl ?_
  refine ww_iload_n (i := 1) dL_gate_3 rfl rfl ?_
  refine ww_iload_n (i := 2) dL_gate_4 rfl rfl ?_
  -- at 5, locals [0, 1, 2, 3]
  refine ww_callVX (κ := 7) (r := (RX6, TX6, 4)) wk_L_41 dL_gate_5 h rfl rfl hx.1 hx.2 rfl rfl (by omega) hmc hms (by first | exact Nat.le_of_ble_eq_true rfl | (simp [ww_rf_cat, Value.category])) (fun E M9 h9 => h9.elim) (fun v9 M9 h9 => ?_)
  obtain ⟨rfl, hr9⟩ := h9
  obtain ⟨o1, o2⟩ := hR M9 hr9
  refine ww_i2l dL_gate_8 ?_
  -- at 9, locals [0, 1, 2, 3]
  refine ww_last (j := 0) dL_gate_9 o1.1 o1.2 nI_0.symm (by rw [o2]; decide) (by rw [o2]; decide) ?_
  refine ww_goto (tgt := 21) dL_gate_10 (by decide) ?_
  refine ww_iconst (v := 0) dL_gate_21 (by decide) ?_
  exact ww_ireturn dL_gate_22 rfl (by first | rfl | exact ww_b_nar) ⟨rfl, M9, hr9, rfl⟩
set_option maxRecDepth 20000 in
theorem lw_gate_1 (h : ww_C g wy_X6_gate d' mc' ms' [.ref x, .int a1, .int a2] M ww_nr (ww_th "java/lang/IndexOutOfBoundsException" M)) (hx : ww_is M.1 x 7) (hd : d' ≤ 14) (hmc : mc' ≤ 10) (hms : ms' ≤ 1100) : ww_C g wy_L_gate 15 10 1100 [.ref x, .int a1, .int a2, .ref ol] M (ww_ret (some (.int 1)) M) ww_no := by
  refine ww_ent (by decide +kernel) (Nat.le_of_ble_eq_true rfl) ⟨rfl, rfl, rfl, rfl, trivial⟩ ?_
  refine ww_aload_n (i := 3) dL_gate_0 rfl rfl ?_
  refine ww_iconst (v := 0) dL_gate_1 (by decide) ?_
  refine ww_aload_n (i := 0) dL_gate_2 rfl rfl ?_
  refine ww_iload_n (i := 1) dL_gate_3 rfl rfl ?_
  refine ww_iload_n (i := 2) dL_gate_4 rfl rfl ?_
  -- at 5, locals [0, 1, 2, 3]
  refine ww_callVX (κ := 7) (r := (RX6, TX6, 4)) wk_L_41 dL_gate_5 h rfl rfl hx.1 hx.2 rfl rfl (by omega) hmc hms (by first | exact Nat.le_of_ble_eq_true rfl | (simp [ww_rf_cat, Value.category])) (fun E M9 h9 => ?_) (fun v9 M9 h9 => h9.elim)
  obtain ⟨rfl, rfl⟩ := h9
  refine ⟨13, ⟨[], (0, 10, 13, 25), [(0, 10, 17, 13)], "java/lang/IndexOutOfBoundsException", rfl, (fun z hz => by cases hz), ⟨by decide, by decide⟩, by decide, wm_509, by decide, rfl⟩, fun q => ?_⟩
  first | refine ww_astore (i := 4) (lv2 := [(0, _), (1, _), (2, _), (3, _), (4, _)]) dL_gate_13 (Nat.le_of_ble_eq_true rfl) rfl ?_ | refine ww_astoreQ (i := 4) (lv2 := [(0, _), (1, _), (2, _), (3, _), (4, _)]) dL_gate_13 (Nat.le_of_ble_eq_true rfl) rfl ?_
  refine ww_iconst (v := 1) dL_gate_15 (by decide) ?_
  exact ww_ireturn dL_gate_16 rfl (by first | rfl | exact ww_b_nar) ⟨rfl, rfl⟩
set_option maxRecDepth 20000 in
theorem lw_gate_2 (h : ww_C g wy_X6_gate d' mc' ms' [.ref x, .int a1, .int a2] M ww_nr (ww_th "java/lang/IllegalArgumentException" M)) (hx : ww_is M.1 x 7) (hd : d' ≤ 14) (hmc : mc' ≤ 10) (hms : ms' ≤ 1100) : ww_C g wy_L_gate 15 10 1100 [.ref x, .int a1, .int a2, .ref ol] M (ww_ret (some (.int 2)) M) ww_no := by
  refine ww_ent (by decide +kernel) (Nat.le_of_ble_eq_true rfl) ⟨rfl, rfl, rfl, rfl, trivial⟩ ?_
  refine ww_aload_n (i := 3) dL_gate_0 rfl rfl ?_
  refine ww_iconst (v := 0) dL_gate_1 (by decide) ?_
  refine ww_aload_n (i := 0) dL_gate_2 rfl rfl ?_
  refine ww_iload_n (i := 1) dL_gate_3 rfl rfl ?_
  refine ww_iload_n (i := 2) dL_gate_4 rfl rfl ?_
  -- at 5, locals [0, 1, 2, 3]
  refine ww_callVX (κ := 7) (r := (RX6, TX6, 4)) wk_L_41 dL_gate_5 h rfl rfl hx.1 hx.2 rfl rfl (by omega) hmc hms (by first | exact Nat.le_of_ble_eq_true rfl | (simp [ww_rf_cat, Value.category])) (fun E M9 h9 => ?_) (fun v9 M9 h9 => h9.elim)
  obtain ⟨rfl, rfl⟩ := h9
  refine ⟨17, ⟨[(0, 10, 13, 25)], (0, 10, 17, 13), [], "java/lang/IllegalArgumentException", rfl, (List.forall_mem_cons.mpr ⟨⟨by decide, "java/lang/IndexOutOfBoundsException", wm_509, by decide⟩, fun _ h => absurd h List.not_mem_nil⟩), ⟨by decide, by decide⟩, by decide, wm_242, by decide, rfl⟩, fun q => ?_⟩
  first | refine ww_astore (i := 4) (lv2 := [(0, _), (1, _), (2, _), (3, _), (4, _)]) dL_gate_17 (Nat.le_of_ble_eq_true rfl) rfl ?_ | refine ww_astoreQ (i := 4) (lv2 := [(0, _), (1, _), (2, _), (3, _), (4, _)]) dL_gate_17 (Nat.le_of_ble_eq_true rfl) rfl ?_
  refine ww_iconst (v := 2) dL_gate_19 (by decide) ?_
  exact ww_ireturn dL_gate_20 rfl (by first | rfl | exact ww_b_nar) ⟨rfl, rfl⟩
set_option maxRecDepth 20000 in
theorem lw_examine_0 (h : ww_C g wy_X6_examine d' mc' ms' [.ref x, .int a1] M (ww_rR (some (.int r)) R) ww_no) (hx : ww_is M.1 x 7) (hR : ∀ M1, R M1 → ww_is M1.1 ol 13 ∧ ww_N M1 ol = 1) (hd : d' ≤ 14) (hmc : mc' ≤ 10) (hms : ms' ≤ 1100) : ww_C g wy_L_examine 15 10 1100 [.ref x, .int a1, .ref ol] M (ww_lo0 ol r R) ww_no := by
  refine ww_ent (by decide +kernel) (Nat.le_of_ble_eq_true rfl) ⟨rfl, rfl, rfl, trivial⟩ ?_
  refine ww_aload_n (i := 2) dL_examine_0 rfl rfl ?_
  refine ww_iconst (v := 0) dL_examine_1 (by decide) ?_
  refine ww_aload_n (i := 0) dL_examine_2 rfl rfl ?_
  refine ww_iload_n (i := 1) dL_examine_3 rfl rfl ?_
  -- at 4, locals [0, 1, 2]
  refine ww_callVX (κ := 7) (r := (RX6, TX6, 4)) wk_L_44 dL_examine_4 h rfl rfl hx.1 hx.2 rfl rfl (by omega) hmc hms (by first | exact Nat.le_of_ble_eq_true rfl | (simp [ww_rf_cat, Value.category])) (fun E M9 h9 => h9.elim) (fun v9 M9 h9 => ?_)
  obtain ⟨rfl, hr9⟩ := h9
  obtain ⟨o1, o2⟩ := hR M9 hr9
  refine ww_i2l dL_examine_7 ?_
  -- at 8, locals [0, 1, 2]
  refine ww_last (j := 0) dL_examine_8 o1.1 o1.2 nI_0.symm (by rw [o2]; decide) (by rw [o2]; decide) ?_
  refine ww_goto (tgt := 18) dL_examine_9 (by decide) ?_
  refine ww_iconst (v := 0) dL_examine_18 (by decide) ?_
  exact ww_ireturn dL_examine_19 rfl (by first | rfl | exact ww_b_nar) ⟨rfl, M9, hr9, rfl⟩
set_option maxRecDepth 20000 in
theorem lw_examine_1 (h : ww_C g wy_X6_examine d' mc' ms' [.ref x, .int a1] M ww_nr (ww_th "java/lang/IndexOutOfBoundsException" M)) (hx : ww_is M.1 x 7) (hd : d' ≤ 14) (hmc : mc' ≤ 10) (hms : ms' ≤ 1100) : ww_C g wy_L_examine 15 10 1100 [.ref x, .int a1, .ref ol] M (ww_ret (some (.int 1)) M) ww_no := by
  refine ww_ent (by decide +kernel) (Nat.le_of_ble_eq_true rfl) ⟨rfl, rfl, rfl, trivial⟩ ?_
  refine ww_aload_n (i := 2) dL_examine_0 rfl rfl ?_
  refine ww_iconst (v := 0) dL_examine_1 (by decide) ?_
  refine ww_aload_n (i := 0) dL_examine_2 rfl rfl ?_
  refine ww_iload_n (i := 1) dL_examine_3 rfl rfl ?_
  -- at 4, locals [0, 1, 2]
  refine ww_callVX (κ := 7) (r := (RX6, TX6, 4)) wk_L_44 dL_examine_4 h rfl rfl hx.1 hx.2 rfl rfl (by omega) hmc hms (by first | exact Nat.le_of_ble_eq_true rfl | (simp [ww_rf_cat, Value.category])) (fun E M9 h9 => ?_) (fun v9 M9 h9 => h9.elim)
  obtain ⟨rfl, rfl⟩ := h9
  refine ⟨12, ⟨[], (0, 9, 12, 25), [(0, 9, 15, 15)], "java/lang/IndexOutOfBoundsException", rfl, (fun z hz => by cases hz), ⟨by decide, by decide⟩, by decide, wm_509, by decide, rfl⟩, fun q => ?_⟩
  first | refine ww_astore_n (i := 3) (lv2 := [(0, _), (1, _), (2, _), (3, _)]) dL_examine_12 rfl (Nat.le_of_ble_eq_true rfl) rfl ?_ | refine ww_astore_nQ (i := 3) (lv2 := [(0, _), (1, _), (2, _), (3, _)]) dL_examine_12 rfl (Nat.le_of_ble_eq_true rfl) rfl ?_
  refine ww_iconst (v := 1) dL_examine_13 (by decide) ?_
  exact ww_ireturn dL_examine_14 rfl (by first | rfl | exact ww_b_nar) ⟨rfl, rfl⟩
set_option maxRecDepth 20000 in
theorem lw_examine_2 (h : ww_C g wy_X6_examine d' mc' ms' [.ref x, .int a1] M ww_nr (ww_th "java/lang/IllegalStateException" M)) (hx : ww_is M.1 x 7) (hd : d' ≤ 14) (hmc : mc' ≤ 10) (hms : ms' ≤ 1100) : ww_C g wy_L_examine 15 10 1100 [.ref x, .int a1, .ref ol] M (ww_ret (some (.int 2)) M) ww_no := by
  refine ww_ent (by decide +kernel) (Nat.le_of_ble_eq_true rfl) ⟨rfl, rfl, rfl, trivial⟩ ?_
  refine ww_aload_n (i := 2) dL_examine_0 rfl rfl ?_
  refine ww_iconst (v := 0) dL_examine_1 (by decide) ?_
  refine ww_aload_n (i := 0) dL_examine_2 rfl rfl ?_
  refine ww_iload_n (i := 1) dL_examine_3 rfl rfl ?_
  -- at 4, locals [0, 1, 2]
  refine ww_callVX (κ := 7) (r := (RX6, TX6, 4)) wk_L_44 dL_examine_4 h rfl rfl hx.1 hx.2 rfl rfl (by omega) hmc hms (by first | exact Nat.le_of_ble_eq_true rfl | (simp [ww_rf_cat, Value.category])) (fun E M9 h9 => ?_) (fun v9 M9 h9 => h9.elim)
  obtain ⟨rfl, rfl⟩ := h9
  refine ⟨15, ⟨[(0, 9, 12, 25)], (0, 9, 15, 15), [], "java/lang/IllegalStateException", rfl, (List.forall_mem_cons.mpr ⟨⟨by decide, "java/lang/IndexOutOfBoundsException", wm_509, by decide⟩, fun _ h => absurd h List.not_mem_nil⟩), ⟨by decide, by decide⟩, by decide, wm_243, by decide, rfl⟩, fun q => ?_⟩
  first | refine ww_astore_n (i := 3) (lv2 := [(0, _), (1, _), (2, _), (3, _)]) dL_examine_15 rfl (Nat.le_of_ble_eq_true rfl) rfl ?_ | refine ww_astore_nQ (i := 3) (lv2 := [(0, _), (1, _), (2, _), (3, _)]) dL_examine_15 rfl (Nat.le_of_ble_eq_true rfl) rfl ?_
  refine ww_iconst (v := 2) dL_examine_16 (by decide) ?_
  exact ww_ireturn dL_examine_17 rfl (by first | rfl | exact ww_b_nar) ⟨rfl, rfl⟩
set_option maxRecDepth 20000 in
theorem lw_waive_0 (h : ww_C g wy_X6_waive d' mc' ms' [.ref x, .int a1, .int a2] M (ww_rR (none) R) ww_no) (hx : ww_is M.1 x 7) (hd : d' ≤ 14) (hmc : mc' ≤ 10) (hms : ms' ≤ 1100) : ww_C g wy_L_waive 15 10 1100 [.ref x, .int a1, .int a2] M (ww_rR (some (.int 0)) R) ww_no := by
  refine ww_ent (by decide +kernel) (Nat.le_of_ble_eq_true rfl) ⟨rfl, rfl, rfl, trivial⟩ ?_
  refine ww_aload_n (i := 0) dL_waive_0 rfl rfl ?_
  refine ww_iload_n (i := 1) dL_waive_1 rfl rfl ?_
  refine ww_iload_n (i := 2) dL_waive_2 rfl rfl ?_
  -- at 3, locals [0, 1, 2]
  refine ww_callVX (κ := 7) (r := (RX6, TX6, 4)) wk_L_47 dL_waive_3 h rfl rfl hx.1 hx.2 rfl rfl (by omega) hmc hms (by first | exact Nat.le_of_ble_eq_true rfl | (simp [ww_rf_cat, Value.category])) (fun E M9 h9 => h9.elim) (fun v9 M9 h9 => ?_)
  obtain ⟨rfl, hr9⟩ := h9
  refine ww_goto (tgt := 18) dL_waive_6 (by decide) ?_
  refine ww_iconst (v := 0) dL_waive_18 (by decide) ?_
  exact ww_ireturn dL_waive_19 rfl (by first | rfl | exact ww_b_nar) ⟨rfl, hr9⟩
set_option maxRecDepth 20000 in
theorem lw_waive_1 (h : ww_C g wy_X6_waive d' mc' ms' [.ref x, .int a1, .int a2] M ww_nr (ww_th "java/lang/IndexOutOfBoundsException" M)) (hx : ww_is M.1 x 7) (hd : d' ≤ 14) (hmc : mc' ≤ 10) (hms : ms' ≤ 1100) : ww_C g wy_L_waive 15 10 1100 [.ref x, .int a1, .int a2] M (ww_ret (some (.int 1)) M) ww_no := by
  refine ww_ent (by decide +kernel) (Nat.le_of_ble_eq_true rfl) ⟨rfl, rfl, rfl, trivial⟩ ?_
  refine ww_aload_n (i := 0) dL_waive_0 rfl rfl ?_
  refine ww_iload_n (i := 1) dL_waive_1 rfl rfl ?_
  refine ww_iload_n (i := 2) dL_waive_2 rfl rfl ?_
  -- at 3, locals [0, 1, 2]
  refine ww_callVX (κ := 7) (r := (RX6, TX6, 4)) wk_L_47 dL_waive_3 h rfl rfl hx.1 hx.2 rfl rfl (by omega) hmc hms (by first | exact Nat.le_of_ble_eq_true rfl | (simp [ww_rf_cat, Value.category])) (fun E M9 h9 => ?_) (fun v9 M9 h9 => h9.elim)
  obtain ⟨rfl, rfl⟩ := h9
  refine ⟨9, ⟨[], (0, 6, 9, 25), [(0, 6, 12, 13), (0, 6, 15, 15)], "java/lang/IndexOutOfBoundsException", rfl, (fun z hz => by cases hz), ⟨by decide, by decide⟩, by decide, wm_509, by decide, rfl⟩, fun q => ?_⟩
  first | refine ww_astore_n (i := 3) (lv2 := [(0, _), (1, _), (2, _), (3, _)]) dL_waive_9 rfl (Nat.le_of_ble_eq_true rfl) rfl ?_ | refine ww_astore_nQ (i := 3) (lv2 := [(0, _), (1, _), (2, _), (3, _)]) dL_waive_9 rfl (Nat.le_of_ble_eq_true rfl) rfl ?_
  refine ww_iconst (v := 1) dL_waive_10 (by decide) ?_
  exact ww_ireturn dL_waive_11 rfl (by first | rfl | exact ww_b_nar) ⟨rfl, rfl⟩
set_option maxRecDepth 20000 in
theorem lw_waive_2 (h : ww_C g wy_X6_waive d' mc' ms' [.ref x, .int a1, .int a2] M ww_nr (ww_th "java/lang/IllegalArgumentException" M)) (hx : ww_is M.1 x 7) (hd : d' ≤ 14) (hmc : mc' ≤ 10) (hms : ms' ≤ 1100) : ww_C g wy_L_waive 15 10 1100 [.ref x, .int a1, .int a2] M (ww_ret (some (.int 2)) M) ww_no := by
  refine ww_ent (by decide +kernel) (Nat.le_of_ble_eq_true rfl) ⟨rfl, rfl, rfl, trivial⟩ ?_
  refine ww_aload_n (i := 0) dL_waive_0 rfl rfl ?_
  refine ww_iload_n (i := 1) dL_waive_1 rfl rfl ?_
  refine ww_iload_n (i := 2) dL_waive_2 rfl rfl ?_
  -- at 3, locals [0, 1, 2]
  refine ww_callVX (κ := 7) (r := (RX6, TX6, 4)) wk_L_47 dL_waive_3 h rfl rfl hx.1 hx.2 rfl rfl (by omega) hmc hms (by first | exact Nat.le_of_ble_eq_true rfl | (simp [ww_rf_cat, Value.category])) (fun E M9 h9 => ?_) (fun v9 M9 h9 => h9.elim)
  obtain ⟨rfl, rfl⟩ := h9
  refine ⟨12, ⟨[(0, 6, 9, 25)], (0, 6, 12, 13), [(0, 6, 15, 15)], "java/lang/IllegalArgumentException", rfl, (List.forall_mem_cons.mpr ⟨⟨by decide, "java/lang/IndexOutOfBoundsException", wm_509, by decide⟩, fun _ h => absurd h List.not_mem_nil⟩), ⟨by decide, by decide⟩, by decide, wm_242, by decide, rfl⟩, fun q => ?_⟩
  first | refine ww_astore_n (i := 3) (lv2 := [(0, _), (1, _), (2, _), (3, _)]) dL_waive_12 rfl (Nat.le_of_ble_eq_true rfl) rfl ?_ | refine ww_astore_nQ (i := 3) (lv2 := [(0, _), (1, _), (2, _), (3, _)]) dL_waive_12 rfl (Nat.le_of_ble_eq_true rfl) rfl ?_
  refine ww_iconst (v := 2) dL_waive_13 (by decide) ?_
  exact ww_ireturn dL_waive_14 rfl (by first | rfl | exact ww_b_nar) ⟨rfl, rfl⟩
set_option maxRecDepth 20000 in
theorem lw_waive_3 (h : ww_C g wy_X6_waive d' mc' ms' [.ref x, .int a1, .int a2] M ww_nr (ww_th "java/lang/IllegalStateException" M)) (hx : ww_is M.1 x 7) (hd : d' ≤ 14) (hmc : mc' ≤ 10) (hms : ms' ≤ 1100) : ww_C g wy_L_waive 15 10 1100 [.ref x, .int a1, .int a2] M (ww_ret (some (.int 3)) M) ww_no := by
  refine ww_ent (by decide +kernel) (Nat.le_of_ble_eq_true rfl) ⟨rfl, rfl, rfl, trivial⟩ ?_
  refine ww_aload_n (i := 0) dL_waive_0 rfl rfl ?_
  refine ww_iload_n (i := 1) dL_waive_1 rfl rfl ?_
  refine ww_iload_n (i := 2) dL_waive_2 rfl rfl ?_
  -- at 3, locals [0, 1, 2]
  refine ww_callVX (κ := 7) (r := (RX6, TX6, 4)) wk_L_47 dL_waive_3 h rfl rfl hx.1 hx.2 rfl rfl (by omega) hmc hms (by first | exact Nat.le_of_ble_eq_true rfl | (simp [ww_rf_cat, Value.category])) (fun E M9 h9 => ?_) (fun v9 M9 h9 => h9.elim)
  obtain ⟨rfl, rfl⟩ := h9
  refine ⟨15, ⟨[(0, 6, 9, 25), (0, 6, 12, 13)], (0, 6, 15, 15), [], "java/lang/IllegalStateException", rfl, (List.forall_mem_cons.mpr ⟨⟨by decide, "java/lang/IndexOutOfBoundsException", wm_509, by decide⟩, List.forall_mem_cons.mpr ⟨⟨by decide, "java/lang/IllegalArgumentException", wm_242, by decide⟩, fun _ h => absurd h List.not_mem_nil⟩⟩), ⟨by decide, by decide⟩, by decide, wm_243, by decide, rfl⟩, fun q => ?_⟩
  first | refine ww_astore_n (i := 3) (lv2 := [(0, _), (1, _), (2, _), (3, _)]) dL_waive_15 rfl (Nat.le_of_ble_eq_true rfl) rfl ?_ | refine ww_astore_nQ (i := 3) (lv2 := [(0, _), (1, _), (2, _), (3, _)]) dL_waive_15 rfl (Nat.le_of_ble_eq_true rfl) rfl ?_
  refine ww_iconst (v := 3) dL_waive_16 (by decide) ?_
  exact ww_ireturn dL_waive_17 rfl (by first | rfl | exact ww_b_nar) ⟨rfl, rfl⟩
set_option maxRecDepth 20000 in
theorem lw_flaw_0 (h : ww_C g wy_X6_flaw d' mc' ms' [.ref x, .int a1, .int a2] M (ww_rR (some (.int r)) R) ww_no) (hx : ww_is M.1 x 7) (hR : ∀ M1, R M1 → ww_is M1.1 ol 13 ∧ ww_N M1 ol = 1) (hd : d' ≤ 14) (hmc : mc' ≤ 10) (hms : ms' ≤ 1100) : ww_C g wy_L_flaw 15 10 1100 [.ref x, .int a1, .int a2, .ref ol] M (ww_lo0 ol r R) ww_no := by
  refine ww_ent (by decide +kernel) (Nat.le_of_ble_eq_true rfl) ⟨rfl, rfl, rfl, rfl, trivial⟩ ?_
  refine ww_aload_n (i := 3) dL_flaw_0 rfl rfl ?_
  refine ww_iconst (v := 0) dL_flaw_1 (by decide) ?_
  refine ww_aload_n (i := 0) dL_flaw_2 rfl rfl ?_
  refine ww_iload_n (i := 1) dL_flaw_3 rfl rfl ?_
  refine ww_iload_n (i := 2) dL_flaw_4 rfl rfl ?_
  -- at 5, locals [0, 1, 2, 3]
  refine ww_callVX (κ := 7) (r := (RX6, TX6, 4)) wk_L_51 dL_flaw_5 h rfl rfl hx.1 hx.2 rfl rfl (by omega) hmc hms (by first | exact Nat.le_of_ble_eq_true rfl | (simp [ww_rf_cat, Value.category])) (fun E M9 h9 => h9.elim) (fun v9 M9 h9 => ?_)
  obtain ⟨rfl, hr9⟩ := h9
  obtain ⟨o1, o2⟩ := hR M9 hr9
  refine ww_i2l dL_flaw_8 ?_
  -- at 9, locals [0, 1, 2, 3]
  refine ww_last (j := 0) dL_flaw_9 o1.1 o1.2 nI_0.symm (by rw [o2]; decide) (by rw [o2]; decide) ?_
  refine ww_goto (tgt := 21) dL_flaw_10 (by decide) ?_
  refine ww_iconst (v := 0) dL_flaw_21 (by decide) ?_
  exact ww_ireturn dL_flaw_22 rfl (by first | rfl | exact ww_b_nar) ⟨rfl, M9, hr9, rfl⟩
set_option maxRecDepth 20000 in
theorem lw_flaw_1 (h : ww_C g wy_X6_flaw d' mc' ms' [.ref x, .int a1, .int a2] M ww_nr (ww_th "java/lang/IndexOutOfBoundsException" M)) (hx : ww_is M.1 x 7) (hd : d' ≤ 14) (hmc : mc' ≤ 10) (hms : ms' ≤ 1100) : ww_C g wy_L_flaw 15 10 1100 [.ref x, .int a1, .int a2, .ref ol] M (ww_ret (some (.int 1)) M) ww_no := by
  refine ww_ent (by decide +kernel) (Nat.le_of_ble_eq_true rfl) ⟨rfl, rfl, rfl, rfl, trivial⟩ ?_
  refine ww_aload_n (i := 3) dL_flaw_0 rfl rfl ?_
  refine ww_iconst (v := 0) dL_flaw_1 (by decide) ?_
  refine ww_aload_n (i := 0) dL_flaw_2 rfl rfl ?_
  refine ww_iload_n (i := 1) dL_flaw_3 rfl rfl ?_
  refine ww_iload_n (i := 2) dL_flaw_4 rfl rfl ?_
  -- at 5, locals [0, 1, 2, 3]
  refine ww_callVX (κ := 7) (r := (RX6, TX6, 4)) wk_L_51 dL_flaw_5 h rfl rfl hx.1 hx.2 rfl rfl (by omega) hmc hms (by first | exact Nat.le_of_ble_eq_true rfl | (simp [ww_rf_cat, Value.category])) (fun E M9 h9 => ?_) (fun v9 M9 h9 => h9.elim)
  obtain ⟨rfl, rfl⟩ := h9
  refine ⟨13, ⟨[], (0, 10, 13, 25), [(0, 10, 17, 13)], "java/lang/IndexOutOfBoundsException", rfl, (fun z hz => by cases hz), ⟨by decide, by decide⟩, by decide, wm_509, by decide, rfl⟩, fun q => ?_⟩
  first | refine ww_astore (i := 4) (lv2 := [(0, _), (1, _), (2, _), (3, _), (4, _)]) dL_flaw_13 (Nat.le_of_ble_eq_true rfl) rfl ?_ | refine ww_astoreQ (i := 4) (lv2 := [(0, _), (1, _), (2, _), (3, _), (4, _)]) dL_flaw_13 (Nat.le_of_ble_eq_true rfl) rfl ?_
  refine ww_iconst (v := 1) dL_flaw_15 (by decide) ?_
  exact ww_ireturn dL_flaw_16 rfl (by first | rfl | exact ww_b_nar) ⟨rfl, rfl⟩
set_option maxRecDepth 20000 in
theorem lw_flaw_2 (h : ww_C g wy_X6_flaw d' mc' ms' [.ref x, .int a1, .int a2] M ww_nr (ww_th "java/lang/IllegalArgumentException" M)) (hx : ww_is M.1 x 7) (hd : d' ≤ 14) (hmc : mc' ≤ 10) (hms : ms' ≤ 1100) : ww_C g wy_L_flaw 15 10 1100 [.ref x, .int a1, .int a2, .ref ol] M (ww_ret (some (.int 2)) M) ww_no := by
  refine ww_ent (by decide +kernel) (Nat.le_of_ble_eq_true rfl) ⟨rfl, rfl, rfl, rfl, trivial⟩ ?_
  refine ww_aload_n (i := 3) dL_flaw_0 rfl rfl ?_
  refine ww_iconst (v := 0) dL_flaw_1 (by decide) ?_
  refine ww_aload_n (i := 0) dL_flaw_2 rfl rfl ?_
  refine ww_iload_n (i := 1) dL_flaw_3 rfl rfl ?_
  refine ww_iload_n (i := 2) dL_flaw_4 rfl rfl ?_
  -- at 5, locals [0, 1, 2, 3]
  refine ww_callVX (κ := 7) (r := (RX6, TX6, 4)) wk_L_51 dL_flaw_5 h rfl rfl hx.1 hx.2 rfl rfl (by omega) hmc hms (by first | exact Nat.le_of_ble_eq_true rfl | (simp [ww_rf_cat, Value.category])) (fun E M9 h9 => ?_) (fun v9 M9 h9 => h9.elim)
  obtain ⟨rfl, rfl⟩ := h9
  refine ⟨17, ⟨[(0, 10, 13, 25)], (0, 10, 17, 13), [], "java/lang/IllegalArgumentException", rfl, (List.forall_mem_cons.mpr ⟨⟨by decide, "java/lang/IndexOutOfBoundsException", wm_509, by decide⟩, fun _ h => absurd h List.not_mem_nil⟩), ⟨by decide, by decide⟩, by decide, wm_242, by decide, rfl⟩, fun q => ?_⟩
  first | refine ww_astore (i := 4) (lv2 := [(0, _), (1, _), (2, _), (3, _), (4, _)]) dL_flaw_17 (Nat.le_of_ble_eq_true rfl) rfl ?_ | refine ww_astoreQ (i := 4) (lv2 := [(0, _), (1, _), (2, _), (3, _), (4, _)]) dL_flaw_17 (Nat.le_of_ble_eq_true rfl) rfl ?_
  refine ww_iconst (v := 2) dL_flaw_19 (by decide) ?_
  exact ww_ireturn dL_flaw_20 rfl (by first | rfl | exact ww_b_nar) ⟨rfl, rfl⟩
set_option maxRecDepth 20000 in
theorem lw_look_0 (h : ww_C g wy_X6_look d' mc' ms' [.ref x, .int a1, .int a2] M (ww_rR (some (.int r)) R) ww_no) (hx : ww_is M.1 x 7) (hR : ∀ M1, R M1 → ww_is M1.1 ol 13 ∧ ww_N M1 ol = 1) (hd : d' ≤ 14) (hmc : mc' ≤ 10) (hms : ms' ≤ 1100) : ww_C g wy_L_look 15 10 1100 [.ref x, .int a1, .int a2, .ref ol] M (ww_lo0 ol r R) ww_no := by
  refine ww_ent (by decide +kernel) (Nat.le_of_ble_eq_true rfl) ⟨rfl, rfl, rfl, rfl, trivial⟩ ?_
  refine ww_aload_n (i := 3) dL_look_0 rfl rfl ?_
  refine ww_iconst (v := 0) dL_look_1 (by decide) ?_
  refine ww_aload_n (i := 0) dL_look_2 rfl rfl ?_
  refine ww_iload_n (i := 1) dL_look_3 rfl rfl ?_
  refine ww_iload_n (i := 2) dL_look_4 rfl rfl ?_
  -- at 5, locals [0, 1, 2, 3]
  refine ww_callVX (κ := 7) (r := (RX6, TX6, 4)) wk_L_54 dL_look_5 h rfl rfl hx.1 hx.2 rfl rfl (by omega) hmc hms (by first | exact Nat.le_of_ble_eq_true rfl | (simp [ww_rf_cat, Value.category])) (fun E M9 h9 => h9.elim) (fun v9 M9 h9 => ?_)
  obtain ⟨rfl, hr9⟩ := h9
  obtain ⟨o1, o2⟩ := hR M9 hr9
  refine ww_i2l dL_look_8 ?_
  -- at 9, locals [0, 1, 2, 3]
  refine ww_last (j := 0) dL_look_9 o1.1 o1.2 nI_0.symm (by rw [o2]; decide) (by rw [o2]; decide) ?_
  refine ww_goto (tgt := 21) dL_look_10 (by decide) ?_
  refine ww_iconst (v := 0) dL_look_21 (by decide) ?_
  exact ww_ireturn dL_look_22 rfl (by first | rfl | exact ww_b_nar) ⟨rfl, M9, hr9, rfl⟩
set_option maxRecDepth 20000 in
theorem lw_look_1 (h : ww_C g wy_X6_look d' mc' ms' [.ref x, .int a1, .int a2] M ww_nr (ww_th "java/lang/IndexOutOfBoundsException" M)) (hx : ww_is M.1 x 7) (hd : d' ≤ 14) (hmc : mc' ≤ 10) (hms : ms' ≤ 1100) : ww_C g wy_L_look 15 10 1100 [.ref x, .int a1, .int a2, .ref ol] M (ww_ret (some (.int 1)) M) ww_no := by
  refine ww_ent (by decide +kernel) (Nat.le_of_ble_eq_true rfl) ⟨rfl, rfl, rfl, rfl, trivial⟩ ?_
  refine ww_aload_n (i := 3) dL_look_0 rfl rfl ?_
  refine ww_iconst (v := 0) dL_look_1 (by decide) ?_
  refine ww_aload_n (i := 0) dL_look_2 rfl rfl ?_
  refine ww_iload_n (i := 1) dL_look_3 rfl rfl ?_
  refine ww_iload_n (i := 2) dL_look_4 rfl rfl ?_
  -- at 5, locals [0, 1, 2, 3]
  refine ww_callVX (κ := 7) (r := (RX6, TX6, 4)) wk_L_54 dL_look_5 h rfl rfl hx.1 hx.2 rfl rfl (by omega) hmc hms (by first | exact Nat.le_of_ble_eq_true rfl | (simp [ww_rf_cat, Value.category])) (fun E M9 h9 => ?_) (fun v9 M9 h9 => h9.elim)
  obtain ⟨rfl, rfl⟩ := h9
  refine ⟨13, ⟨[], (0, 10, 13, 25), [(0, 10, 17, 15)], "java/lang/IndexOutOfBoundsException", rfl, (fun z hz => by cases hz), ⟨by decide, by decide⟩, by decide, wm_509, by decide, rfl⟩, fun q => ?_⟩
  first | refine ww_astore (i := 4) (lv2 := [(0, _), (1, _), (2, _), (3, _), (4, _)]) dL_look_13 (Nat.le_of_ble_eq_true rfl) rfl ?_ | refine ww_astoreQ (i := 4) (lv2 := [(0, _), (1, _), (2, _), (3, _), (4, _)]) dL_look_13 (Nat.le_of_ble_eq_true rfl) rfl ?_
  refine ww_iconst (v := 1) dL_look_15 (by decide) ?_
  exact ww_ireturn dL_look_16 rfl (by first | rfl | exact ww_b_nar) ⟨rfl, rfl⟩
set_option maxRecDepth 20000 in
theorem lw_look_2 (h : ww_C g wy_X6_look d' mc' ms' [.ref x, .int a1, .int a2] M ww_nr (ww_th "java/lang/IllegalStateException" M)) (hx : ww_is M.1 x 7) (hd : d' ≤ 14) (hmc : mc' ≤ 10) (hms : ms' ≤ 1100) : ww_C g wy_L_look 15 10 1100 [.ref x, .int a1, .int a2, .ref ol] M (ww_ret (some (.int 2)) M) ww_no := by
  refine ww_ent (by decide +kernel) (Nat.le_of_ble_eq_true rfl) ⟨rfl, rfl, rfl, rfl, trivial⟩ ?_
  refine ww_aload_n (i := 3) dL_look_0 rfl rfl ?_
  refine ww_iconst (v := 0) dL_look_1 (by decide) ?_
  refine ww_aload_n (i := 0) dL_look_2 rfl rfl ?_
  refine ww_iload_n (i := 1) dL_look_3 rfl rfl ?_
  refine ww_iload_n (i := 2) dL_look_4 rfl rfl ?_
  -- at 5, locals [0, 1, 2, 3]
  refine ww_callVX (κ := 7) (r := (RX6, TX6, 4)) wk_L_54 dL_look_5 h rfl rfl hx.1 hx.2 rfl rfl (by omega) hmc hms (by first | exact Nat.le_of_ble_eq_true rfl | (simp [ww_rf_cat, Value.category])) (fun E M9 h9 => ?_) (fun v9 M9 h9 => h9.elim)
  obtain ⟨rfl, rfl⟩ := h9
  refine ⟨17, ⟨[(0, 10, 13, 25)], (0, 10, 17, 15), [], "java/lang/IllegalStateException", rfl, (List.forall_mem_cons.mpr ⟨⟨by decide, "java/lang/IndexOutOfBoundsException", wm_509, by decide⟩, fun _ h => absurd h List.not_mem_nil⟩), ⟨by decide, by decide⟩, by decide, wm_243, by decide, rfl⟩, fun q => ?_⟩
  first | refine ww_astore (i := 4) (lv2 := [(0, _), (1, _), (2, _), (3, _), (4, _)]) dL_look_17 (Nat.le_of_ble_eq_true rfl) rfl ?_ | refine ww_astoreQ (i := 4) (lv2 := [(0, _), (1, _), (2, _), (3, _), (4, _)]) dL_look_17 (Nat.le_of_ble_eq_true rfl) rfl ?_
  refine ww_iconst (v := 2) dL_look_19 (by decide) ?_
  exact ww_ireturn dL_look_20 rfl (by first | rfl | exact ww_b_nar) ⟨rfl, rfl⟩
set_option maxRecDepth 20000 in
theorem lw_clear_0 (h : ww_C g wy_X6_clear d' mc' ms' [.ref x, .int a1] M (ww_rR (some (.int r)) R) ww_no) (hx : ww_is M.1 x 7) (hR : ∀ M1, R M1 → ww_is M1.1 ol 13 ∧ ww_N M1 ol = 1) (hd : d' ≤ 14) (hmc : mc' ≤ 10) (hms : ms' ≤ 1100) : ww_C g wy_L_clear 15 10 1100 [.ref x, .int a1, .ref ol] M (ww_lo0 ol r R) ww_no := by
  refine ww_ent (by decide +kernel) (Nat.le_of_ble_eq_true rfl) ⟨rfl, rfl, rfl, trivial⟩ ?_
  refine ww_aload_n (i := 2) dL_clear_0 rfl rfl ?_
  refine ww_iconst (v := 0) dL_clear_1 (by decide) ?_
  refine ww_aload_n (i := 0) dL_clear_2 rfl rfl ?_
  refine ww_iload_n (i := 1) dL_clear_3 rfl rfl ?_
  -- at 4, locals [0, 1, 2]
  refine ww_callVX (κ := 7) (r := (RX6, TX6, 4)) wk_L_58 dL_clear_4 h rfl rfl hx.1 hx.2 rfl rfl (by omega) hmc hms (by first | exact Nat.le_of_ble_eq_true rfl | (simp [ww_rf_cat, Value.category])) (fun E M9 h9 => h9.elim) (fun v9 M9 h9 => ?_)
  obtain ⟨rfl, hr9⟩ := h9
  obtain ⟨o1, o2⟩ := hR M9 hr9
  refine ww_i2l dL_clear_7 ?_
  -- at 8, locals [0, 1, 2]
  refine ww_last (j := 0) dL_clear_8 o1.1 o1.2 nI_0.symm (by rw [o2]; decide) (by rw [o2]; decide) ?_
  refine ww_goto (tgt := 18) dL_clear_9 (by decide) ?_
  refine ww_iconst (v := 0) dL_clear_18 (by decide) ?_
  exact ww_ireturn dL_clear_19 rfl (by first | rfl | exact ww_b_nar) ⟨rfl, M9, hr9, rfl⟩
set_option maxRecDepth 20000 in
theorem lw_clear_1 (h : ww_C g wy_X6_clear d' mc' ms' [.ref x, .int a1] M ww_nr (ww_th "java/lang/IndexOutOfBoundsException" M)) (hx : ww_is M.1 x 7) (hd : d' ≤ 14) (hmc : mc' ≤ 10) (hms : ms' ≤ 1100) : ww_C g wy_L_clear 15 10 1100 [.ref x, .int a1, .ref ol] M (ww_ret (some (.int 1)) M) ww_no := by
  refine ww_ent (by decide +kernel) (Nat.le_of_ble_eq_true rfl) ⟨rfl, rfl, rfl, trivial⟩ ?_
  refine ww_aload_n (i := 2) dL_clear_0 rfl rfl ?_
  refine ww_iconst (v := 0) dL_clear_1 (by decide) ?_
  refine ww_aload_n (i := 0) dL_clear_2 rfl rfl ?_
  refine ww_iload_n (i := 1) dL_clear_3 rfl rfl ?_
  -- at 4, locals [0, 1, 2]
  refine ww_callVX (κ := 7) (r := (RX6, TX6, 4)) wk_L_58 dL_clear_4 h rfl rfl hx.1 hx.2 rfl rfl (by omega) hmc hms (by first | exact Nat.le_of_ble_eq_true rfl | (simp [ww_rf_cat, Value.category])) (fun E M9 h9 => ?_) (fun v9 M9 h9 => h9.elim)
  obtain ⟨rfl, rfl⟩ := h9
  refine ⟨12, ⟨[], (0, 9, 12, 25), [(0, 9, 15, 15)], "java/lang/IndexOutOfBoundsException", rfl, (fun z hz => by cases hz), ⟨by decide, by decide⟩, by decide, wm_509, by decide, rfl⟩, fun q => ?_⟩
  first | refine ww_astore_n (i := 3) (lv2 := [(0, _), (1, _), (2, _), (3, _)]) dL_clear_12 rfl (Nat.le_of_ble_eq_true rfl) rfl ?_ | refine ww_astore_nQ (i := 3) (lv2 := [(0, _), (1, _), (2, _), (3, _)]) dL_clear_12 rfl (Nat.le_of_ble_eq_true rfl) rfl ?_
  refine ww_iconst (v := 1) dL_clear_13 (by decide) ?_
  exact ww_ireturn dL_clear_14 rfl (by first | rfl | exact ww_b_nar) ⟨rfl, rfl⟩
set_option maxRecDepth 20000 in
theorem lw_clear_2 (h : ww_C g wy_X6_clear d' mc' ms' [.ref x, .int a1] M ww_nr (ww_th "java/lang/IllegalStateException" M)) (hx : ww_is M.1 x 7) (hd : d' ≤ 14) (hmc : mc' ≤ 10) (hms : ms' ≤ 1100) : ww_C g wy_L_clear 15 10 1100 [.ref x, .int a1, .ref ol] M (ww_ret (some (.int 2)) M) ww_no := by
  refine ww_ent (by decide +kernel) (Nat.le_of_ble_eq_true rfl) ⟨rfl, rfl, rfl, trivial⟩ ?_
  refine ww_aload_n (i := 2) dL_clear_0 rfl rfl ?_
  refine ww_iconst (v := 0) dL_clear_1 (by decide) ?_
  refine ww_aload_n (i := 0) dL_clear_2 rfl rfl ?_
  refine ww_iload_n (i := 1) dL_clear_3 rfl rfl ?_
  -- at 4, locals [0, 1, 2]
  refine ww_callVX (κ := 7) (r := (RX6, TX6, 4)) wk_L_58 dL_clear_4 h rfl rfl hx.1 hx.2 rfl rfl (by omega) hmc hms (by first | exact Nat.le_of_ble_eq_true rfl | (simp [ww_rf_cat, Value.category])) (fun E M9 h9 => ?_) (fun v9 M9 h9 => h9.elim)
  obtain ⟨rfl, rfl⟩ := h9
  refine ⟨15, ⟨[(0, 9, 12, 25)], (0, 9, 15, 15), [], "java/lang/IllegalStateException", rfl, (List.forall_mem_cons.mpr ⟨⟨by decide, "java/lang/IndexOutOfBoundsException", wm_509, by decide⟩, fun _ h => absurd h List.not_mem_nil⟩), ⟨by decide, by decide⟩, by decide, wm_243, by decide, rfl⟩, fun q => ?_⟩
  first | refine ww_astore_n (i := 3) (lv2 := [(0, _), (1, _), (2, _), (3, _)]) dL_clear_15 rfl (Nat.le_of_ble_eq_true rfl) rfl ?_ | refine ww_astore_nQ (i := 3) (lv2 := [(0, _), (1, _), (2, _), (3, _)]) dL_clear_15 rfl (Nat.le_of_ble_eq_true rfl) rfl ?_
  refine ww_iconst (v := 2) dL_clear_16 (by decide) ?_
  exact ww_ireturn dL_clear_17 rfl (by first | rfl | exact ww_b_nar) ⟨rfl, rfl⟩
set_option maxRecDepth 20000 in
theorem lw_recall_0 (h : ww_C g wy_X6_recall d' mc' ms' [.ref x, .int a1] M (ww_rR (some (.int r)) R) ww_no) (hx : ww_is M.1 x 7) (hR : ∀ M1, R M1 → ww_is M1.1 ol 13 ∧ ww_N M1 ol = 1) (hd : d' ≤ 14) (hmc : mc' ≤ 10) (hms : ms' ≤ 1100) : ww_C g wy_L_recall 15 10 1100 [.ref x, .int a1, .ref ol] M (ww_lo0 ol r R) ww_no := by
  refine ww_ent (by decide +kernel) (Nat.le_of_ble_eq_true rfl) ⟨rfl, rfl, rfl, trivial⟩ ?_
  refine ww_aload_n (i := 2) dL_recall_0 rfl rfl ?_
  refine ww_iconst (v := 0) dL_recall_1 (by decide) ?_
  refine ww_aload_n (i := 0) dL_recall_2 rfl rfl ?_
  refine ww_iload_n (i := 1) dL_recall_3 rfl rfl ?_
  -- at 4, locals [0, 1, 2]
  refine ww_callVX (κ := 7) (r := (RX6, TX6, 4)) wk_L_61 dL_recall_4 h rfl rfl hx.1 hx.2 rfl rfl (by omega) hmc hms (by first | exact Nat.le_of_ble_eq_true rfl | (simp [ww_rf_cat, Value.category])) (fun E M9 h9 => h9.elim) (fun v9 M9 h9 => ?_)
  obtain ⟨rfl, hr9⟩ := h9
  obtain ⟨o1, o2⟩ := hR M9 hr9
  refine ww_i2l dL_recall_7 ?_
  -- at 8, locals [0, 1, 2]
  refine ww_last (j := 0) dL_recall_8 o1.1 o1.2 nI_0.symm (by rw [o2]; decide) (by rw [o2]; decide) ?_
  refine ww_goto (tgt := 15) dL_recall_9 (by decide) ?_
  refine ww_iconst (v := 0) dL_recall_15 (by decide) ?_
  exact ww_ireturn dL_recall_16 rfl (by first | rfl | exact ww_b_nar) ⟨rfl, M9, hr9, rfl⟩
set_option maxRecDepth 20000 in
theorem lw_recall_1 (h : ww_C g wy_X6_recall d' mc' ms' [.ref x, .int a1] M ww_nr (ww_th "java/lang/IllegalArgumentException" M)) (hx : ww_is M.1 x 7) (hd : d' ≤ 14) (hmc : mc' ≤ 10) (hms : ms' ≤ 1100) : ww_C g wy_L_recall 15 10 1100 [.ref x, .int a1, .ref ol] M (ww_ret (some (.int 1)) M) ww_no := by
  refine ww_ent (by decide +kernel) (Nat.le_of_ble_eq_true rfl) ⟨rfl, rfl, rfl, trivial⟩ ?_
  refine ww_aload_n (i := 2) dL_recall_0 rfl rfl ?_
  refine ww_iconst (v := 0) dL_recall_1 (by decide) ?_
  refine ww_aload_n (i := 0) dL_recall_2 rfl rfl ?_
  refine ww_iload_n (i := 1) dL_recall_3 rfl rfl ?_
  -- at 4, locals [0, 1, 2]
  refine ww_callVX (κ := 7) (r := (RX6, TX6, 4)) wk_L_61 dL_recall_4 h rfl rfl hx.1 hx.2 rfl rfl (by omega) hmc hms (by first | exact Nat.le_of_ble_eq_true rfl | (simp [ww_rf_cat, Value.category])) (fun E M9 h9 => ?_) (fun v9 M9 h9 => h9.elim)
  obtain ⟨rfl, rfl⟩ := h9
  refine ⟨12, ⟨[], (0, 9, 12, 13), [], "java/lang/IllegalArgumentException", rfl, (fun z hz => by cases hz), ⟨by decide, by decide⟩, by decide, wm_242, by decide, rfl⟩, fun q => ?_⟩
  first | refine ww_astore_n (i := 3) (lv2 := [(0, _), (1, _), (2, _), (3, _)]) dL_recall_12 rfl (Nat.le_of_ble_eq_true rfl) rfl ?_ | refine ww_astore_nQ (i := 3) (lv2 := [(0, _), (1, _), (2, _), (3, _)]) dL_recall_12 rfl (Nat.le_of_ble_eq_true rfl) rfl ?_
  refine ww_iconst (v := 1) dL_recall_13 (by decide) ?_
  exact ww_ireturn dL_recall_14 rfl (by first | rfl | exact ww_b_nar) ⟨rfl, rfl⟩
set_option maxRecDepth 20000 in
theorem lw_release_0 (h : ww_C g wy_X6_release d' mc' ms' [.ref x, .int a1] M (ww_rR (some (.int r)) R) ww_no) (hx : ww_is M.1 x 7) (hR : ∀ M1, R M1 → ww_is M1.1 ol 13 ∧ ww_N M1 ol = 1) (hd : d' ≤ 14) (hmc : mc' ≤ 10) (hms : ms' ≤ 1100) : ww_C g wy_L_release 15 10 1100 [.ref x, .int a1, .ref ol] M (ww_lo0 ol r R) ww_no := by
  refine ww_ent (by decide +kernel) (Nat.le_of_ble_eq_true rfl) ⟨rfl, rfl, rfl, trivial⟩ ?_
  refine ww_aload_n (i := 2) dL_release_0 rfl rfl ?_
  refine ww_iconst (v := 0) dL_release_1 (by decide) ?_
  refine ww_aload_n (i := 0) dL_release_2 rfl rfl ?_
  refine ww_iload_n (i := 1) dL_release_3 rfl rfl ?_
  -- at 4, locals [0, 1, 2]
  refine ww_callVX (κ := 7) (r := (RX6, TX6, 4)) wk_L_64 dL_release_4 h rfl rfl hx.1 hx.2 rfl rfl (by omega) hmc hms (by first | exact Nat.le_of_ble_eq_true rfl | (simp [ww_rf_cat, Value.category])) (fun E M9 h9 => h9.elim) (fun v9 M9 h9 => ?_)
  obtain ⟨rfl, hr9⟩ := h9
  obtain ⟨o1, o2⟩ := hR M9 hr9
  refine ww_i2l dL_release_7 ?_
  -- at 8, locals [0, 1, 2]
  refine ww_last (j := 0) dL_release_8 o1.1 o1.2 nI_0.symm (by rw [o2]; decide) (by rw [o2]; decide) ?_
  refine ww_goto (tgt := 18) dL_release_9 (by decide) ?_
  refine ww_iconst (v := 0) dL_release_18 (by decide) ?_
  exact ww_ireturn dL_release_19 rfl (by first | rfl | exact ww_b_nar) ⟨rfl, M9, hr9, rfl⟩
set_option maxRecDepth 20000 in
theorem lw_release_1 (h : ww_C g wy_X6_release d' mc' ms' [.ref x, .int a1] M ww_nr (ww_th "java/lang/IndexOutOfBoundsException" M)) (hx : ww_is M.1 x 7) (hd : d' ≤ 14) (hmc : mc' ≤ 10) (hms : ms' ≤ 1100) : ww_C g wy_L_release 15 10 1100 [.ref x, .int a1, .ref ol] M (ww_ret (some (.int 1)) M) ww_no := by
  refine ww_ent (by decide +kernel) (Nat.le_of_ble_eq_true rfl) ⟨rfl, rfl, rfl, trivial⟩ ?_
  refine ww_aload_n (i := 2) dL_release_0 rfl rfl ?_
  refine ww_iconst (v := 0) dL_release_1 (by decide) ?_
  refine ww_aload_n (i := 0) dL_release_2 rfl rfl ?_
  refine ww_iload_n (i := 1) dL_release_3 rfl rfl ?_
  -- at 4, locals [0, 1, 2]
  refine ww_callVX (κ := 7) (r := (RX6, TX6, 4)) wk_L_64 dL_release_4 h rfl rfl hx.1 hx.2 rfl rfl (by omega) hmc hms (by first | exact Nat.le_of_ble_eq_true rfl | (simp [ww_rf_cat, Value.category])) (fun E M9 h9 => ?_) (fun v9 M9 h9 => h9.elim)
  obtain ⟨rfl, rfl⟩ := h9
  refine ⟨12, ⟨[], (0, 9, 12, 25), [(0, 9, 15, 13)], "java/lang/IndexOutOfBoundsException", rfl, (fun z hz => by cases hz), ⟨by decide, by decide⟩, by decide, wm_509, by decide, rfl⟩, fun q => ?_⟩
  first | refine ww_astore_n (i := 3) (lv2 := [(0, _), (1, _), (2, _), (3, _)]) dL_release_12 rfl (Nat.le_of_ble_eq_true rfl) rfl ?_ | refine ww_astore_nQ (i := 3) (lv2 := [(0, _), (1, _), (2, _), (3, _)]) dL_release_12 rfl (Nat.le_of_ble_eq_true rfl) rfl ?_
  refine ww_iconst (v := 1) dL_release_13 (by decide) ?_
  exact ww_ireturn dL_release_14 rfl (by first | rfl | exact ww_b_nar) ⟨rfl, rfl⟩
set_option maxRecDepth 20000 in
theorem lw_release_2 (h : ww_C g wy_X6_release d' mc' ms' [.ref x, .int a1] M ww_nr (ww_th "java/lang/IllegalArgumentException" M)) (hx : ww_is M.1 x 7) (hd : d' ≤ 14) (hmc : mc' ≤ 10) (hms : ms' ≤ 1100) : ww_C g wy_L_release 15 10 1100 [.ref x, .int a1, .ref ol] M (ww_ret (some (.int 2)) M) ww_no := by
  refine ww_ent (by decide +kernel) (Nat.le_of_ble_eq_true rfl) ⟨rfl, rfl, rfl, trivial⟩ ?_
  refine ww_aload_n (i := 2) dL_release_0 rfl rfl ?_
  refine ww_iconst (v := 0) dL_release_1 (by decide) ?_
  refine ww_aload_n (i := 0) dL_release_2 rfl rfl ?_
  refine ww_iload_n (i := 1) dL_release_3 rfl rfl ?_
  -- at 4, locals [0, 1, 2]
  refine ww_callVX (κ := 7) (r := (RX6, TX6, 4)) wk_L_64 dL_release_4 h rfl rfl hx.1 hx.2 rfl rfl (by omega) hmc hms (by first | exact Nat.le_of_ble_eq_true rfl | (simp [ww_rf_cat, Value.category])) (fun E M9 h9 => ?_) (fun v9 M9 h9 => h9.elim)
  obtain ⟨rfl, rfl⟩ := h9
  refine ⟨15, ⟨[(0, 9, 12, 25)], (0, 9, 15, 13), [], "java/lang/IllegalArgumentException", rfl, (List.forall_mem_cons.mpr ⟨⟨by decide, "java/lang/IndexOutOfBoundsException", wm_509, by decide⟩, fun _ h => absurd h List.not_mem_nil⟩), ⟨by decide, by decide⟩, by decide, wm_242, by decide, rfl⟩, fun q => ?_⟩
  first | refine ww_astore_n (i := 3) (lv2 := [(0, _), (1, _), (2, _), (3, _)]) dL_release_15 rfl (Nat.le_of_ble_eq_true rfl) rfl ?_ | refine ww_astore_nQ (i := 3) (lv2 := [(0, _), (1, _), (2, _), (3, _)]) dL_release_15 rfl (Nat.le_of_ble_eq_true rfl) rfl ?_
  refine ww_iconst (v := 2) dL_release_16 (by decide) ?_
  exact ww_ireturn dL_release_17 rfl (by first | rfl | exact ww_b_nar) ⟨rfl, rfl⟩
set_option maxRecDepth 20000 in
theorem lw_comes_0 (h : ww_C g wy_X6_comes d' mc' ms' [.ref x, .int a1, .int a2] M (ww_rR (some (.int r)) R) ww_no) (hx : ww_is M.1 x 7) (hR : ∀ M1, R M1 → ww_is M1.1 ol 13 ∧ ww_N M1 ol = 1) (hd : d' ≤ 14) (hmc : mc' ≤ 10) (hms : ms' ≤ 1100) : ww_C g wy_L_comes 15 10 1100 [.ref x, .int a1, .int a2, .ref ol] M (ww_lo0 ol r R) ww_no := by
  refine ww_ent (by decide +kernel) (Nat.le_of_ble_eq_true rfl) ⟨rfl, rfl, rfl, rfl, trivial⟩ ?_
  refine ww_aload_n (i := 3) dL_comes_0 rfl rfl ?_
  refine ww_iconst (v := 0) dL_comes_1 (by decide) ?_
  refine ww_aload_n (i := 0) dL_comes_2 rfl rfl ?_
  refine ww_iload_n (i := 1) dL_comes_3 rfl rfl ?_
  refine ww_iload_n (i := 2) dL_comes_4 rfl rfl ?_
  -- at 5, locals [0, 1, 2, 3]
  refine ww_callVX (κ := 7) (r := (RX6, TX6, 4)) wk_L_67 dL_comes_5 h rfl rfl hx.1 hx.2 rfl rfl (by omega) hmc hms (by first | exact Nat.le_of_ble_eq_true rfl | (simp [ww_rf_cat, Value.category])) (fun E M9 h9 => h9.elim) (fun v9 M9 h9 => ?_)
  obtain ⟨rfl, hr9⟩ := h9
  obtain ⟨o1, o2⟩ := hR M9 hr9
  refine ww_i2l dL_comes_8 ?_
  -- at 9, locals [0, 1, 2, 3]
  refine ww_last (j := 0) dL_comes_9 o1.1 o1.2 nI_0.symm (by rw [o2]; decide) (by rw [o2]; decide) ?_
  refine ww_goto (tgt := 25) dL_comes_10 (by decide) ?_
  refine ww_iconst (v := 0) dL_comes_25 (by decide) ?_
  exact ww_ireturn dL_comes_26 rfl (by first | rfl | exact ww_b_nar) ⟨rfl, M9, hr9, rfl⟩
set_option maxRecDepth 20000 in
theorem lw_comes_1 (h : ww_C g wy_X6_comes d' mc' ms' [.ref x, .int a1, .int a2] M ww_nr (ww_th "java/lang/IndexOutOfBoundsException" M)) (hx : ww_is M.1 x 7) (hd : d' ≤ 14) (hmc : mc' ≤ 10) (hms : ms' ≤ 1100) : ww_C g wy_L_comes 15 10 1100 [.ref x, .int a1, .int a2, .ref ol] M (ww_ret (some (.int 1)) M) ww_no := by
  refine ww_ent (by decide +kernel) (Nat.le_of_ble_eq_true rfl) ⟨rfl, rfl, rfl, rfl, trivial⟩ ?_
  refine ww_aload_n (i := 3) dL_comes_0 rfl rfl ?_
  refine ww_iconst (v := 0) dL_comes_1 (by decide) ?_
  refine ww_aload_n (i := 0) dL_comes_2 rfl rfl ?_
  refine ww_iload_n (i := 1) dL_comes_3 rfl rfl ?_
  refine ww_iload_n (i := 2) dL_comes_4 rfl rfl ?_
  -- at 5, locals [0, 1, 2, 3]
  refine ww_callVX (κ := 7) (r := (RX6, TX6, 4)) wk_L_67 dL_comes_5 h rfl rfl hx.1 hx.2 rfl rfl (by omega) hmc hms (by first | exact Nat.le_of_ble_eq_true rfl | (simp [ww_rf_cat, Value.category])) (fun E M9 h9 => ?_) (fun v9 M9 h9 => h9.elim)
  obtain ⟨rfl, rfl⟩ := h9
  refine ⟨13, ⟨[], (0, 10, 13, 25), [(0, 10, 17, 13), (0, 10, 21, 15)], "java/lang/IndexOutOfBoundsException", rfl, (fun z hz => by cases hz), ⟨by decide, by decide⟩, by decide, wm_509, by decide, rfl⟩, fun q => ?_⟩
  first | refine ww_astore (i := 4) (lv2 := [(0, _), (1, _), (2, _), (3, _), (4, _)]) dL_comes_13 (Nat.le_of_ble_eq_true rfl) rfl ?_ | refine ww_astoreQ (i := 4) (lv2 := [(0, _), (1, _), (2, _), (3, _), (4, _)]) dL_comes_13 (Nat.le_of_ble_eq_true rfl) rfl ?_
  refine ww_iconst (v := 1) dL_comes_15 (by decide) ?_
  exact ww_ireturn dL_comes_16 rfl (by first | rfl | exact ww_b_nar) ⟨rfl, rfl⟩
set_option maxRecDepth 20000 in
theorem lw_comes_2 (h : ww_C g wy_X6_comes d' mc' ms' [.ref x, .int a1, .int a2] M ww_nr (ww_th "java/lang/IllegalArgumentException" M)) (hx : ww_is M.1 x 7) (hd : d' ≤ 14) (hmc : mc' ≤ 10) (hms : ms' ≤ 1100) : ww_C g wy_L_comes 15 10 1100 [.ref x, .int a1, .int a2, .ref ol] M (ww_ret (some (.int 2)) M) ww_no := by
  refine ww_ent (by decide +kernel) (Nat.le_of_ble_eq_true rfl) ⟨rfl, rfl, rfl, rfl, trivial⟩ ?_
  refine ww_aload_n (i := 3) dL_comes_0 rfl rfl ?_
  refine ww_iconst (v := 0) dL_comes_1 (by decide) ?_
  refine ww_aload_n (i := 0) dL_comes_2 rfl rfl ?_
  refine ww_iload_n (i := 1) dL_comes_3 rfl rfl ?_
  refine ww_iload_n (i := 2) dL_comes_4 rfl rfl ?_
  -- at 5, locals [0, 1, 2, 3]
  refine ww_callVX (κ := 7) (r := (RX6, TX6, 4)) wk_L_67 dL_comes_5 h rfl rfl hx.1 hx.2 rfl rfl (by omega) hmc hms (by first | exact Nat.le_of_ble_eq_true rfl | (simp [ww_rf_cat, Value.category])) (fun E M9 h9 => ?_) (fun v9 M9 h9 => h9.elim)
  obtain ⟨rfl, rfl⟩ := h9
  refine ⟨17, ⟨[(0, 10, 13, 25)], (0, 10, 17, 13), [(0, 10, 21, 15)], "java/lang/IllegalArgumentException", rfl, (List.forall_mem_cons.mpr ⟨⟨by decide, "java/lang/IndexOutOfBoundsException", wm_509, by decide⟩, fun _ h => absurd h List.not_mem_nil⟩), ⟨by decide, by decide⟩, by decide, wm_242, by decide, rfl⟩, fun q => ?_⟩
  first | refine ww_astore (i := 4) (lv2 := [(0, _), (1, _), (2, _), (3, _), (4, _)]) dL_comes_17 (Nat.le_of_ble_eq_true rfl) rfl ?_ | refine ww_astoreQ (i := 4) (lv2 := [(0, _), (1, _), (2, _), (3, _), (4, _)]) dL_comes_17 (Nat.le_of_ble_eq_true rfl) rfl ?_
  refine ww_iconst (v := 2) dL_comes_19 (by decide) ?_
  exact ww_ireturn dL_comes_20 rfl (by first | rfl | exact ww_b_nar) ⟨rfl, rfl⟩
set_option maxRecDepth 20000 in
theorem lw_comes_3 (h : ww_C g wy_X6_comes d' mc' ms' [.ref x, .int a1, .int a2] M ww_nr (ww_th "java/lang/IllegalStateException" M)) (hx : ww_is M.1 x 7) (hd : d' ≤ 14) (hmc : mc' ≤ 10) (hms : ms' ≤ 1100) : ww_C g wy_L_comes 15 10 1100 [.ref x, .int a1, .int a2, .ref ol] M (ww_ret (some (.int 3)) M) ww_no := by
  refine ww_ent (by decide +kernel) (Nat.le_of_ble_eq_true rfl) ⟨rfl, rfl, rfl, rfl, trivial⟩ ?_
  refine ww_aload_n (i := 3) dL_comes_0 rfl rfl ?_
  refine ww_iconst (v := 0) dL_comes_1 (by decide) ?_
  refine ww_aload_n (i := 0) dL_comes_2 rfl rfl ?_
  refine ww_iload_n (i := 1) dL_comes_3 rfl rfl ?_
  refine ww_iload_n (i := 2) dL_comes_4 rfl rfl ?_
  -- at 5, locals [0, 1, 2, 3]
  refine ww_callVX (κ := 7) (r := (RX6, TX6, 4)) wk_L_67 dL_comes_5 h rfl rfl hx.1 hx.2 rfl rfl (by omega) hmc hms (by first | exact Nat.le_of_ble_eq_true rfl | (simp [ww_rf_cat, Value.category])) (fun E M9 h9 => ?_) (fun v9 M9 h9 => h9.elim)
  obtain ⟨rfl, rfl⟩ := h9
  refine ⟨21, ⟨[(0, 10, 13, 25), (0, 10, 17, 13)], (0, 10, 21, 15), [], "java/lang/IllegalStateException", rfl, (List.forall_mem_cons.mpr ⟨⟨by decide, "java/lang/IndexOutOfBoundsException", wm_509, by decide⟩, List.forall_mem_cons.mpr ⟨⟨by decide, "java/lang/IllegalArgumentException", wm_242, by decide⟩, fun _ h => absurd h List.not_mem_nil⟩⟩), ⟨by decide, by decide⟩, by decide, wm_243, by decide, rfl⟩, fun q => ?_⟩
  first | refine ww_astore (i := 4) (lv2 := [(0, _), (1, _), (2, _), (3, _), (4, _)]) dL_comes_21 (Nat.le_of_ble_eq_true rfl) rfl ?_ | refine ww_astoreQ (i := 4) (lv2 := [(0, _), (1, _), (2, _), (3, _), (4, _)]) dL_comes_21 (Nat.le_of_ble_eq_true rfl) rfl ?_
  refine ww_iconst (v := 3) dL_comes_23 (by decide) ?_
  exact ww_ireturn dL_comes_24 rfl (by first | rfl | exact ww_b_nar) ⟨rfl, rfl⟩
set_option maxRecDepth 20000 in
theorem lw_night_0 (h : ww_C g wy_X6_night d' mc' ms' [.ref x] M (ww_rR (some (.int r)) R) ww_no) (hx : ww_is M.1 x 7) (hR : ∀ M1, R M1 → ww_is M1.1 ol 13 ∧ ww_N M1 ol = 1) (hd : d' ≤ 14) (hmc : mc' ≤ 10) (hms : ms' ≤ 1100) : ww_C g wy_L_night 15 10 1100 [.ref x, .ref ol] M (ww_lo0 ol r R) ww_no := by
  refine ww_ent (by decide +kernel) (Nat.le_of_ble_eq_true rfl) ⟨rfl, rfl, trivial⟩ ?_
  refine ww_aload_n (i := 1) dL_night_0 rfl rfl ?_
  refine ww_iconst (v := 0) dL_night_1 (by decide) ?_
  refine ww_aload_n (i := 0) dL_night_2 rfl rfl ?_
  -- at 3, locals [0, 1]
  refine ww_callVX (κ := 7) (r := (RX6, TX6, 4)) wk_L_70 dL_night_3 h rfl rfl hx.1 hx.2 rfl rfl (by omega) hmc hms (by first | exact Nat.le_of_ble_eq_true rfl | (simp [ww_rf_cat, Value.category])) (fun E M9 h9 => h9.elim) (fun v9 M9 h9 => ?_)
  obtain ⟨rfl, hr9⟩ := h9
  obtain ⟨o1, o2⟩ := hR M9 hr9
  refine ww_i2l dL_night_6 ?_
  -- at 7, locals [0, 1]
  refine ww_last (j := 0) dL_night_7 o1.1 o1.2 nI_0.symm (by rw [o2]; decide) (by rw [o2]; decide) ?_
  refine ww_goto (tgt := 14) dL_night_8 (by decide) ?_
  refine ww_iconst (v := 0) dL_night_14 (by decide) ?_
  exact ww_ireturn dL_night_15 rfl (by first | rfl | exact ww_b_nar) ⟨rfl, M9, hr9, rfl⟩
set_option maxRecDepth 20000 in
theorem lw_night_1 (h : ww_C g wy_X6_night d' mc' ms' [.ref x] M ww_nr (ww_th "java/lang/IllegalStateException" M)) (hx : ww_is M.1 x 7) (hd : d' ≤ 14) (hmc : mc' ≤ 10) (hms : ms' ≤ 1100) : ww_C g wy_L_night 15 10 1100 [.ref x, .ref ol] M (ww_ret (some (.int 1)) M) ww_no := by
  refine ww_ent (by decide +kernel) (Nat.le_of_ble_eq_true rfl) ⟨rfl, rfl, trivial⟩ ?_
  refine ww_aload_n (i := 1) dL_night_0 rfl rfl ?_
  refine ww_iconst (v := 0) dL_night_1 (by decide) ?_
  refine ww_aload_n (i := 0) dL_night_2 rfl rfl ?_
  -- at 3, locals [0, 1]
  refine ww_callVX (κ := 7) (r := (RX6, TX6, 4)) wk_L_70 dL_night_3 h rfl rfl hx.1 hx.2 rfl rfl (by omega) hmc hms (by first | exact Nat.le_of_ble_eq_true rfl | (simp [ww_rf_cat, Value.category])) (fun E M9 h9 => ?_) (fun v9 M9 h9 => h9.elim)
  obtain ⟨rfl, rfl⟩ := h9
  refine ⟨11, ⟨[], (0, 8, 11, 15), [], "java/lang/IllegalStateException", rfl, (fun z hz => by cases hz), ⟨by decide, by decide⟩, by decide, wm_243, by decide, rfl⟩, fun q => ?_⟩
  first | refine ww_astore_n (i := 2) (lv2 := [(0, _), (1, _), (2, _)]) dL_night_11 rfl (Nat.le_of_ble_eq_true rfl) rfl ?_ | refine ww_astore_nQ (i := 2) (lv2 := [(0, _), (1, _), (2, _)]) dL_night_11 rfl (Nat.le_of_ble_eq_true rfl) rfl ?_
  refine ww_iconst (v := 1) dL_night_12 (by decide) ?_
  exact ww_ireturn dL_night_13 rfl (by first | rfl | exact ww_b_nar) ⟨rfl, rfl⟩
set_option maxRecDepth 20000 in
theorem lw_out_0 (h : ww_C g wy_X6_out d' mc' ms' [.ref x] M (ww_rR (some (.int r)) R) ww_no) (hx : ww_is M.1 x 7) (hR : ∀ M1, R M1 → ww_is M1.1 ol 13 ∧ ww_N M1 ol = 1) (hd : d' ≤ 14) (hmc : mc' ≤ 10) (hms : ms' ≤ 1100) : ww_C g wy_L_out 15 10 1100 [.ref x, .ref ol] M (ww_lo0 ol r R) ww_no := by
  refine ww_ent (by decide +kernel) (Nat.le_of_ble_eq_true rfl) ⟨rfl, rfl, trivial⟩ ?_
  refine ww_aload_n (i := 1) dL_out_0 rfl rfl ?_
  refine ww_iconst (v := 0) dL_out_1 (by decide) ?_
  refine ww_aload_n (i := 0) dL_out_2 rfl rfl ?_
  -- at 3, locals [0, 1]
  refine ww_callVX (κ := 7) (r := (RX6, TX6, 4)) wk_L_74 dL_out_3 h rfl rfl hx.1 hx.2 rfl rfl (by omega) hmc hms (by first | exact Nat.le_of_ble_eq_true rfl | (simp [ww_rf_cat, Value.category])) (fun E M9 h9 => h9.elim) (fun v9 M9 h9 => ?_)
  obtain ⟨rfl, hr9⟩ := h9
  obtain ⟨o1, o2⟩ := hR M9 hr9
  refine ww_i2l dL_out_6 ?_
  -- at 7, locals [0, 1]
  refine ww_last (j := 0) dL_out_7 o1.1 o1.2 nI_0.symm (by rw [o2]; decide) (by rw [o2]; decide) ?_
  refine ww_goto (tgt := 14) dL_out_8 (by decide) ?_
  refine ww_iconst (v := 0) dL_out_14 (by decide) ?_
  exact ww_ireturn dL_out_15 rfl (by first | rfl | exact ww_b_nar) ⟨rfl, M9, hr9, rfl⟩
set_option maxRecDepth 20000 in
theorem lw_out_1 (h : ww_C g wy_X6_out d' mc' ms' [.ref x] M ww_nr (ww_th "java/lang/IllegalStateException" M)) (hx : ww_is M.1 x 7) (hd : d' ≤ 14) (hmc : mc' ≤ 10) (hms : ms' ≤ 1100) : ww_C g wy_L_out 15 10 1100 [.ref x, .ref ol] M (ww_ret (some (.int 1)) M) ww_no := by
  refine ww_ent (by decide +kernel) (Nat.le_of_ble_eq_true rfl) ⟨rfl, rfl, trivial⟩ ?_
  refine ww_aload_n (i := 1) dL_out_0 rfl rfl ?_
  refine ww_iconst (v := 0) dL_out_1 (by decide) ?_
  refine ww_aload_n (i := 0) dL_out_2 rfl rfl ?_
  -- at 3, locals [0, 1]
  refine ww_callVX (κ := 7) (r := (RX6, TX6, 4)) wk_L_74 dL_out_3 h rfl rfl hx.1 hx.2 rfl rfl (by omega) hmc hms (by first | exact Nat.le_of_ble_eq_true rfl | (simp [ww_rf_cat, Value.category])) (fun E M9 h9 => ?_) (fun v9 M9 h9 => h9.elim)
  obtain ⟨rfl, rfl⟩ := h9
  refine ⟨11, ⟨[], (0, 8, 11, 15), [], "java/lang/IllegalStateException", rfl, (fun z hz => by cases hz), ⟨by decide, by decide⟩, by decide, wm_243, by decide, rfl⟩, fun q => ?_⟩
  first | refine ww_astore_n (i := 2) (lv2 := [(0, _), (1, _), (2, _)]) dL_out_11 rfl (Nat.le_of_ble_eq_true rfl) rfl ?_ | refine ww_astore_nQ (i := 2) (lv2 := [(0, _), (1, _), (2, _)]) dL_out_11 rfl (Nat.le_of_ble_eq_true rfl) rfl ?_
  refine ww_iconst (v := 1) dL_out_12 (by decide) ?_
  exact ww_ireturn dL_out_13 rfl (by first | rfl | exact ww_b_nar) ⟨rfl, rfl⟩
set_option maxRecDepth 20000 in
theorem lw_host_0 (h : ww_C g wy_X6_host d' mc' ms' [.ref x, .int a1] M (ww_rR (some (.int r)) R) ww_no) (hx : ww_is M.1 x 7) (hR : ∀ M1, R M1 → ww_is M1.1 ol 13 ∧ ww_N M1 ol = 1) (hd : d' ≤ 14) (hmc : mc' ≤ 10) (hms : ms' ≤ 1100) : ww_C g wy_L_host 15 10 1100 [.ref x, .int a1, .ref ol] M (ww_lo0 ol r R) ww_no := by
  refine ww_ent (by decide +kernel) (Nat.le_of_ble_eq_true rfl) ⟨rfl, rfl, rfl, trivial⟩ ?_
  refine ww_aload_n (i := 2) dL_host_0 rfl rfl ?_
  refine ww_iconst (v := 0) dL_host_1 (by decide) ?_
  refine ww_aload_n (i := 0) dL_host_2 rfl rfl ?_
  refine ww_iload_n (i := 1) dL_host_3 rfl rfl ?_
  -- at 4, locals [0, 1, 2]
  refine ww_callVX (κ := 7) (r := (RX6, TX6, 4)) wk_L_77 dL_host_4 h rfl rfl hx.1 hx.2 rfl rfl (by omega) hmc hms (by first | exact Nat.le_of_ble_eq_true rfl | (simp [ww_rf_cat, Value.category])) (fun E M9 h9 => h9.elim) (fun v9 M9 h9 => ?_)
  obtain ⟨rfl, hr9⟩ := h9
  obtain ⟨o1, o2⟩ := hR M9 hr9
  refine ww_i2l dL_host_7 ?_
  -- at 8, locals [0, 1, 2]
  refine ww_last (j := 0) dL_host_8 o1.1 o1.2 nI_0.symm (by rw [o2]; decide) (by rw [o2]; decide) ?_
  refine ww_goto (tgt := 15) dL_host_9 (by decide) ?_
  refine ww_iconst (v := 0) dL_host_15 (by decide) ?_
  exact ww_ireturn dL_host_16 rfl (by first | rfl | exact ww_b_nar) ⟨rfl, M9, hr9, rfl⟩
set_option maxRecDepth 20000 in
theorem lw_host_1 (h : ww_C g wy_X6_host d' mc' ms' [.ref x, .int a1] M ww_nr (ww_th "java/lang/IndexOutOfBoundsException" M)) (hx : ww_is M.1 x 7) (hd : d' ≤ 14) (hmc : mc' ≤ 10) (hms : ms' ≤ 1100) : ww_C g wy_L_host 15 10 1100 [.ref x, .int a1, .ref ol] M (ww_ret (some (.int 1)) M) ww_no := by
  refine ww_ent (by decide +kernel) (Nat.le_of_ble_eq_true rfl) ⟨rfl, rfl, rfl, trivial⟩ ?_
  refine ww_aload_n (i := 2) dL_host_0 rfl rfl ?_
  refine ww_iconst (v := 0) dL_host_1 (by decide) ?_
  refine ww_aload_n (i := 0) dL_host_2 rfl rfl ?_
  refine ww_iload_n (i := 1) dL_host_3 rfl rfl ?_
  -- at 4, locals [0, 1, 2]
  refine ww_callVX (κ := 7) (r := (RX6, TX6, 4)) wk_L_77 dL_host_4 h rfl rfl hx.1 hx.2 rfl rfl (by omega) hmc hms (by first | exact Nat.le_of_ble_eq_true rfl | (simp [ww_rf_cat, Value.category])) (fun E M9 h9 => ?_) (fun v9 M9 h9 => h9.elim)
  obtain ⟨rfl, rfl⟩ := h9
  refine ⟨12, ⟨[], (0, 9, 12, 25), [], "java/lang/IndexOutOfBoundsException", rfl, (fun z hz => by cases hz), ⟨by decide, by decide⟩, by decide, wm_509, by decide, rfl⟩, fun q => ?_⟩
  first | refine ww_astore_n (i := 3) (lv2 := [(0, _), (1, _), (2, _), (3, _)]) dL_host_12 rfl (Nat.le_of_ble_eq_true rfl) rfl ?_ | refine ww_astore_nQ (i := 3) (lv2 := [(0, _), (1, _), (2, _), (3, _)]) dL_host_12 rfl (Nat.le_of_ble_eq_true rfl) rfl ?_
  refine ww_iconst (v := 1) dL_host_13 (by decide) ?_
  exact ww_ireturn dL_host_14 rfl (by first | rfl | exact ww_b_nar) ⟨rfl, rfl⟩
set_option maxRecDepth 20000 in
theorem lw_head_0 (h : ww_C g wy_X6_head d' mc' ms' [.ref x, .int a1] M (ww_rR (some (.int r)) R) ww_no) (hx : ww_is M.1 x 7) (hR : ∀ M1, R M1 → ww_is M1.1 ol 13 ∧ ww_N M1 ol = 1) (hd : d' ≤ 14) (hmc : mc' ≤ 10) (hms : ms' ≤ 1100) : ww_C g wy_L_head 15 10 1100 [.ref x, .int a1, .ref ol] M (ww_lo0 ol r R) ww_no := by
  refine ww_ent (by decide +kernel) (Nat.le_of_ble_eq_true rfl) ⟨rfl, rfl, rfl, trivial⟩ ?_
  refine ww_aload_n (i := 2) dL_head_0 rfl rfl ?_
  refine ww_iconst (v := 0) dL_head_1 (by decide) ?_
  refine ww_aload_n (i := 0) dL_head_2 rfl rfl ?_
  refine ww_iload_n (i := 1) dL_head_3 rfl rfl ?_
  -- at 4, locals [0, 1, 2]
  refine ww_callVX (κ := 7) (r := (RX6, TX6, 4)) wk_L_80 dL_head_4 h rfl rfl hx.1 hx.2 rfl rfl (by omega) hmc hms (by first | exact Nat.le_of_ble_eq_true rfl | (simp [ww_rf_cat, Value.category])) (fun E M9 h9 => h9.elim) (fun v9 M9 h9 => ?_)
  obtain ⟨rfl, hr9⟩ := h9
  obtain ⟨o1, o2⟩ := hR M9 hr9
  refine ww_i2l dL_head_7 ?_
  -- at 8, locals [0, 1, 2]
  refine ww_last (j := 0) dL_head_8 o1.1 o1.2 nI_0.symm (by rw [o2]; decide) (by rw [o2]; decide) ?_
  refine ww_goto (tgt := 15) dL_head_9 (by decide) ?_
  refine ww_iconst (v := 0) dL_head_15 (by decide) ?_
  exact ww_ireturn dL_head_16 rfl (by first | rfl | exact ww_b_nar) ⟨rfl, M9, hr9, rfl⟩
set_option maxRecDepth 20000 in
theorem lw_head_1 (h : ww_C g wy_X6_head d' mc' ms' [.ref x, .int a1] M ww_nr (ww_th "java/lang/IndexOutOfBoundsException" M)) (hx : ww_is M.1 x 7) (hd : d' ≤ 14) (hmc : mc' ≤ 10) (hms : ms' ≤ 1100) : ww_C g wy_L_head 15 10 1100 [.ref x, .int a1, .ref ol] M (ww_ret (some (.int 1)) M) ww_no := by
  refine ww_ent (by decide +kernel) (Nat.le_of_ble_eq_true rfl) ⟨rfl, rfl, rfl, trivial⟩ ?_
  refine ww_aload_n (i := 2) dL_head_0 rfl rfl ?_
  refine ww_iconst (v := 0) dL_head_1 (by decide) ?_
  refine ww_aload_n (i := 0) dL_head_2 rfl rfl ?_
  refine ww_iload_n (i := 1) dL_head_3 rfl rfl ?_
  -- at 4, locals [0, 1, 2]
  refine ww_callVX (κ := 7) (r := (RX6, TX6, 4)) wk_L_80 dL_head_4 h rfl rfl hx.1 hx.2 rfl rfl (by omega) hmc hms (by first | exact Nat.le_of_ble_eq_true rfl | (simp [ww_rf_cat, Value.category])) (fun E M9 h9 => ?_) (fun v9 M9 h9 => h9.elim)
  obtain ⟨rfl, rfl⟩ := h9
  refine ⟨12, ⟨[], (0, 9, 12, 25), [], "java/lang/IndexOutOfBoundsException", rfl, (fun z hz => by cases hz), ⟨by decide, by decide⟩, by decide, wm_509, by decide, rfl⟩, fun q => ?_⟩
  first | refine ww_astore_n (i := 3) (lv2 := [(0, _), (1, _), (2, _), (3, _)]) dL_head_12 rfl (Nat.le_of_ble_eq_true rfl) rfl ?_ | refine ww_astore_nQ (i := 3) (lv2 := [(0, _), (1, _), (2, _), (3, _)]) dL_head_12 rfl (Nat.le_of_ble_eq_true rfl) rfl ?_
  refine ww_iconst (v := 1) dL_head_13 (by decide) ?_
  exact ww_ireturn dL_head_14 rfl (by first | rfl | exact ww_b_nar) ⟨rfl, rfl⟩
set_option maxRecDepth 20000 in
theorem lw_ofPart_0 (h : ww_C g wy_X6_ofPart d' mc' ms' [.ref x, .int a1, .int a2] M (ww_rR (some (.int r)) R) ww_no) (hx : ww_is M.1 x 7) (hR : ∀ M1, R M1 → ww_is M1.1 ol 13 ∧ ww_N M1 ol = 1) (hd : d' ≤ 14) (hmc : mc' ≤ 10) (hms : ms' ≤ 1100) : ww_C g wy_L_ofPart 15 10 1100 [.ref x, .int a1, .int a2, .ref ol] M (ww_lo0 ol r R) ww_no := by
  refine ww_ent (by decide +kernel) (Nat.le_of_ble_eq_true rfl) ⟨rfl, rfl, rfl, rfl, trivial⟩ ?_
  refine ww_aload_n (i := 3) dL_ofPart_0 rfl rfl ?_
  refine ww_iconst (v := 0) dL_ofPart_1 (by decide) ?_
  refine ww_aload_n (i := 0) dL_ofPart_2 rfl rfl ?_
  refine ww_iload_n (i := 1) dL_ofPart_3 rfl rfl ?_
  refine ww_iload_n (i := 2) dL_ofPart_4 rfl rfl ?_
  -- at 5, locals [0, 1, 2, 3]
  refine ww_callVX (κ := 7) (r := (RX6, TX6, 4)) wk_L_83 dL_ofPart_5 h rfl rfl hx.1 hx.2 rfl rfl (by omega) hmc hms (by first | exact Nat.le_of_ble_eq_true rfl | (simp [ww_rf_cat, Value.category])) (fun E M9 h9 => h9.elim) (fun v9 M9 h9 => ?_)
  obtain ⟨rfl, hr9⟩ := h9
  obtain ⟨o1, o2⟩ := hR M9 hr9
  refine ww_i2l dL_ofPart_8 ?_
  -- at 9, locals [0, 1, 2, 3]
  refine ww_last (j := 0) dL_ofPart_9 o1.1 o1.2 nI_0.symm (by rw [o2]; decide) (by rw [o2]; decide) ?_
  refine ww_goto (tgt := 21) dL_ofPart_10 (by decide) ?_
  refine ww_iconst (v := 0) dL_ofPart_21 (by decide) ?_
  exact ww_ireturn dL_ofPart_22 rfl (by first | rfl | exact ww_b_nar) ⟨rfl, M9, hr9, rfl⟩
set_option maxRecDepth 20000 in
theorem lw_ofPart_1 (h : ww_C g wy_X6_ofPart d' mc' ms' [.ref x, .int a1, .int a2] M ww_nr (ww_th "java/lang/IndexOutOfBoundsException" M)) (hx : ww_is M.1 x 7) (hd : d' ≤ 14) (hmc : mc' ≤ 10) (hms : ms' ≤ 1100) : ww_C g wy_L_ofPart 15 10 1100 [.ref x, .int a1, .int a2, .ref ol] M (ww_ret (some (.int 1)) M) ww_no := by
  refine ww_ent (by decide +kernel) (Nat.le_of_ble_eq_true rfl) ⟨rfl, rfl, rfl, rfl, trivial⟩ ?_
  refine ww_aload_n (i := 3) dL_ofPart_0 rfl rfl ?_
  refine ww_iconst (v := 0) dL_ofPart_1 (by decide) ?_
  refine ww_aload_n (i := 0) dL_ofPart_2 rfl rfl ?_
  refine ww_iload_n (i := 1) dL_ofPart_3 rfl rfl ?_
  refine ww_iload_n (i := 2) dL_ofPart_4 rfl rfl ?_
  -- at 5, locals [0, 1, 2, 3]
  refine ww_callVX (κ := 7) (r := (RX6, TX6, 4)) wk_L_83 dL_ofPart_5 h rfl rfl hx.1 hx.2 rfl rfl (by omega) hmc hms (by first | exact Nat.le_of_ble_eq_true rfl | (simp [ww_rf_cat, Value.category])) (fun E M9 h9 => ?_) (fun v9 M9 h9 => h9.elim)
  obtain ⟨rfl, rfl⟩ := h9
  refine ⟨13, ⟨[], (0, 10, 13, 25), [(0, 10, 17, 13)], "java/lang/IndexOutOfBoundsException", rfl, (fun z hz => by cases hz), ⟨by decide, by decide⟩, by decide, wm_509, by decide, rfl⟩, fun q => ?_⟩
  first | refine ww_astore (i := 4) (lv2 := [(0, _), (1, _), (2, _), (3, _), (4, _)]) dL_ofPart_13 (Nat.le_of_ble_eq_true rfl) rfl ?_ | refine ww_astoreQ (i := 4) (lv2 := [(0, _), (1, _), (2, _), (3, _), (4, _)]) dL_ofPart_13 (Nat.le_of_ble_eq_true rfl) rfl ?_
  refine ww_iconst (v := 1) dL_ofPart_15 (by decide) ?_
  exact ww_ireturn dL_ofPart_16 rfl (by first | rfl | exact ww_b_nar) ⟨rfl, rfl⟩
set_option maxRecDepth 20000 in
theorem lw_ofPart_2 (h : ww_C g wy_X6_ofPart d' mc' ms' [.ref x, .int a1, .int a2] M ww_nr (ww_th "java/lang/IllegalArgumentException" M)) (hx : ww_is M.1 x 7) (hd : d' ≤ 14) (hmc : mc' ≤ 10) (hms : ms' ≤ 1100) : ww_C g wy_L_ofPart 15 10 1100 [.ref x, .int a1, .int a2, .ref ol] M (ww_ret (some (.int 2)) M) ww_no := by
  refine ww_ent (by decide +kernel) (Nat.le_of_ble_eq_true rfl) ⟨rfl, rfl, rfl, rfl, trivial⟩ ?_
  refine ww_aload_n (i := 3) dL_ofPart_0 rfl rfl ?_
  refine ww_iconst (v := 0) dL_ofPart_1 (by decide) ?_
  refine ww_aload_n (i := 0) dL_ofPart_2 rfl rfl ?_
  refine ww_iload_n (i := 1) dL_ofPart_3 rfl rfl ?_
  refine ww_iload_n (i := 2) dL_ofPart_4 rfl rfl ?_
  -- at 5, locals [0, 1, 2, 3]
  refine ww_callVX (κ := 7) (r := (RX6, TX6, 4)) wk_L_83 dL_ofPart_5 h rfl rfl hx.1 hx.2 rfl rfl (by omega) hmc hms (by first | exact Nat.le_of_ble_eq_true rfl | (simp [ww_rf_cat, Value.category])) (fun E M9 h9 => ?_) (fun v9 M9 h9 => h9.elim)
  obtain ⟨rfl, rfl⟩ := h9
  refine ⟨17, ⟨[(0, 10, 13, 25)], (0, 10, 17, 13), [], "java/lang/IllegalArgumentException", rfl, (List.forall_mem_cons.mpr ⟨⟨by decide, "java/lang/IndexOutOfBoundsException", wm_509, by decide⟩, fun _ h => absurd h List.not_mem_nil⟩), ⟨by decide, by decide⟩, by decide, wm_242, by decide, rfl⟩, fun q => ?_⟩
  first | refine ww_astore (i := 4) (lv2 := [(0, _), (1, _), (2, _), (3, _), (4, _)]) dL_ofPart_17 (Nat.le_of_ble_eq_true rfl) rfl ?_ | refine ww_astoreQ (i := 4) (lv2 := [(0, _), (1, _), (2, _), (3, _), (4, _)]) dL_ofPart_17 (Nat.le_of_ble_eq_true rfl) rfl ?_
  refine ww_iconst (v := 2) dL_ofPart_19 (by decide) ?_
  exact ww_ireturn dL_ofPart_20 rfl (by first | rfl | exact ww_b_nar) ⟨rfl, rfl⟩
set_option maxRecDepth 20000 in
theorem lw_trace_0 (h : ww_C g wy_X6_trace d' mc' ms' [.ref x, .int a1, .int a2] M (ww_rR (some (.int r)) R) ww_no) (hx : ww_is M.1 x 7) (hR : ∀ M1, R M1 → ww_is M1.1 ol 13 ∧ ww_N M1 ol = 1) (hd : d' ≤ 14) (hmc : mc' ≤ 10) (hms : ms' ≤ 1100) : ww_C g wy_L_trace 15 10 1100 [.ref x, .int a1, .int a2, .ref ol] M (ww_lo0 ol r R) ww_no := by
  refine ww_ent (by decide +kernel) (Nat.le_of_ble_eq_true rfl) ⟨rfl, rfl, rfl, rfl, trivial⟩ ?_
  refine ww_aload_n (i := 3) dL_trace_0 rfl rfl ?_
  refine ww_iconst (v := 0) dL_trace_1 (by decide) ?_
  refine ww_aload_n (i := 0) dL_trace_2 rfl rfl ?_
  refine ww_iload_n (i := 1) dL_trace_3 rfl rfl ?_
  refine ww_iload_n (i := 2) dL_trace_4 rfl rfl ?_
  -- at 5, locals [0, 1, 2, 3]
  refine ww_callVX (κ := 7) (r := (RX6, TX6, 4)) wk_L_86 dL_trace_5 h rfl rfl hx.1 hx.2 rfl rfl (by omega) hmc hms (by first | exact Nat.le_of_ble_eq_true rfl | (simp [ww_rf_cat, Value.category])) (fun E M9 h9 => h9.elim) (fun v9 M9 h9 => ?_)
  obtain ⟨rfl, hr9⟩ := h9
  obtain ⟨o1, o2⟩ := hR M9 hr9
  refine ww_i2l dL_trace_8 ?_
  -- at 9, locals [0, 1, 2, 3]
  refine ww_last (j := 0) dL_trace_9 o1.1 o1.2 nI_0.symm (by rw [o2]; decide) (by rw [o2]; decide) ?_
  refine ww_goto (tgt := 17) dL_trace_10 (by decide) ?_
  refine ww_iconst (v := 0) dL_trace_17 (by decide) ?_
  exact ww_ireturn dL_trace_18 rfl (by first | rfl | exact ww_b_nar) ⟨rfl, M9, hr9, rfl⟩
set_option maxRecDepth 20000 in
theorem lw_trace_1 (h : ww_C g wy_X6_trace d' mc' ms' [.ref x, .int a1, .int a2] M ww_nr (ww_th "java/lang/IndexOutOfBoundsException" M)) (hx : ww_is M.1 x 7) (hd : d' ≤ 14) (hmc : mc' ≤ 10) (hms : ms' ≤ 1100) : ww_C g wy_L_trace 15 10 1100 [.ref x, .int a1, .int a2, .ref ol] M (ww_ret (some (.int 1)) M) ww_no := by
  refine ww_ent (by decide +kernel) (Nat.le_of_ble_eq_true rfl) ⟨rfl, rfl, rfl, rfl, trivial⟩ ?_
  refine ww_aload_n (i := 3) dL_trace_0 rfl rfl ?_
  refine ww_iconst (v := 0) dL_trace_1 (by decide) ?_
  refine ww_aload_n (i := 0) dL_trace_2 rfl rfl ?_
  refine ww_iload_n (i := 1) dL_trace_3 rfl rfl ?_
  refine ww_iload_n (i := 2) dL_trace_4 rfl rfl ?_
  -- at 5, locals [0, 1, 2, 3]
  refine ww_callVX (κ := 7) (r := (RX6, TX6, 4)) wk_L_86 dL_trace_5 h rfl rfl hx.1 hx.2 rfl rfl (by omega) hmc hms (by first | exact Nat.le_of_ble_eq_true rfl | (simp [ww_rf_cat, Value.category])) (fun E M9 h9 => ?_) (fun v9 M9 h9 => h9.elim)
  obtain ⟨rfl, rfl⟩ := h9
  refine ⟨13, ⟨[], (0, 10, 13, 25), [], "java/lang/IndexOutOfBoundsException", rfl, (fun z hz => by cases hz), ⟨by decide, by decide⟩, by decide, wm_509, by decide, rfl⟩, fun q => ?_⟩
  first | refine ww_astore (i := 4) (lv2 := [(0, _), (1, _), (2, _), (3, _), (4, _)]) dL_trace_13 (Nat.le_of_ble_eq_true rfl) rfl ?_ | refine ww_astoreQ (i := 4) (lv2 := [(0, _), (1, _), (2, _), (3, _), (4, _)]) dL_trace_13 (Nat.le_of_ble_eq_true rfl) rfl ?_
  refine ww_iconst (v := 1) dL_trace_15 (by decide) ?_
  exact ww_ireturn dL_trace_16 rfl (by first | rfl | exact ww_b_nar) ⟨rfl, rfl⟩
set_option maxRecDepth 20000 in
theorem lw_lifeAnew_0 (h : ww_C g wy_X6_lifeAnew d' mc' ms' [.ref x, .int a1] M (ww_rR (some (.int r)) R) ww_no) (hx : ww_is M.1 x 7) (hR : ∀ M1, R M1 → ww_is M1.1 ol 13 ∧ ww_N M1 ol = 1) (hd : d' ≤ 14) (hmc : mc' ≤ 10) (hms : ms' ≤ 1100) : ww_C g wy_L_lifeAnew 15 10 1100 [.ref x, .int a1, .ref ol] M (ww_lo0 ol r R) ww_no := by
  refine ww_ent (by decide +kernel) (Nat.le_of_ble_eq_true rfl) ⟨rfl, rfl, rfl, trivial⟩ ?_
  refine ww_aload_n (i := 2) dL_lifeAnew_0 rfl rfl ?_
  refine ww_iconst (v := 0) dL_lifeAnew_1 (by decide) ?_
  refine ww_aload_n (i := 0) dL_lifeAnew_2 rfl rfl ?_
  refine ww_iload_n (i := 1) dL_lifeAnew_3 rfl rfl ?_
  -- at 4, locals [0, 1, 2]
  refine ww_callVX (κ := 7) (r := (RX6, TX6, 4)) wk_L_89 dL_lifeAnew_4 h rfl rfl hx.1 hx.2 rfl rfl (by omega) hmc hms (by first | exact Nat.le_of_ble_eq_true rfl | (simp [ww_rf_cat, Value.category])) (fun E M9 h9 => h9.elim) (fun v9 M9 h9 => ?_)
  obtain ⟨rfl, hr9⟩ := h9
  obtain ⟨o1, o2⟩ := hR M9 hr9
  refine ww_i2l dL_lifeAnew_7 ?_
  -- at 8, locals [0, 1, 2]
  refine ww_last (j := 0) dL_lifeAnew_8 o1.1 o1.2 nI_0.symm (by rw [o2]; decide) (by rw [o2]; decide) ?_
  refine ww_goto (tgt := 15) dL_lifeAnew_9 (by decide) ?_
  refine ww_iconst (v := 0) dL_lifeAnew_15 (by decide) ?_
  exact ww_ireturn dL_lifeAnew_16 rfl (by first | rfl | exact ww_b_nar) ⟨rfl, M9, hr9, rfl⟩
set_option maxRecDepth 20000 in
theorem lw_lifeAnew_1 (h : ww_C g wy_X6_lifeAnew d' mc' ms' [.ref x, .int a1] M ww_nr (ww_th "java/lang/IndexOutOfBoundsException" M)) (hx : ww_is M.1 x 7) (hd : d' ≤ 14) (hmc : mc' ≤ 10) (hms : ms' ≤ 1100) : ww_C g wy_L_lifeAnew 15 10 1100 [.ref x, .int a1, .ref ol] M (ww_ret (some (.int 1)) M) ww_no := by
  refine ww_ent (by decide +kernel) (Nat.le_of_ble_eq_true rfl) ⟨rfl, rfl, rfl, trivial⟩ ?_
  refine ww_aload_n (i := 2) dL_lifeAnew_0 rfl rfl ?_
  refine ww_iconst (v := 0) dL_lifeAnew_1 (by decide) ?_
  refine ww_aload_n (i := 0) dL_lifeAnew_2 rfl rfl ?_
  refine ww_iload_n (i := 1) dL_lifeAnew_3 rfl rfl ?_
  -- at 4, locals [0, 1, 2]
  refine ww_callVX (κ := 7) (r := (RX6, TX6, 4)) wk_L_89 dL_lifeAnew_4 h rfl rfl hx.1 hx.2 rfl rfl (by omega) hmc hms (by first | exact Nat.le_of_ble_eq_true rfl | (simp [ww_rf_cat, Value.category])) (fun E M9 h9 => ?_) (fun v9 M9 h9 => h9.elim)
  obtain ⟨rfl, rfl⟩ := h9
  refine ⟨12, ⟨[], (0, 9, 12, 25), [], "java/lang/IndexOutOfBoundsException", rfl, (fun z hz => by cases hz), ⟨by decide, by decide⟩, by decide, wm_509, by decide, rfl⟩, fun q => ?_⟩
  first | refine ww_astore_n (i := 3) (lv2 := [(0, _), (1, _), (2, _), (3, _)]) dL_lifeAnew_12 rfl (Nat.le_of_ble_eq_true rfl) rfl ?_ | refine ww_astore_nQ (i := 3) (lv2 := [(0, _), (1, _), (2, _), (3, _)]) dL_lifeAnew_12 rfl (Nat.le_of_ble_eq_true rfl) rfl ?_
  refine ww_iconst (v := 1) dL_lifeAnew_13 (by decide) ?_
  exact ww_ireturn dL_lifeAnew_14 rfl (by first | rfl | exact ww_b_nar) ⟨rfl, rfl⟩
set_option maxRecDepth 20000 in
theorem lw_wheel_0 (h : ww_C g wy_X6_wheel d' mc' ms' [.ref x, .int a1, .int a2] M (ww_rR (some (.int r)) R) ww_no) (hx : ww_is M.1 x 7) (hR : ∀ M1, R M1 → ww_is M1.1 ol 13 ∧ ww_N M1 ol = 1) (hd : d' ≤ 14) (hmc : mc' ≤ 10) (hms : ms' ≤ 1100) : ww_C g wy_L_wheel 15 10 1100 [.ref x, .int a1, .int a2, .ref ol] M (ww_lo0 ol r R) ww_no := by
  refine ww_ent (by decide +kernel) (Nat.le_of_ble_eq_true rfl) ⟨rfl, rfl, rfl, rfl, trivial⟩ ?_
  refine ww_aload_n (i := 3) dL_wheel_0 rfl rfl ?_
  refine ww_iconst (v := 0) dL_wheel_1 (by decide) ?_
  refine ww_aload_n (i := 0) dL_wheel_2 rfl rfl ?_
  refine ww_iload_n (i := 1) dL_wheel_3 rfl rfl ?_
  refine ww_iload_n (i := 2) dL_wheel_4 rfl rfl ?_
  -- at 5, locals [0, 1, 2, 3]
  refine ww_callVX (κ := 7) (r := (RX6, TX6, 4)) wk_L_92 dL_wheel_5 h rfl rfl hx.1 hx.2 rfl rfl (by omega) hmc hms (by first | exact Nat.le_of_ble_eq_true rfl | (simp [ww_rf_cat, Value.category])) (fun E M9 h9 => h9.elim) (fun v9 M9 h9 => ?_)
  obtain ⟨rfl, hr9⟩ := h9
  obtain ⟨o1, o2⟩ := hR M9 hr9
  refine ww_i2l dL_wheel_8 ?_
  -- at 9, locals [0, 1, 2, 3]
  refine ww_last (j := 0) dL_wheel_9 o1.1 o1.2 nI_0.symm (by rw [o2]; decide) (by rw [o2]; decide) ?_
  refine ww_goto (tgt := 21) dL_wheel_10 (by decide) ?_
  refine ww_iconst (v := 0) dL_wheel_21 (by decide) ?_
  exact ww_ireturn dL_wheel_22 rfl (by first | rfl | exact ww_b_nar) ⟨rfl, M9, hr9, rfl⟩
set_option maxRecDepth 20000 in
theorem lw_wheel_1 (h : ww_C g wy_X6_wheel d' mc' ms' [.ref x, .int a1, .int a2] M ww_nr (ww_th "java/lang/IndexOutOfBoundsException" M)) (hx : ww_is M.1 x 7) (hd : d' ≤ 14) (hmc : mc' ≤ 10) (hms : ms' ≤ 1100) : ww_C g wy_L_wheel 15 10 1100 [.ref x, .int a1, .int a2, .ref ol] M (ww_ret (some (.int 1)) M) ww_no := by
  refine ww_ent (by decide +kernel) (Nat.le_of_ble_eq_true rfl) ⟨rfl, rfl, rfl, rfl, trivial⟩ ?_
  refine ww_aload_n (i := 3) dL_wheel_0 rfl rfl ?_
  refine ww_iconst (v := 0) dL_wheel_1 (by decide) ?_
  refine ww_aload_n (i := 0) dL_wheel_2 rfl rfl ?_
  refine ww_iload_n (i := 1) dL_wheel_3 rfl rfl ?_
  refine ww_iload_n (i := 2) dL_wheel_4 rfl rfl ?_
  -- at 5, locals [0, 1, 2, 3]
  refine ww_callVX (κ := 7) (r := (RX6, TX6, 4)) wk_L_92 dL_wheel_5 h rfl rfl hx.1 hx.2 rfl rfl (by omega) hmc hms (by first | exact Nat.le_of_ble_eq_true rfl | (simp [ww_rf_cat, Value.category])) (fun E M9 h9 => ?_) (fun v9 M9 h9 => h9.elim)
  obtain ⟨rfl, rfl⟩ := h9
  refine ⟨13, ⟨[], (0, 10, 13, 25), [(0, 10, 17, 13)], "java/lang/IndexOutOfBoundsException", rfl, (fun z hz => by cases hz), ⟨by decide, by decide⟩, by decide, wm_509, by decide, rfl⟩, fun q => ?_⟩
  first | refine ww_astore (i := 4) (lv2 := [(0, _), (1, _), (2, _), (3, _), (4, _)]) dL_wheel_13 (Nat.le_of_ble_eq_true rfl) rfl ?_ | refine ww_astoreQ (i := 4) (lv2 := [(0, _), (1, _), (2, _), (3, _), (4, _)]) dL_wheel_13 (Nat.le_of_ble_eq_true rfl) rfl ?_
  refine ww_iconst (v := 1) dL_wheel_15 (by decide) ?_
  exact ww_ireturn dL_wheel_16 rfl (by first | rfl | exact ww_b_nar) ⟨rfl, rfl⟩
set_option maxRecDepth 20000 in
theorem lw_wheel_2 (h : ww_C g wy_X6_wheel d' mc' ms' [.ref x, .int a1, .int a2] M ww_nr (ww_th "java/lang/IllegalArgumentException" M)) (hx : ww_is M.1 x 7) (hd : d' ≤ 14) (hmc : mc' ≤ 10) (hms : ms' ≤ 1100) : ww_C g wy_L_wheel 15 10 1100 [.ref x, .int a1, .int a2, .ref ol] M (ww_ret (some (.int 2)) M) ww_no := by
  refine ww_ent (by decide +kernel) (Nat.le_of_ble_eq_true rfl) ⟨rfl, rfl, rfl, rfl, trivial⟩ ?_
  refine ww_aload_n (i := 3) dL_wheel_0 rfl rfl ?_
  refine ww_iconst (v := 0) dL_wheel_1 (by decide) ?_
  refine ww_aload_n (i := 0) dL_wheel_2 rfl rfl ?_
  refine ww_iload_n (i := 1) dL_wheel_3 rfl rfl ?_
  refine ww_iload_n (i := 2) dL_wheel_4 rfl rfl ?_
  -- at 5, locals [0, 1, 2, 3]
  refine ww_callVX (κ := 7) (r := (RX6, TX6, 4)) wk_L_92 dL_wheel_5 h rfl rfl hx.1 hx.2 rfl rfl (by omega) hmc hms (by first | exact Nat.le_of_ble_eq_true rfl | (simp [ww_rf_cat, Value.category])) (fun E M9 h9 => ?_) (fun v9 M9 h9 => h9.elim)
  obtain ⟨rfl, rfl⟩ := h9
  refine ⟨17, ⟨[(0, 10, 13, 25)], (0, 10, 17, 13), [], "java/lang/IllegalArgumentException", rfl, (List.forall_mem_cons.mpr ⟨⟨by decide, "java/lang/IndexOutOfBoundsException", wm_509, by decide⟩, fun _ h => absurd h List.not_mem_nil⟩), ⟨by decide, by decide⟩, by decide, wm_242, by decide, rfl⟩, fun q => ?_⟩
  first | refine ww_astore (i := 4) (lv2 := [(0, _), (1, _), (2, _), (3, _), (4, _)]) dL_wheel_17 (Nat.le_of_ble_eq_true rfl) rfl ?_ | refine ww_astoreQ (i := 4) (lv2 := [(0, _), (1, _), (2, _), (3, _), (4, _)]) dL_wheel_17 (Nat.le_of_ble_eq_true rfl) rfl ?_
  refine ww_iconst (v := 2) dL_wheel_19 (by decide) ?_
  exact ww_ireturn dL_wheel_20 rfl (by first | rfl | exact ww_b_nar) ⟨rfl, rfl⟩
set_option maxRecDepth 20000 in
theorem lw_foretell_0 (h : ww_C g wy_X6_foretell d' mc' ms' [.ref x, .int a1, .int a2, .int a3] M (ww_rR (some (.int r)) R) ww_no) (hx : ww_is M.1 x 7) (hR : ∀ M1, R M1 → ww_is M1.1 ol 13 ∧ ww_N M1 ol = 1) (hd : d' ≤ 14) (hmc : mc' ≤ 10) (hms : ms' ≤ 1100) : ww_C g wy_L_foretell 15 10 1100 [.ref x, .int a1, .int a2, .int a3, .ref ol] M (ww_lo0 ol r R) ww_no := by
  refine ww_ent (by decide +kernel) (Nat.le_of_ble_eq_true rfl) ⟨rfl, rfl, rfl, rfl, rfl, trivial⟩ ?_
  refine ww_aload (i := 4) dL_foretell_0 rfl ?_
  refine ww_iconst (v := 0) dL_foretell_2 (by decide) ?_
  refine ww_aload_n (i := 0) dL_foretell_3 rfl rfl ?_
  refine ww_iload_n (i := 1) dL_foretell_4 rfl rfl ?_
  refine ww_iload_n (i := 2) dL_foretell_5 rfl rfl ?_
  refine ww_iload_n (i := 3) dL_foretell_6 rfl rfl ?_
  -- at 7, locals [0, 1, 2, 3, 4]
  refine ww_callVX (κ := 7) (r := (RX6, TX6, 4)) wk_L_95 dL_foretell_7 h rfl rfl hx.1 hx.2 rfl rfl (by omega) hmc hms (by first | exact Nat.le_of_ble_eq_true rfl | (simp [ww_rf_cat, Value.category])) (fun E M9 h9 => h9.elim) (fun v9 M9 h9 => ?_)
  obtain ⟨rfl, hr9⟩ := h9
  obtain ⟨o1, o2⟩ := hR M9 hr9
  refine ww_i2l dL_foretell_10 ?_
  -- at 11, locals [0, 1, 2, 3, 4]
  refine ww_last (j := 0) dL_foretell_11 o1.1 o1.2 nI_0.symm (by rw [o2]; decide) (by rw [o2]; decide) ?_
  refine ww_goto (tgt := 23) dL_foretell_12 (by decide) ?_
  refine ww_iconst (v := 0) dL_foretell_23 (by decide) ?_
  exact ww_ireturn dL_foretell_24 rfl (by first | rfl | exact ww_b_nar) ⟨rfl, M9, hr9, rfl⟩
set_option maxRecDepth 20000 in
theorem lw_foretell_1 (h : ww_C g wy_X6_foretell d' mc' ms' [.ref x, .int a1, .int a2, .int a3] M ww_nr (ww_th "java/lang/IndexOutOfBoundsException" M)) (hx : ww_is M.1 x 7) (hd : d' ≤ 14) (hmc : mc' ≤ 10) (hms : ms' ≤ 1100) : ww_C g wy_L_foretell 15 10 1100 [.ref x, .int a1, .int a2, .int a3, .ref ol] M (ww_ret (some (.int 1)) M) ww_no := by
  refine ww_ent (by decide +kernel) (Nat.le_of_ble_eq_true rfl) ⟨rfl, rfl, rfl, rfl, rfl, trivial⟩ ?_
  refine ww_aload (i := 4) dL_foretell_0 rfl ?_
  refine ww_iconst (v := 0) dL_foretell_2 (by decide) ?_
  refine ww_aload_n (i := 0) dL_foretell_3 rfl rfl ?_
  refine ww_iload_n (i := 1) dL_foretell_4 rfl rfl ?_
  refine ww_iload_n (i := 2) dL_foretell_5 rfl rfl ?_
  refine ww_iload_n (i := 3) dL_foretell_6 rfl rfl ?_
  -- at 7, locals [0, 1, 2, 3, 4]
  refine ww_callVX (κ := 7) (r := (RX6, TX6, 4)) wk_L_95 dL_foretell_7 h rfl rfl hx.1 hx.2 rfl rfl (by omega) hmc hms (by first | exact Nat.le_of_ble_eq_true rfl | (simp [ww_rf_cat, Value.category])) (fun E M9 h9 => ?_) (fun v9 M9 h9 => h9.elim)
  obtain ⟨rfl, rfl⟩ := h9
  refine ⟨15, ⟨[], (0, 12, 15, 25), [(0, 12, 19, 13)], "java/lang/IndexOutOfBoundsException", rfl, (fun z hz => by cases hz), ⟨by decide, by decide⟩, by decide, wm_509, by decide, rfl⟩, fun q => ?_⟩
  first | refine ww_astore (i := 5) (lv2 := [(0, _), (1, _), (2, _), (3, _), (4, _), (5, _)]) dL_foretell_15 (Nat.le_of_ble_eq_true rfl) rfl ?_ | refine ww_astoreQ (i := 5) (lv2 := [(0, _), (1, _), (2, _), (3, _), (4, _), (5, _)]) dL_foretell_15 (Nat.le_of_ble_eq_true rfl) rfl ?_
  refine ww_iconst (v := 1) dL_foretell_17 (by decide) ?_
  exact ww_ireturn dL_foretell_18 rfl (by first | rfl | exact ww_b_nar) ⟨rfl, rfl⟩
set_option maxRecDepth 20000 in
theorem lw_foretell_2 (h : ww_C g wy_X6_foretell d' mc' ms' [.ref x, .int a1, .int a2, .int a3] M ww_nr (ww_th "java/lang/IllegalArgumentException" M)) (hx : ww_is M.1 x 7) (hd : d' ≤ 14) (hmc : mc' ≤ 10) (hms : ms' ≤ 1100) : ww_C g wy_L_foretell 15 10 1100 [.ref x, .int a1, .int a2, .int a3, .ref ol] M (ww_ret (some (.int 2)) M) ww_no := by
  refine ww_ent (by decide +kernel) (Nat.le_of_ble_eq_true rfl) ⟨rfl, rfl, rfl, rfl, rfl, trivial⟩ ?_
  refine ww_aload (i := 4) dL_foretell_0 rfl ?_
  refine ww_iconst (v := 0) dL_foretell_2 (by decide) ?_
  refine ww_aload_n (i := 0) dL_foretell_3 rfl rfl ?_
  refine ww_iload_n (i := 1) dL_foretell_4 rfl rfl ?_
  refine ww_iload_n (i := 2) dL_foretell_5 rfl rfl ?_
  refine ww_iload_n (i := 3) dL_foretell_6 rfl rfl ?_
  -- at 7, locals [0, 1, 2, 3, 4]
  refine ww_callVX (κ := 7) (r := (RX6, TX6, 4)) wk_L_95 dL_foretell_7 h rfl rfl hx.1 hx.2 rfl rfl (by omega) hmc hms (by first | exact Nat.le_of_ble_eq_true rfl | (simp [ww_rf_cat, Value.category])) (fun E M9 h9 => ?_) (fun v9 M9 h9 => h9.elim)
  obtain ⟨rfl, rfl⟩ := h9
  refine ⟨19, ⟨[(0, 12, 15, 25)], (0, 12, 19, 13), [], "java/lang/IllegalArgumentException", rfl, (List.forall_mem_cons.mpr ⟨⟨by decide, "java/lang/IndexOutOfBoundsException", wm_509, by decide⟩, fun _ h => absurd h List.not_mem_nil⟩), ⟨by decide, by decide⟩, by decide, wm_242, by decide, rfl⟩, fun q => ?_⟩
  first | refine ww_astore (i := 5) (lv2 := [(0, _), (1, _), (2, _), (3, _), (4, _), (5, _)]) dL_foretell_19 (Nat.le_of_ble_eq_true rfl) rfl ?_ | refine ww_astoreQ (i := 5) (lv2 := [(0, _), (1, _), (2, _), (3, _), (4, _), (5, _)]) dL_foretell_19 (Nat.le_of_ble_eq_true rfl) rfl ?_
  refine ww_iconst (v := 2) dL_foretell_21 (by decide) ?_
  exact ww_ireturn dL_foretell_22 rfl (by first | rfl | exact ww_b_nar) ⟨rfl, rfl⟩
set_option maxRecDepth 20000 in
theorem lw_bars_0 (h : ww_C g wy_X6_bars d' mc' ms' [.ref x, .int a1] M (ww_rR (some (.int r)) R) ww_no) (hx : ww_is M.1 x 7) (hR : ∀ M1, R M1 → ww_is M1.1 ol 13 ∧ ww_N M1 ol = 1) (hd : d' ≤ 14) (hmc : mc' ≤ 10) (hms : ms' ≤ 1100) : ww_C g wy_L_bars 15 10 1100 [.ref x, .int a1, .ref ol] M (ww_lo0 ol r R) ww_no := by
  refine ww_ent (by decide +kernel) (Nat.le_of_ble_eq_true rfl) ⟨rfl, rfl, rfl, trivial⟩ ?_
  refine ww_aload_n (i := 2) dL_bars_0 rfl rfl ?_
  refine ww_iconst (v := 0) dL_bars_1 (by decide) ?_
  refine ww_aload_n (i := 0) dL_bars_2 rfl rfl ?_
  refine ww_iload_n (i := 1) dL_bars_3 rfl rfl ?_
  -- at 4, locals [0, 1, 2]
  refine ww_callVX (κ := 7) (r := (RX6, TX6, 4)) wk_L_98 dL_bars_4 h rfl rfl hx.1 hx.2 rfl rfl (by omega) hmc hms (by first | exact Nat.le_of_ble_eq_true rfl | (simp [ww_rf_cat, Value.category])) (fun E M9 h9 => h9.elim) (fun v9 M9 h9 => ?_)
  obtain ⟨rfl, hr9⟩ := h9
  obtain ⟨o1, o2⟩ := hR M9 hr9
  refine ww_i2l dL_bars_7 ?_
  -- at 8, locals [0, 1, 2]
  refine ww_last (j := 0) dL_bars_8 o1.1 o1.2 nI_0.symm (by rw [o2]; decide) (by rw [o2]; decide) ?_
  refine ww_goto (tgt := 18) dL_bars_9 (by decide) ?_
  refine ww_iconst (v := 0) dL_bars_18 (by decide) ?_
  exact ww_ireturn dL_bars_19 rfl (by first | rfl | exact ww_b_nar) ⟨rfl, M9, hr9, rfl⟩
set_option maxRecDepth 20000 in
theorem lw_bars_1 (h : ww_C g wy_X6_bars d' mc' ms' [.ref x, .int a1] M ww_nr (ww_th "java/lang/IndexOutOfBoundsException" M)) (hx : ww_is M.1 x 7) (hd : d' ≤ 14) (hmc : mc' ≤ 10) (hms : ms' ≤ 1100) : ww_C g wy_L_bars 15 10 1100 [.ref x, .int a1, .ref ol] M (ww_ret (some (.int 1)) M) ww_no := by
  refine ww_ent (by decide +kernel) (Nat.le_of_ble_eq_true rfl) ⟨rfl, rfl, rfl, trivial⟩ ?_
  refine ww_aload_n (i := 2) dL_bars_0 rfl rfl ?_
  refine ww_iconst (v := 0) dL_bars_1 (by decide) ?_
  refine ww_aload_n (i := 0) dL_bars_2 rfl rfl ?_
  refine ww_iload_n (i := 1) dL_bars_3 rfl rfl ?_
  -- at 4, locals [0, 1, 2]
  refine ww_callVX (κ := 7) (r := (RX6, TX6, 4)) wk_L_98 dL_bars_4 h rfl rfl hx.1 hx.2 rfl rfl (by omega) hmc hms (by first | exact Nat.le_of_ble_eq_true rfl | (simp [ww_rf_cat, Value.category])) (fun E M9 h9 => ?_) (fun v9 M9 h9 => h9.elim)
  obtain ⟨rfl, rfl⟩ := h9
  refine ⟨12, ⟨[], (0, 9, 12, 25), [(0, 9, 15, 13)], "java/lang/IndexOutOfBoundsException", rfl, (fun z hz => by cases hz), ⟨by decide, by decide⟩, by decide, wm_509, by decide, rfl⟩, fun q => ?_⟩
  first | refine ww_astore_n (i := 3) (lv2 := [(0, _), (1, _), (2, _), (3, _)]) dL_bars_12 rfl (Nat.le_of_ble_eq_true rfl) rfl ?_ | refine ww_astore_nQ (i := 3) (lv2 := [(0, _), (1, _), (2, _), (3, _)]) dL_bars_12 rfl (Nat.le_of_ble_eq_true rfl) rfl ?_
  refine ww_iconst (v := 1) dL_bars_13 (by decide) ?_
  exact ww_ireturn dL_bars_14 rfl (by first | rfl | exact ww_b_nar) ⟨rfl, rfl⟩
set_option maxRecDepth 20000 in
theorem lw_bars_2 (h : ww_C g wy_X6_bars d' mc' ms' [.ref x, .int a1] M ww_nr (ww_th "java/lang/IllegalArgumentException" M)) (hx : ww_is M.1 x 7) (hd : d' ≤ 14) (hmc : mc' ≤ 10) (hms : ms' ≤ 1100) : ww_C g wy_L_bars 15 10 1100 [.ref x, .int a1, .ref ol] M (ww_ret (some (.int 2)) M) ww_no := by
  refine ww_ent (by decide +kernel) (Nat.le_of_ble_eq_true rfl) ⟨rfl, rfl, rfl, trivial⟩ ?_
  refine ww_aload_n (i := 2) dL_bars_0 rfl rfl ?_
  refine ww_iconst (v := 0) dL_bars_1 (by decide) ?_
  refine ww_aload_n (i := 0) dL_bars_2 rfl rfl ?_
  refine ww_iload_n (i := 1) dL_bars_3 rfl rfl ?_
  -- at 4, locals [0, 1, 2]
  refine ww_callVX (κ := 7) (r := (RX6, TX6, 4)) wk_L_98 dL_bars_4 h rfl rfl hx.1 hx.2 rfl rfl (by omega) hmc hms (by first | exact Nat.le_of_ble_eq_true rfl | (simp [ww_rf_cat, Value.category])) (fun E M9 h9 => ?_) (fun v9 M9 h9 => h9.elim)
  obtain ⟨rfl, rfl⟩ := h9
  refine ⟨15, ⟨[(0, 9, 12, 25)], (0, 9, 15, 13), [], "java/lang/IllegalArgumentException", rfl, (List.forall_mem_cons.mpr ⟨⟨by decide, "java/lang/IndexOutOfBoundsException", wm_509, by decide⟩, fun _ h => absurd h List.not_mem_nil⟩), ⟨by decide, by decide⟩, by decide, wm_242, by decide, rfl⟩, fun q => ?_⟩
  first | refine ww_astore_n (i := 3) (lv2 := [(0, _), (1, _), (2, _), (3, _)]) dL_bars_15 rfl (Nat.le_of_ble_eq_true rfl) rfl ?_ | refine ww_astore_nQ (i := 3) (lv2 := [(0, _), (1, _), (2, _), (3, _)]) dL_bars_15 rfl (Nat.le_of_ble_eq_true rfl) rfl ?_
  refine ww_iconst (v := 2) dL_bars_16 (by decide) ?_
  exact ww_ireturn dL_bars_17 rfl (by first | rfl | exact ww_b_nar) ⟨rfl, rfl⟩
set_option maxRecDepth 20000 in
theorem lw_barredBy_0 (h : ww_C g wy_X6_barredBy d' mc' ms' [.ref x, .int a1] M (ww_rR (some (.int r)) R) ww_no) (hx : ww_is M.1 x 7) (hR : ∀ M1, R M1 → ww_is M1.1 ol 13 ∧ ww_N M1 ol = 1) (hd : d' ≤ 14) (hmc : mc' ≤ 10) (hms : ms' ≤ 1100) : ww_C g wy_L_barredBy 15 10 1100 [.ref x, .int a1, .ref ol] M (ww_lo0 ol r R) ww_no := by
  refine ww_ent (by decide +kernel) (Nat.le_of_ble_eq_true rfl) ⟨rfl, rfl, rfl, trivial⟩ ?_
  refine ww_aload_n (i := 2) dL_barredBy_0 rfl rfl ?_
  refine ww_iconst (v := 0) dL_barredBy_1 (by decide) ?_
  refine ww_aload_n (i := 0) dL_barredBy_2 rfl rfl ?_
  refine ww_iload_n (i := 1) dL_barredBy_3 rfl rfl ?_
  -- at 4, locals [0, 1, 2]
  refine ww_callVX (κ := 7) (r := (RX6, TX6, 4)) wk_L_101 dL_barredBy_4 h rfl rfl hx.1 hx.2 rfl rfl (by omega) hmc hms (by first | exact Nat.le_of_ble_eq_true rfl | (simp [ww_rf_cat, Value.category])) (fun E M9 h9 => h9.elim) (fun v9 M9 h9 => ?_)
  obtain ⟨rfl, hr9⟩ := h9
  obtain ⟨o1, o2⟩ := hR M9 hr9
  refine ww_i2l dL_barredBy_7 ?_
  -- at 8, locals [0, 1, 2]
  refine ww_last (j := 0) dL_barredBy_8 o1.1 o1.2 nI_0.symm (by rw [o2]; decide) (by rw [o2]; decide) ?_
  refine ww_goto (tgt := 18) dL_barredBy_9 (by decide) ?_
  refine ww_iconst (v := 0) dL_barredBy_18 (by decide) ?_
  exact ww_ireturn dL_barredBy_19 rfl (by first | rfl | exact ww_b_nar) ⟨rfl, M9, hr9, rfl⟩
set_option maxRecDepth 20000 in
theorem lw_barredBy_1 (h : ww_C g wy_X6_barredBy d' mc' ms' [.ref x, .int a1] M ww_nr (ww_th "java/lang/IndexOutOfBoundsException" M)) (hx : ww_is M.1 x 7) (hd : d' ≤ 14) (hmc : mc' ≤ 10) (hms : ms' ≤ 1100) : ww_C g wy_L_barredBy 15 10 1100 [.ref x, .int a1, .ref ol] M (ww_ret (some (.int 1)) M) ww_no := by
  refine ww_ent (by decide +kernel) (Nat.le_of_ble_eq_true rfl) ⟨rfl, rfl, rfl, trivial⟩ ?_
  refine ww_aload_n (i := 2) dL_barredBy_0 rfl rfl ?_
  refine ww_iconst (v := 0) dL_barredBy_1 (by decide) ?_
  refine ww_aload_n (i := 0) dL_barredBy_2 rfl rfl ?_
  refine ww_iload_n (i := 1) dL_barredBy_3 rfl rfl ?_
  -- at 4, locals [0, 1, 2]
  refine ww_callVX (κ := 7) (r := (RX6, TX6, 4)) wk_L_101 dL_barredBy_4 h rfl rfl hx.1 hx.2 rfl rfl (by omega) hmc hms (by first | exact Nat.le_of_ble_eq_true rfl | (simp [ww_rf_cat, Value.category])) (fun E M9 h9 => ?_) (fun v9 M9 h9 => h9.elim)
  obtain ⟨rfl, rfl⟩ := h9
  refine ⟨12, ⟨[], (0, 9, 12, 25), [(0, 9, 15, 13)], "java/lang/IndexOutOfBoundsException", rfl, (fun z hz => by cases hz), ⟨by decide, by decide⟩, by decide, wm_509, by decide, rfl⟩, fun q => ?_⟩
  first | refine ww_astore_n (i := 3) (lv2 := [(0, _), (1, _), (2, _), (3, _)]) dL_barredBy_12 rfl (Nat.le_of_ble_eq_true rfl) rfl ?_ | refine ww_astore_nQ (i := 3) (lv2 := [(0, _), (1, _), (2, _), (3, _)]) dL_barredBy_12 rfl (Nat.le_of_ble_eq_true rfl) rfl ?_
  refine ww_iconst (v := 1) dL_barredBy_13 (by decide) ?_
  exact ww_ireturn dL_barredBy_14 rfl (by first | rfl | exact ww_b_nar) ⟨rfl, rfl⟩
set_option maxRecDepth 20000 in
theorem lw_barredBy_2 (h : ww_C g wy_X6_barredBy d' mc' ms' [.ref x, .int a1] M ww_nr (ww_th "java/lang/IllegalArgumentException" M)) (hx : ww_is M.1 x 7) (hd : d' ≤ 14) (hmc : mc' ≤ 10) (hms : ms' ≤ 1100) : ww_C g wy_L_barredBy 15 10 1100 [.ref x, .int a1, .ref ol] M (ww_ret (some (.int 2)) M) ww_no := by
  refine ww_ent (by decide +kernel) (Nat.le_of_ble_eq_true rfl) ⟨rfl, rfl, rfl, trivial⟩ ?_
  refine ww_aload_n (i := 2) dL_barredBy_0 rfl rfl ?_
  refine ww_iconst (v := 0) dL_barredBy_1 (by decide) ?_
  refine ww_aload_n (i := 0) dL_barredBy_2 rfl rfl ?_
  refine ww_iload_n (i := 1) dL_barredBy_3 rfl rfl ?_
  -- at 4, locals [0, 1, 2]
  refine ww_callVX (κ := 7) (r := (RX6, TX6, 4)) wk_L_101 dL_barredBy_4 h rfl rfl hx.1 hx.2 rfl rfl (by omega) hmc hms (by first | exact Nat.le_of_ble_eq_true rfl | (simp [ww_rf_cat, Value.category])) (fun E M9 h9 => ?_) (fun v9 M9 h9 => h9.elim)
  obtain ⟨rfl, rfl⟩ := h9
  refine ⟨15, ⟨[(0, 9, 12, 25)], (0, 9, 15, 13), [], "java/lang/IllegalArgumentException", rfl, (List.forall_mem_cons.mpr ⟨⟨by decide, "java/lang/IndexOutOfBoundsException", wm_509, by decide⟩, fun _ h => absurd h List.not_mem_nil⟩), ⟨by decide, by decide⟩, by decide, wm_242, by decide, rfl⟩, fun q => ?_⟩
  first | refine ww_astore_n (i := 3) (lv2 := [(0, _), (1, _), (2, _), (3, _)]) dL_barredBy_15 rfl (Nat.le_of_ble_eq_true rfl) rfl ?_ | refine ww_astore_nQ (i := 3) (lv2 := [(0, _), (1, _), (2, _), (3, _)]) dL_barredBy_15 rfl (Nat.le_of_ble_eq_true rfl) rfl ?_
  refine ww_iconst (v := 2) dL_barredBy_16 (by decide) ?_
  exact ww_ireturn dL_barredBy_17 rfl (by first | rfl | exact ww_b_nar) ⟨rfl, rfl⟩
set_option maxRecDepth 20000 in
theorem lw_isReleased_0 (h : ww_C g wy_X6_isReleased d' mc' ms' [.ref x, .int a1] M (ww_rR (some (.int r)) R) ww_no) (hx : ww_is M.1 x 7) (hR : ∀ M1, R M1 → ww_is M1.1 ol 13 ∧ ww_N M1 ol = 1) (hr : r = 0 ∨ r = 1) (hd : d' ≤ 14) (hmc : mc' ≤ 10) (hms : ms' ≤ 1100) : ww_C g wy_L_isReleased 15 10 1100 [.ref x, .int a1, .ref ol] M (ww_lo0 ol r R) ww_no := by
  refine ww_ent (by decide +kernel) (Nat.le_of_ble_eq_true rfl) ⟨rfl, rfl, rfl, trivial⟩ ?_
  refine ww_aload_n (i := 2) dL_isReleased_0 rfl rfl ?_
  refine ww_iconst (v := 0) dL_isReleased_1 (by decide) ?_
  refine ww_aload_n (i := 0) dL_isReleased_2 rfl rfl ?_
  refine ww_iload_n (i := 1) dL_isReleased_3 rfl rfl ?_
  -- at 4, locals [0, 1, 2]
  refine ww_callVX (κ := 7) (r := (RX6, TX6, 4)) wk_L_104 dL_isReleased_4 h rfl rfl hx.1 hx.2 rfl rfl (by omega) hmc hms (by first | exact Nat.le_of_ble_eq_true rfl | (simp [ww_rf_cat, Value.category])) (fun E M9 h9 => h9.elim) (fun v9 M9 h9 => ?_)
  obtain ⟨rfl, hr9⟩ := h9
  obtain ⟨o1, o2⟩ := hR M9 hr9
  rcases hr with rfl | rfl
  · refine ww_if_eq_t (tgt := 14) dL_isReleased_7 (by decide) rfl ?_
    refine ww_lconst (v := 0) dL_isReleased_14 (by decide) ?_
    -- at 15, locals [0, 1, 2]
    refine ww_last (j := 0) dL_isReleased_15 o1.1 o1.2 nI_0.symm (by rw [o2]; decide) (by rw [o2]; decide) ?_
    refine ww_goto (tgt := 25) dL_isReleased_16 (by decide) ?_
    refine ww_iconst (v := 0) dL_isReleased_25 (by decide) ?_
    exact ww_ireturn dL_isReleased_26 rfl (by first | rfl | exact ww_b_nar) ⟨rfl, M9, hr9, rfl⟩
  · refine ww_if_eq_f (tgt := 14) dL_isReleased_7 (by decide) (by decide) ?_
    refine ww_lconst (v := 1) dL_isReleased_10 (by decide) ?_
    refine ww_goto (tgt := 15) dL_isReleased_11 (by decide) ?_
    -- at 15, locals [0, 1, 2]
    refine ww_last (j := 0) dL_isReleased_15 o1.1 o1.2 nI_0.symm (by rw [o2]; decide) (by rw [o2]; decide) ?_
    refine ww_goto (tgt := 25) dL_isReleased_16 (by decide) ?_
    refine ww_iconst (v := 0) dL_isReleased_25 (by decide) ?_
    exact ww_ireturn dL_isReleased_26 rfl (by first | rfl | exact ww_b_nar) ⟨rfl, M9, hr9, rfl⟩
set_option maxRecDepth 20000 in
theorem lw_isReleased_1 (h : ww_C g wy_X6_isReleased d' mc' ms' [.ref x, .int a1] M ww_nr (ww_th "java/lang/IndexOutOfBoundsException" M)) (hx : ww_is M.1 x 7) (hd : d' ≤ 14) (hmc : mc' ≤ 10) (hms : ms' ≤ 1100) : ww_C g wy_L_isReleased 15 10 1100 [.ref x, .int a1, .ref ol] M (ww_ret (some (.int 1)) M) ww_no := by
  refine ww_ent (by decide +kernel) (Nat.le_of_ble_eq_true rfl) ⟨rfl, rfl, rfl, trivial⟩ ?_
  refine ww_aload_n (i := 2) dL_isReleased_0 rfl rfl ?_
  refine ww_iconst (v := 0) dL_isReleased_1 (by decide) ?_
  refine ww_aload_n (i := 0) dL_isReleased_2 rfl rfl ?_
  refine ww_iload_n (i := 1) dL_isReleased_3 rfl rfl ?_
  -- at 4, locals [0, 1, 2]
  refine ww_callVX (κ := 7) (r := (RX6, TX6, 4)) wk_L_104 dL_isReleased_4 h rfl rfl hx.1 hx.2 rfl rfl (by omega) hmc hms (by first | exact Nat.le_of_ble_eq_true rfl | (simp [ww_rf_cat, Value.category])) (fun E M9 h9 => ?_) (fun v9 M9 h9 => h9.elim)
  obtain ⟨rfl, rfl⟩ := h9
  refine ⟨19, ⟨[], (0, 16, 19, 25), [(0, 16, 22, 13)], "java/lang/IndexOutOfBoundsException", rfl, (fun z hz => by cases hz), ⟨by decide, by decide⟩, by decide, wm_509, by decide, rfl⟩, fun q => ?_⟩
  first | refine ww_astore_n (i := 3) (lv2 := [(0, _), (1, _), (2, _), (3, _)]) dL_isReleased_19 rfl (Nat.le_of_ble_eq_true rfl) rfl ?_ | refine ww_astore_nQ (i := 3) (lv2 := [(0, _), (1, _), (2, _), (3, _)]) dL_isReleased_19 rfl (Nat.le_of_ble_eq_true rfl) rfl ?_
  refine ww_iconst (v := 1) dL_isReleased_20 (by decide) ?_
  exact ww_ireturn dL_isReleased_21 rfl (by first | rfl | exact ww_b_nar) ⟨rfl, rfl⟩
set_option maxRecDepth 20000 in
theorem lw_isReleased_2 (h : ww_C g wy_X6_isReleased d' mc' ms' [.ref x, .int a1] M ww_nr (ww_th "java/lang/IllegalArgumentException" M)) (hx : ww_is M.1 x 7) (hd : d' ≤ 14) (hmc : mc' ≤ 10) (hms : ms' ≤ 1100) : ww_C g wy_L_isReleased 15 10 1100 [.ref x, .int a1, .ref ol] M (ww_ret (some (.int 2)) M) ww_no := by
  refine ww_ent (by decide +kernel) (Nat.le_of_ble_eq_true rfl) ⟨rfl, rfl, rfl, trivial⟩ ?_
  refine ww_aload_n (i := 2) dL_isReleased_0 rfl rfl ?_
  refine ww_iconst (v := 0) dL_isReleased_1 (by decide) ?_
  refine ww_aload_n (i := 0) dL_isReleased_2 rfl rfl ?_
  refine ww_iload_n (i := 1) dL_isReleased_3 rfl rfl ?_
  -- at 4, locals [0, 1, 2]
  refine ww_callVX (κ := 7) (r := (RX6, TX6, 4)) wk_L_104 dL_isReleased_4 h rfl rfl hx.1 hx.2 rfl rfl (by omega) hmc hms (by first | exact Nat.le_of_ble_eq_true rfl | (simp [ww_rf_cat, Value.category])) (fun E M9 h9 => ?_) (fun v9 M9 h9 => h9.elim)
  obtain ⟨rfl, rfl⟩ := h9
  refine ⟨22, ⟨[(0, 16, 19, 25)], (0, 16, 22, 13), [], "java/lang/IllegalArgumentException", rfl, (List.forall_mem_cons.mpr ⟨⟨by decide, "java/lang/IndexOutOfBoundsException", wm_509, by decide⟩, fun _ h => absurd h List.not_mem_nil⟩), ⟨by decide, by decide⟩, by decide, wm_242, by decide, rfl⟩, fun q => ?_⟩
  first | refine ww_astore_n (i := 3) (lv2 := [(0, _), (1, _), (2, _), (3, _)]) dL_isReleased_22 rfl (Nat.le_of_ble_eq_true rfl) rfl ?_ | refine ww_astore_nQ (i := 3) (lv2 := [(0, _), (1, _), (2, _), (3, _)]) dL_isReleased_22 rfl (Nat.le_of_ble_eq_true rfl) rfl ?_
  refine ww_iconst (v := 2) dL_isReleased_23 (by decide) ?_
  exact ww_ireturn dL_isReleased_24 rfl (by first | rfl | exact ww_b_nar) ⟨rfl, rfl⟩
set_option maxRecDepth 20000 in
theorem lw_road_0 (h : ww_C g wy_X6_road d' mc' ms' [.ref x, .int a1, .int a2] M (ww_rR (some (.int r)) R) ww_no) (hx : ww_is M.1 x 7) (hR : ∀ M1, R M1 → ww_is M1.1 ol 13 ∧ ww_N M1 ol = 1) (hd : d' ≤ 14) (hmc : mc' ≤ 10) (hms : ms' ≤ 1100) : ww_C g wy_L_road 15 10 1100 [.ref x, .int a1, .int a2, .ref ol] M (ww_lo0 ol r R) ww_no := by
  refine ww_ent (by decide +kernel) (Nat.le_of_ble_eq_true rfl) ⟨rfl, rfl, rfl, rfl, trivial⟩ ?_
  refine ww_aload_n (i := 3) dL_road_0 rfl rfl ?_
  refine ww_iconst (v := 0) dL_road_1 (by decide) ?_
  refine ww_aload_n (i := 0) dL_road_2 rfl rfl ?_
  refine ww_iload_n (i := 1) dL_road_3 rfl rfl ?_
  refine ww_iload_n (i := 2) dL_road_4 rfl rfl ?_
  -- at 5, locals [0, 1, 2, 3]
  refine ww_callVX (κ := 7) (r := (RX6, TX6, 4)) wk_L_108 dL_road_5 h rfl rfl hx.1 hx.2 rfl rfl (by omega) hmc hms (by first | exact Nat.le_of_ble_eq_true rfl | (simp [ww_rf_cat, Value.category])) (fun E M9 h9 => h9.elim) (fun v9 M9 h9 => ?_)
  obtain ⟨rfl, hr9⟩ := h9
  obtain ⟨o1, o2⟩ := hR M9 hr9
  refine ww_i2l dL_road_8 ?_
  -- at 9, locals [0, 1, 2, 3]
  refine ww_last (j := 0) dL_road_9 o1.1 o1.2 nI_0.symm (by rw [o2]; decide) (by rw [o2]; decide) ?_
  refine ww_goto (tgt := 17) dL_road_10 (by decide) ?_
  refine ww_iconst (v := 0) dL_road_17 (by decide) ?_
  exact ww_ireturn dL_road_18 rfl (by first | rfl | exact ww_b_nar) ⟨rfl, M9, hr9, rfl⟩
set_option maxRecDepth 20000 in
theorem lw_road_1 (h : ww_C g wy_X6_road d' mc' ms' [.ref x, .int a1, .int a2] M ww_nr (ww_th "java/lang/IndexOutOfBoundsException" M)) (hx : ww_is M.1 x 7) (hd : d' ≤ 14) (hmc : mc' ≤ 10) (hms : ms' ≤ 1100) : ww_C g wy_L_road 15 10 1100 [.ref x, .int a1, .int a2, .ref ol] M (ww_ret (some (.int 1)) M) ww_no := by
  refine ww_ent (by decide +kernel) (Nat.le_of_ble_eq_true rfl) ⟨rfl, rfl, rfl, rfl, trivial⟩ ?_
  refine ww_aload_n (i := 3) dL_road_0 rfl rfl ?_
  refine ww_iconst (v := 0) dL_road_1 (by decide) ?_
  refine ww_aload_n (i := 0) dL_road_2 rfl rfl ?_
  refine ww_iload_n (i := 1) dL_road_3 rfl rfl ?_
  refine ww_iload_n (i := 2) dL_road_4 rfl rfl ?_
  -- at 5, locals [0, 1, 2, 3]
  refine ww_callVX (κ := 7) (r := (RX6, TX6, 4)) wk_L_108 dL_road_5 h rfl rfl hx.1 hx.2 rfl rfl (by omega) hmc hms (by first | exact Nat.le_of_ble_eq_true rfl | (simp [ww_rf_cat, Value.category])) (fun E M9 h9 => ?_) (fun v9 M9 h9 => h9.elim)
  obtain ⟨rfl, rfl⟩ := h9
  refine ⟨13, ⟨[], (0, 10, 13, 25), [], "java/lang/IndexOutOfBoundsException", rfl, (fun z hz => by cases hz), ⟨by decide, by decide⟩, by decide, wm_509, by decide, rfl⟩, fun q => ?_⟩
  first | refine ww_astore (i := 4) (lv2 := [(0, _), (1, _), (2, _), (3, _), (4, _)]) dL_road_13 (Nat.le_of_ble_eq_true rfl) rfl ?_ | refine ww_astoreQ (i := 4) (lv2 := [(0, _), (1, _), (2, _), (3, _), (4, _)]) dL_road_13 (Nat.le_of_ble_eq_true rfl) rfl ?_
  refine ww_iconst (v := 1) dL_road_15 (by decide) ?_
  exact ww_ireturn dL_road_16 rfl (by first | rfl | exact ww_b_nar) ⟨rfl, rfl⟩
end WWL9
