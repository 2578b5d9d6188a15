/-! ===== the class: wheels and parts ===== -/
section WWC1
variable {g : ww_G} {M M1 : ww_M} {a b n : Nat} {P : Nat → Nat} {ho : Nat → Int32}
set_option maxRecDepth 20000 in
theorem c_isOutside (v lo hi : Int32) : ww_C g wy_X6_isOutside 1 0 0 [.int v, .int lo, .int hi] M (ww_ret (some (.int (if lo ≤ v ∧ v ≤ hi then 0 else 1))) M) ww_no := by
  refine ww_ent (by decide +kernel) (Nat.le_of_ble_eq_true rfl) ⟨rfl, rfl, rfl, trivial⟩ ?_
  by_cases h1 : v < lo
  · rw [if_neg (fun z => by have := z.1; rw [ww_le'] at this; rw [ww_lt] at h1; omega)]
    refine ww_iload_n (i := 0) dX6_isOutside_0 rfl rfl ?_
    refine ww_iload_n (i := 1) dX6_isOutside_1 rfl rfl ?_
    refine ww_icmp_lt_t (tgt := 10) dX6_isOutside_2 (by decide) h1 ?_
    refine ww_iconst (v := 1) dX6_isOutside_10 (by decide) ?_
    refine ww_goto (tgt := 15) dX6_isOutside_11 (by decide) ?_
    exact ww_ireturn dX6_isOutside_15 rfl (by first | rfl | exact ww_b_nar) ⟨rfl, rfl⟩
  · by_cases h2 : v ≤ hi
    · rw [if_pos ⟨by rw [ww_le']; rw [ww_lt] at h1; omega, h2⟩]
      refine ww_iload_n (i := 0) dX6_isOutside_0 rfl rfl ?_
      refine ww_iload_n (i := 1) dX6_isOutside_1 rfl rfl ?_
      refine ww_icmp_lt_f (tgt := 10) dX6_isOutside_2 (by decide) h1 ?_
      refine ww_iload_n (i := 0) dX6_isOutside_5 rfl rfl ?_
      refine ww_iload_n (i := 2) dX6_isOutside_6 rfl rfl ?_
      refine ww_icmp_le_t (tgt := 14) dX6_isOutside_7 (by decide) h2 ?_
      refine ww_iconst (v := 0) dX6_isOutside_14 (by decide) ?_
      exact ww_ireturn dX6_isOutside_15 rfl (by first | rfl | exact ww_b_nar) ⟨rfl, rfl⟩
    · rw [if_neg (fun z => h2 z.2)]
      refine ww_iload_n (i := 0) dX6_isOutside_0 rfl rfl ?_
      refine ww_iload_n (i := 1) dX6_isOutside_1 rfl rfl ?_
      refine ww_icmp_lt_f (tgt := 10) dX6_isOutside_2 (by decide) h1 ?_
      refine ww_iload_n (i := 0) dX6_isOutside_5 rfl rfl ?_
      refine ww_iload_n (i := 2) dX6_isOutside_6 rfl rfl ?_
      refine ww_icmp_le_f (tgt := 14) dX6_isOutside_7 (by decide) h2 ?_
      refine ww_iconst (v := 1) dX6_isOutside_10 (by decide) ?_
      refine ww_goto (tgt := 15) dX6_isOutside_11 (by decide) ?_
      exact ww_ireturn dX6_isOutside_15 rfl (by first | rfl | exact ww_b_nar) ⟨rfl, rfl⟩
theorem c_out_f {v lo hi : Int32} (h : q_rg lo hi v) : ww_C g wy_X6_isOutside 1 0 0 [.int v, .int lo, .int hi] M (ww_ret (some (.int 0)) M) ww_no := by
  have e := c_isOutside (g := g) (M := M) v lo hi
  rw [if_pos (show lo ≤ v ∧ v ≤ hi from h)] at e
  exact e
theorem c_out_t {v lo hi : Int32} (h : ¬ q_rg lo hi v) : ww_C g wy_X6_isOutside 1 0 0 [.int v, .int lo, .int hi] M (ww_ret (some (.int 1)) M) ww_no := by
  have e := c_isOutside (g := g) (M := M) v lo hi
  rw [if_neg (show ¬ (lo ≤ v ∧ v ≤ hi) from h)] at e
  exact e
set_option maxRecDepth 20000 in
theorem c_rubbing {s : Int32} (h : q_rg 0 3 s) : ww_C g wy_X6_rubbing 1 0 0 [.int s] M (ww_ret (some (.int (q_fac s))) M) ww_no := by
  refine ww_ent (by decide +kernel) (Nat.le_of_ble_eq_true rfl) ⟨rfl, trivial⟩ ?_
  obtain ⟨h1, h2⟩ := h
  have hs : s = 0 ∨ s = 1 ∨ s = 2 ∨ s = 3 := by
    rw [ww_le', show (0 : Int32).toInt = 0 from rfl] at h1
    rw [ww_le', show (3 : Int32).toInt = 3 from rfl] at h2
    rw [ww_eq, ww_eq, ww_eq, ww_eq, show (0 : Int32).toInt = 0 from rfl, show (1 : Int32).toInt = 1 from rfl, show (2 : Int32).toInt = 2 from rfl, show (3 : Int32).toInt = 3 from rfl]
    omega
  rcases hs with rfl | rfl | rfl | rfl
  · refine ww_iload_n (i := 0) dX6_rubbing_0 rfl rfl ?_
    -- at 1, locals [0]
    refine ww_lookup (off := 27) (tgt := 28) dX6_rubbing_1 (by decide) rfl (by decide) ?_
    refine ww_iconst (v := 1) dX6_rubbing_28 (by decide) ?_
    exact ww_ireturn dX6_rubbing_29 rfl (by first | rfl | exact ww_b_nar) ⟨rfl, rfl⟩
  · refine ww_iload_n (i := 0) dX6_rubbing_0 rfl rfl ?_
    -- at 1, locals [0]
    refine ww_lookup (off := 31) (tgt := 32) dX6_rubbing_1 (by decide) rfl (by decide) ?_
    refine ww_iconst (v := 2) dX6_rubbing_32 (by decide) ?_
    exact ww_ireturn dX6_rubbing_33 rfl (by first | rfl | exact ww_b_nar) ⟨rfl, rfl⟩
  · refine ww_iload_n (i := 0) dX6_rubbing_0 rfl rfl ?_
    -- at 1, locals [0]
    refine ww_lookup (off := 29) (tgt := 30) dX6_rubbing_1 (by decide) rfl (by decide) ?_
    refine ww_iconst (v := 3) dX6_rubbing_30 (by decide) ?_
    exact ww_ireturn dX6_rubbing_31 rfl (by first | rfl | exact ww_b_nar) ⟨rfl, rfl⟩
  · refine ww_iload_n (i := 0) dX6_rubbing_0 rfl rfl ?_
    -- at 1, locals [0]
    refine ww_lookup (off := 31) (tgt := 32) dX6_rubbing_1 (by decide) rfl (by decide) ?_
    refine ww_iconst (v := 2) dX6_rubbing_32 (by decide) ?_
    exact ww_ireturn dX6_rubbing_33 rfl (by first | rfl | exact ww_b_nar) ⟨rfl, rfl⟩
/-! a wheel: diameter, flange, told, rubbed -/
set_option maxRecDepth 20000 in
theorem c_isWorn (ha : ww_is M.1 a 5) : ww_C g wy_X4_isWorn 1 0 0 [.ref a] M (ww_ret (some (.int (if ww_I M 200 a < 8500 ∨ ww_I M 201 a < 250 then 1 else 0))) M) ww_no := by
  refine ww_ent (by decide +kernel) (Nat.le_of_ble_eq_true rfl) ⟨rfl, trivial⟩ ?_
  by_cases h1 : ww_I M 200 a < 8500
  · rw [if_pos (Or.inl h1)]
    refine ww_aload_n (i := 0) dX4_isWorn_0 rfl rfl ?_
    refine ww_getI (f := 200) wf_X4_9 dX4_isWorn_1 rfl rfl (show ww_is _ _ 5 from ha).1 (show ww_is _ _ 5 from ha).2 ?_
    refine ww_sipush (v := 8500) dX4_isWorn_4 (by decide) ?_
    refine ww_icmp_lt_t (tgt := 20) dX4_isWorn_7 (by decide) h1 ?_
    refine ww_iconst (v := 1) dX4_isWorn_20 (by decide) ?_
    refine ww_goto (tgt := 25) dX4_isWorn_21 (by decide) ?_
    exact ww_ireturn dX4_isWorn_25 rfl (by first | rfl | exact ww_b_nar) ⟨rfl, rfl⟩
  · by_cases h2 : ww_I M 201 a < 250
    · rw [if_pos (Or.inr h2)]
      have h3 : ¬ (250 : Int32) ≤ ww_I M 201 a := by rw [ww_le']; rw [ww_lt] at h2; omega
      refine ww_aload_n (i := 0) dX4_isWorn_0 rfl rfl ?_
      refine ww_getI (f := 200) wf_X4_9 dX4_isWorn_1 rfl rfl (show ww_is _ _ 5 from ha).1 (show ww_is _ _ 5 from ha).2 ?_
      refine ww_sipush (v := 8500) dX4_isWorn_4 (by decide) ?_
      refine ww_icmp_lt_f (tgt := 20) dX4_isWorn_7 (by decide) h1 ?_
      refine ww_aload_n (i := 0) dX4_isWorn_10 rfl rfl ?_
      refine ww_getI (f := 201) wf_X4_15 dX4_isWorn_11 rfl rfl (show ww_is _ _ 5 from ha).1 (show ww_is _ _ 5 from ha).2 ?_
      refine ww_sipush (v := 250) dX4_isWorn_14 (by decide) ?_
      refine ww_icmp_ge_f (tgt := 24) dX4_isWorn_17 (by decide) h3 ?_
      refine ww_iconst (v := 1) dX4_isWorn_20 (by decide) ?_
      refine ww_goto (tgt := 25) dX4_isWorn_21 (by decide) ?_
      exact ww_ireturn dX4_isWorn_25 rfl (by first | rfl | exact ww_b_nar) ⟨rfl, rfl⟩
    · rw [if_neg (fun z => z.elim h1 h2)]
      have h3 : (250 : Int32) ≤ ww_I M 201 a := by rw [ww_le']; rw [ww_lt] at h2; omega
      refine ww_aload_n (i := 0) dX4_isWorn_0 rfl rfl ?_
      refine ww_getI (f := 200) wf_X4_9 dX4_isWorn_1 rfl rfl (show ww_is _ _ 5 from ha).1 (show ww_is _ _ 5 from ha).2 ?_
      refine ww_sipush (v := 8500) dX4_isWorn_4 (by decide) ?_
      refine ww_icmp_lt_f (tgt := 20) dX4_isWorn_7 (by decide) h1 ?_
      refine ww_aload_n (i := 0) dX4_isWorn_10 rfl rfl ?_
      refine ww_getI (f := 201) wf_X4_15 dX4_isWorn_11 rfl rfl (show ww_is _ _ 5 from ha).1 (show ww_is _ _ 5 from ha).2 ?_
      refine ww_sipush (v := 250) dX4_isWorn_14 (by decide) ?_
      refine ww_icmp_ge_t (tgt := 24) dX4_isWorn_17 (by decide) h3 ?_
      refine ww_iconst (v := 0) dX4_isWorn_24 (by decide) ?_
      exact ww_ireturn dX4_isWorn_25 rfl (by first | rfl | exact ww_b_nar) ⟨rfl, rfl⟩
set_option maxRecDepth 20000 in
theorem c_renewFlange (ha : ww_is M.1 a 5) : ww_C g wy_X4_renewFlange 1 0 0 [.ref a] M (ww_ret none (ww_sI (ww_sI M 200 a (ww_I M 200 a - 2 * (300 - ww_I M 201 a))) 201 a 300)) ww_no := by
  refine ww_ent (by decide +kernel) (Nat.le_of_ble_eq_true rfl) ⟨rfl, trivial⟩ ?_
  refine ww_aload_n (i := 0) dX4_renewFlange_0 rfl rfl ?_
  refine ww_dup dX4_renewFlange_1 (by first | rfl | exact ww_rf_cat _) ?_
  refine ww_getI (f := 200) wf_X4_9 dX4_renewFlange_2 rfl rfl (show ww_is _ _ 5 from ha).1 (show ww_is _ _ 5 from ha).2 ?_
  refine ww_iconst (v := 2) dX4_renewFlange_5 (by decide) ?_
  refine ww_sipush (v := 300) dX4_renewFlange_6 (by decide) ?_
  refine ww_aload_n (i := 0) dX4_renewFlange_9 rfl rfl ?_
  refine ww_getI (f := 201) wf_X4_15 dX4_renewFlange_10 rfl rfl (show ww_is _ _ 5 from ha).1 (show ww_is _ _ 5 from ha).2 ?_
  refine ww_isub dX4_renewFlange_13 ?_
  refine ww_imul dX4_renewFlange_14 ?_
  refine ww_isub dX4_renewFlange_15 ?_
  refine ww_putI (f := 200) wf_X4_9 wt_5_0 dX4_renewFlange_16 rfl rfl (show ww_is _ _ 5 from ha).1 (show ww_is _ _ 5 from ha).2 rfl rfl ?_
  refine ww_aload_n (i := 0) dX4_renewFlange_19 rfl rfl ?_
  refine ww_sipush (v := 300) dX4_renewFlange_20 (by decide) ?_
  refine ww_putI (f := 201) wf_X4_15 wt_5_1 dX4_renewFlange_23 rfl rfl (show ww_is _ _ 5 from ha).1 (show ww_is _ _ 5 from ha).2 rfl rfl ?_
  exact ww_vreturn dX4_renewFlange_26 rfl ⟨rfl, rfl⟩
def ww_wheel0 (M : ww_M) (a : Nat) : ww_M := ww_sI (ww_sI (ww_sI M 200 a 9000) 201 a 300) 202 a (-1)
set_option maxRecDepth 20000 in
theorem c_wheelInit (ha : ww_is M.1 a 5) : ww_C g wy_X4_init 2 0 0 [.ref a] M (ww_ret none (ww_wheel0 M a)) ww_no := by
  refine ww_ent (by decide +kernel) (Nat.le_of_ble_eq_true rfl) ⟨rfl, trivial⟩ ?_
  refine ww_aload_n (i := 0) dX4_init_0 rfl rfl ?_
  refine ww_objInit dX4_init_1 wm_267 wm_54 wm_55 (by omega) (by first | exact Nat.le_of_ble_eq_true rfl | (simp [ww_rf_cat, Value.category])) ?_
  refine ww_aload_n (i := 0) dX4_init_4 rfl rfl ?_
  refine ww_sipush (v := 9000) dX4_init_5 (by decide) ?_
  refine ww_putI (f := 200) wf_X4_9 wt_5_0 dX4_init_8 rfl rfl (show ww_is _ _ 5 from ha).1 (show ww_is _ _ 5 from ha).2 rfl rfl ?_
  refine ww_aload_n (i := 0) dX4_init_11 rfl rfl ?_
  refine ww_sipush (v := 300) dX4_init_12 (by decide) ?_
  refine ww_putI (f := 201) wf_X4_15 wt_5_1 dX4_init_15 rfl rfl (show ww_is _ _ 5 from ha).1 (show ww_is _ _ 5 from ha).2 rfl rfl ?_
  refine ww_aload_n (i := 0) dX4_init_18 rfl rfl ?_
  refine ww_iconst (v := (-1)) dX4_init_19 (by decide) ?_
  refine ww_putI (f := 202) wf_X4_18 wt_5_2 dX4_init_20 rfl rfl (show ww_is _ _ 5 from ha).1 (show ww_is _ _ 5 from ha).2 rfl rfl ?_
  exact ww_vreturn dX4_init_23 rfl ⟨rfl, rfl⟩
/-! events and limits -/
def ww_event (M : ww_M) (a : Nat) (u v w : Int32) : ww_M := ww_sI (ww_sI (ww_sI M 40 a u) 41 a v) 42 a w
set_option maxRecDepth 20000 in
theorem c_eventInit (ha : ww_is M.1 a 1) (u v w : Int32) : ww_C g wy_X0_init 2 0 0 [.ref a, .int u, .int v, .int w] M (ww_ret none (ww_event M a u v w)) ww_no := by
  refine ww_ent (by decide +kernel) (Nat.le_of_ble_eq_true rfl) ⟨rfl, rfl, rfl, rfl, trivial⟩ ?_
  refine ww_aload_n (i := 0) dX0_init_0 rfl rfl ?_
  refine ww_objInit dX0_init_1 wm_492 wm_54 wm_55 (by omega) (by first | exact Nat.le_of_ble_eq_true rfl | (simp [ww_rf_cat, Value.category])) ?_
  refine ww_aload_n (i := 0) dX0_init_4 rfl rfl ?_
  refine ww_iload_n (i := 1) dX0_init_5 rfl rfl ?_
  refine ww_putI (f := 40) wf_X0_7 wt_1_0 dX0_init_6 rfl rfl (show ww_is _ _ 1 from ha).1 (show ww_is _ _ 1 from ha).2 rfl rfl ?_
  refine ww_aload_n (i := 0) dX0_init_9 rfl rfl ?_
  refine ww_iload_n (i := 2) dX0_init_10 rfl rfl ?_
  refine ww_putI (f := 41) wf_X0_13 wt_1_1 dX0_init_11 rfl rfl (show ww_is _ _ 1 from ha).1 (show ww_is _ _ 1 from ha).2 rfl rfl ?_
  refine ww_aload_n (i := 0) dX0_init_14 rfl rfl ?_
  refine ww_iload_n (i := 3) dX0_init_15 rfl rfl ?_
  refine ww_putI (f := 42) wf_X0_16 wt_1_2 dX0_init_16 rfl rfl (show ww_is _ _ 1 from ha).1 (show ww_is _ _ 1 from ha).2 rfl rfl ?_
  exact ww_vreturn dX0_init_19 rfl ⟨rfl, rfl⟩
set_option maxRecDepth 20000 in
theorem c_limitsInit (ha : ww_is M.1 a 2) : ww_C g wy_X1_init 2 0 0 [.ref a] M (ww_ret none M) ww_no := by
  refine ww_ent (by decide +kernel) (Nat.le_of_ble_eq_true rfl) ⟨rfl, trivial⟩ ?_
  refine ww_aload_n (i := 0) dX1_init_0 rfl rfl ?_
  refine ww_objInit dX1_init_1 wm_130 wm_54 wm_55 (by omega) (by first | exact Nat.le_of_ble_eq_true rfl | (simp [ww_rf_cat, Value.category])) ?_
  exact ww_vreturn dX1_init_4 rfl ⟨rfl, rfl⟩
set_option maxRecDepth 20000 in
theorem c_isMoveOf (ha : ww_is M.1 a 1) (v : Int32) : ww_C g wy_X2_isMoveOf 1 0 0 [.ref a, .int v] M (ww_ret (some (.int (if ww_I M 40 a = v ∧ ww_I M 42 a = 0 then 1 else 0))) M) ww_no := by
  refine ww_ent (by decide +kernel) (Nat.le_of_ble_eq_true rfl) ⟨rfl, rfl, trivial⟩ ?_
  by_cases h1 : ww_I M 40 a = v
  · by_cases h2 : ww_I M 42 a = 0
    · rw [if_pos ⟨h1, h2⟩]
      refine ww_aload_n (i := 0) dX2_isMoveOf_0 rfl rfl ?_
      refine ww_getI (f := 40) wf_X2_46 dX2_isMoveOf_1 rfl rfl (show ww_is _ _ 1 from ha).1 (show ww_is _ _ 1 from ha).2 ?_
      refine ww_iload_n (i := 1) dX2_isMoveOf_4 rfl rfl ?_
      refine ww_icmp_ne_f (tgt := 19) dX2_isMoveOf_5 (by decide) h1 ?_
      refine ww_aload_n (i := 0) dX2_isMoveOf_8 rfl rfl ?_
      refine ww_getI (f := 42) wf_X2_50 dX2_isMoveOf_9 rfl rfl (show ww_is _ _ 1 from ha).1 (show ww_is _ _ 1 from ha).2 ?_
      refine ww_if_ne_f (tgt := 19) dX2_isMoveOf_12 (by decide) h2 ?_
      refine ww_iconst (v := 1) dX2_isMoveOf_15 (by decide) ?_
      refine ww_goto (tgt := 20) dX2_isMoveOf_16 (by decide) ?_
      exact ww_ireturn dX2_isMoveOf_20 rfl (by first | rfl | exact ww_b_nar) ⟨rfl, rfl⟩
    · rw [if_neg (fun z => h2 z.2)]
      refine ww_aload_n (i := 0) dX2_isMoveOf_0 rfl rfl ?_
      refine ww_getI (f := 40) wf_X2_46 dX2_isMoveOf_1 rfl rfl (show ww_is _ _ 1 from ha).1 (show ww_is _ _ 1 from ha).2 ?_
      refine ww_iload_n (i := 1) dX2_isMoveOf_4 rfl rfl ?_
      refine ww_icmp_ne_f (tgt := 19) dX2_isMoveOf_5 (by decide) h1 ?_
      refine ww_aload_n (i := 0) dX2_isMoveOf_8 rfl rfl ?_
      refine ww_getI (f := 42) wf_X2_50 dX2_isMoveOf_9 rfl rfl (show ww_is _ _ 1 from ha).1 (show ww_is _ _ 1 from ha).2 ?_
      refine ww_if_ne_t (tgt := 19) dX2_isMoveOf_12 (by decide) h2 ?_
      refine ww_iconst (v := 0) dX2_isMoveOf_19 (by decide) ?_
      exact ww_ireturn dX2_isMoveOf_20 rfl (by first | rfl | exact ww_b_nar) ⟨rfl, rfl⟩
  · rw [if_neg (fun z => h1 z.1)]
    refine ww_aload_n (i := 0) dX2_isMoveOf_0 rfl rfl ?_
    refine ww_getI (f := 40) wf_X2_46 dX2_isMoveOf_1 rfl rfl (show ww_is _ _ 1 from ha).1 (show ww_is _ _ 1 from ha).2 ?_
    refine ww_iload_n (i := 1) dX2_isMoveOf_4 rfl rfl ?_
    refine ww_icmp_ne_t (tgt := 19) dX2_isMoveOf_5 (by decide) h1 ?_
    refine ww_iconst (v := 0) dX2_isMoveOf_19 (by decide) ?_
    exact ww_ireturn dX2_isMoveOf_20 rfl (by first | rfl | exact ww_b_nar) ⟨rfl, rfl⟩
/-! a part's flaw, its ways up -/
set_option maxRecDepth 20000 in
theorem c_growFlaw_l (c : Int32) : ∀ (m j : Nat) (M1 : ww_M), ww_is M1.1 a 4 → j < 2 ^ 30 ∨ j ≤ c.toInt.toNat → c.toInt.toNat - j = m → ww_A g wy_X3_growFlaw 1 0 0 M1 2 [(0, .ref a), (1, .int c), (2, .int (nI j))] [] (ww_ret none (ww_sI M1 173 a (q_grow m (ww_I M1 173 a)))) ww_no
  | 0, j, M1, ha, h0, e => by
    have hc := c.toInt_lt
    have h1 : c ≤ nI j := by rw [ww_le', nI_toInt (by omega)]; omega
    have e1 : M1 = ww_sI M1 173 a (q_grow 0 (ww_I M1 173 a)) := by
      have e0 : ww_u2 (ww_I M1) 173 a (q_grow 0 (ww_I M1 173 a)) = ww_I M1 := ww_u2_id rfl
      unfold ww_sI
      rw [e0]
      rfl
    refine ww_iload_n (i := 2) dX3_growFlaw_2 rfl rfl ?_
    refine ww_iload_n (i := 1) dX3_growFlaw_3 rfl rfl ?_
    refine ww_icmp_ge_t (tgt := 31) dX3_growFlaw_4 (by decide) h1 ?_
    exact ww_vreturn dX3_growFlaw_31 rfl ⟨rfl, e1.symm⟩
  | m + 1, j, M1, ha, h0, e => by
    have hc := c.toInt_lt
    have h1 : ¬ c ≤ nI j := by rw [ww_le', nI_toInt (by omega)]; omega
    refine ww_iload_n (i := 2) dX3_growFlaw_2 rfl rfl ?_
    refine ww_iload_n (i := 1) dX3_growFlaw_3 rfl rfl ?_
    refine ww_icmp_ge_f (tgt := 31) dX3_growFlaw_4 (by decide) h1 ?_
    refine ww_aload_n (i := 0) dX3_growFlaw_7 rfl rfl ?_
    refine ww_dup dX3_growFlaw_8 (by first | rfl | exact ww_rf_cat _) ?_
    refine ww_getI (f := 173) wf_X3_71 dX3_growFlaw_9 rfl rfl (show ww_is _ _ 4 from ha).1 (show ww_is _ _ 4 from ha).2 ?_
    refine ww_iconst (v := 1) dX3_growFlaw_12 (by decide) ?_
    refine ww_aload_n (i := 0) dX3_growFlaw_13 rfl rfl ?_
    refine ww_getI (f := 173) wf_X3_71 dX3_growFlaw_14 rfl rfl (show ww_is _ _ 4 from ha).1 (show ww_is _ _ 4 from ha).2 ?_
    refine ww_bipush (v := 10) dX3_growFlaw_17 (by decide) ?_
    refine ww_idiv dX3_growFlaw_19 (by decide) ?_
    refine ww_iadd dX3_growFlaw_20 ?_
    refine ww_iadd dX3_growFlaw_21 ?_
    refine ww_putI (f := 173) wf_X3_71 wt_4_13 dX3_growFlaw_22 rfl rfl (show ww_is _ _ 4 from ha).1 (show ww_is _ _ 4 from ha).2 rfl rfl ?_
    refine ww_iinc (i := 2) (v := _ + 1) (lv2 := [(0, _), (1, _), (2, _)]) dX3_growFlaw_25 rfl (by rfl) (Nat.le_of_ble_eq_true rfl) rfl ?_
    refine ww_goto (tgt := 2) dX3_growFlaw_28 (by decide) ?_
    -- at 2, locals [0, 1, 2]
    rw [nI_1]
    refine ww_A_mono (c_growFlaw_l c m (j + 1) _ ha (by omega) (by omega)) (fun v M' h => ⟨h.1, ?_⟩) (fun _ _ h => h)
    rw [← h.2]
    unfold ww_sI
    rw [show ∀ M2 : ww_M, ww_I (M2.1, ww_u2 (ww_I M1) 173 a (ww_I M1 173 a + (1 + ww_I M1 173 a / 10)), M2.2.2) = ww_u2 (ww_I M1) 173 a (ww_I M1 173 a + (1 + ww_I M1 173 a / 10)) from fun _ => rfl, ww_u2_u2, ww_u2s]
    rfl
set_option maxRecDepth 20000 in
theorem c_growFlaw (ha : ww_is M.1 a 4) (c : Int32) : ww_C g wy_X3_growFlaw 1 0 0 [.ref a, .int c] M (ww_ret none (ww_sI M 173 a (q_grow c.toInt.toNat (ww_I M 173 a)))) ww_no := by
  refine ww_ent (by decide +kernel) (Nat.le_of_ble_eq_true rfl) ⟨rfl, rfl, trivial⟩ ?_
  have hl := c_growFlaw_l (g := g) c c.toInt.toNat 0 M ha (by omega) (by omega)
  refine ww_iconst (v := 0) dX3_growFlaw_0 (by decide) ?_
  refine ww_istore_n (i := 2) (lv2 := [(0, _), (1, _), (2, _)]) dX3_growFlaw_1 rfl (Nat.le_of_ble_eq_true rfl) rfl ?_
  -- at 2, locals [0, 1, 2]
  exact hl
/-- parts and their hosts -/
def ww_hs (M : ww_M) (P : Nat → Nat) (n : Nat) (ho : Nat → Int32) : Prop := ∀ i, i < n → ww_is M.1 (P i) 4 ∧ ww_R M 166 (P i) = if ho i < 0 then none else some (P (ho i).toNatClampNeg)
end WWC1
