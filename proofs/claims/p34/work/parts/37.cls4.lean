section WWC5
variable {g : ww_G} {M M1 : ww_M} {a b w n : Nat}
def ww_run1 (M : ww_M) (a : Nat) (d : Int32) : ww_M := ww_sI (ww_sI M 168 a (ww_I M 168 a + d)) 169 a (ww_I M 169 a + d)
def ww_run2 (M : ww_M) (a : Nat) (o : Option Nat) (d r : Int32) : ww_M := match o with
  | none => ww_run1 M a d
  | some w => ww_wear (ww_run1 M a d) w ((ww_I M 168 a + d) / 100 - ww_I M 168 a / 100) r
def ww_runN (M : ww_M) (a : Nat) (d : Int32) : Int32 := (ww_I M 168 a + d - ww_I M 174 a) / 500 - (ww_I M 168 a - ww_I M 174 a) / 500
def ww_run3 (M : ww_M) (a : Nat) (o : Option Nat) (d r : Int32) : ww_M := if 0 < ww_I M 173 a then ww_sI (ww_run2 M a o d r) 173 a (q_grow (ww_runN M a d).toInt.toNat (ww_I M 173 a)) else ww_run2 M a o d r
theorem ww_run2_I {o : Option Nat} {d r : Int32} : ww_I (ww_run2 M a o d r) 168 a = ww_I M 168 a + d ∧ ww_I (ww_run2 M a o d r) 173 a = ww_I M 173 a ∧ ww_I (ww_run2 M a o d r) 174 a = ww_I M 174 a := by
  have h1 : ww_I (ww_run1 M a d) 168 a = ww_I M 168 a + d := (ww_sI_f (by decide)).trans ww_sI_s
  have h2 : ww_I (ww_run1 M a d) 173 a = ww_I M 173 a := (ww_sI_f (by decide)).trans (ww_sI_f (by decide))
  have h3 : ww_I (ww_run1 M a d) 174 a = ww_I M 174 a := (ww_sI_f (by decide)).trans (ww_sI_f (by decide))
  cases o with
  | none => exact ⟨h1, h2, h3⟩
  | some w =>
    refine ⟨?_, ?_, ?_⟩
    · exact ((ww_sI_f (by decide)).trans ((ww_sI_f (by decide)).trans (ww_sI_f (by decide)))).trans h1
    · exact ((ww_sI_f (by decide)).trans ((ww_sI_f (by decide)).trans (ww_sI_f (by decide)))).trans h2
    · exact ((ww_sI_f (by decide)).trans ((ww_sI_f (by decide)).trans (ww_sI_f (by decide)))).trans h3
set_option maxRecDepth 20000 in
theorem c_runs_b {o : Option Nat} {d r : Int32} (ha : ww_is M.1 a 4) (hs : (ww_run2 M a o d r).1 = M.1) : ww_A g wy_X3_runs 2 0 0 (ww_run2 M a o d r) 52 [(0, .ref a), (1, .int d), (2, .int r), (3, .int (ww_I M 168 a))] [] (ww_ret none (ww_run3 M a o d r)) ww_no := by
  have ha : ww_is (ww_run2 M a o d r).1 a 4 := by rw [hs]; exact ha
  obtain ⟨e1, e2, e3⟩ := ww_run2_I (M := M) (a := a) (o := o) (d := d) (r := r)
  unfold ww_run3
  by_cases h1 : 0 < ww_I M 173 a
  · rw [if_pos h1]
    have h2 : ¬ ww_I (ww_run2 M a o d r) 173 a ≤ 0 := by rw [e2, ww_le']; rw [ww_lt] at h1; omega
    have hc := c_growFlaw (g := g) ha ((ww_I (ww_run2 M a o d r) 168 a - ww_I (ww_run2 M a o d r) 174 a) / 500 - (ww_I M 168 a - ww_I (ww_run2 M a o d r) 174 a) / 500)
    rw [show ww_sI (ww_run2 M a o d r) 173 a (q_grow ((ww_I (ww_run2 M a o d r) 168 a - ww_I (ww_run2 M a o d r) 174 a) / 500 - (ww_I M 168 a - ww_I (ww_run2 M a o d r) 174 a) / 500).toInt.toNat (ww_I (ww_run2 M a o d r) 173 a)) = ww_sI (ww_run2 M a o d r) 173 a (q_grow (ww_runN M a d).toInt.toNat (ww_I M 173 a)) by rw [e1, e2, e3]; rfl] at hc
    refine ww_aload_n (i := 0) dX3_runs_52 rfl rfl ?_
    refine ww_getI (f := 173) wf_X3_71 dX3_runs_53 rfl rfl (show ww_is _ _ 4 from ha).1 (show ww_is _ _ 4 from ha).2 ?_
    refine ww_if_le_f (tgt := 87) dX3_runs_56 (by decide) h2 ?_
    refine ww_aload_n (i := 0) dX3_runs_59 rfl rfl ?_
    refine ww_aload_n (i := 0) dX3_runs_60 rfl rfl ?_
    refine ww_getI (f := 168) wf_X3_64 dX3_runs_61 rfl rfl (show ww_is _ _ 4 from ha).1 (show ww_is _ _ 4 from ha).2 ?_
    refine ww_aload_n (i := 0) dX3_runs_64 rfl rfl ?_
    refine ww_getI (f := 174) wf_X3_74 dX3_runs_65 rfl rfl (show ww_is _ _ 4 from ha).1 (show ww_is _ _ 4 from ha).2 ?_
    refine ww_isub dX3_runs_68 ?_
    refine ww_sipush (v := 500) dX3_runs_69 (by decide) ?_
    refine ww_idiv dX3_runs_72 (by decide) ?_
    refine ww_iload_n (i := 3) dX3_runs_73 rfl rfl ?_
    refine ww_aload_n (i := 0) dX3_runs_74 rfl rfl ?_
    refine ww_getI (f := 174) wf_X3_74 dX3_runs_75 rfl rfl (show ww_is _ _ 4 from ha).1 (show ww_is _ _ 4 from ha).2 ?_
    refine ww_isub dX3_runs_78 ?_
    refine ww_sipush (v := 500) dX3_runs_79 (by decide) ?_
    refine ww_idiv dX3_runs_82 (by decide) ?_
    refine ww_isub dX3_runs_83 ?_
    refine ww_callV (κ := 4) (r := (RX3, TX3, 18)) wk_X3_77 dX3_runs_84 (hc) rfl rfl (show ww_is _ _ 4 from ha).1 (show ww_is _ _ 4 from ha).2 rfl rfl (by omega) (by omega) (by omega) (by first | exact Nat.le_of_ble_eq_true rfl | (simp [ww_rf_cat, Value.category])) rfl (fun E M9 h9 => h9.elim) (fun v9 M9 h9 => ?_)
    obtain ⟨rfl, rfl⟩ := h9
    exact ww_vreturn dX3_runs_87 rfl ⟨rfl, rfl⟩
  · rw [if_neg h1]
    have h2 : ww_I (ww_run2 M a o d r) 173 a ≤ 0 := by rw [e2, ww_le']; rw [ww_lt] at h1; omega
    refine ww_aload_n (i := 0) dX3_runs_52 rfl rfl ?_
    refine ww_getI (f := 173) wf_X3_71 dX3_runs_53 rfl rfl (show ww_is _ _ 4 from ha).1 (show ww_is _ _ 4 from ha).2 ?_
    refine ww_if_le_t (tgt := 87) dX3_runs_56 (by decide) h2 ?_
    exact ww_vreturn dX3_runs_87 rfl ⟨rfl, rfl⟩
set_option maxRecDepth 20000 in
theorem c_runs_n (ha : ww_is M.1 a 4) (hw : ww_R M 165 a = none) (d r : Int32) : ww_C g wy_X3_runs 2 0 0 [.ref a, .int d, .int r] M (ww_ret none (ww_run3 M a none d r)) ww_no := by
  refine ww_ent (by decide +kernel) (Nat.le_of_ble_eq_true rfl) ⟨rfl, rfl, rfl, trivial⟩ ?_
  refine ww_aload_n (i := 0) dX3_runs_0 rfl rfl ?_
  refine ww_getI (f := 168) wf_X3_64 dX3_runs_1 rfl rfl (show ww_is _ _ 4 from ha).1 (show ww_is _ _ 4 from ha).2 ?_
  refine ww_istore_n (i := 3) (lv2 := [(0, _), (1, _), (2, _), (3, _)]) dX3_runs_4 rfl (Nat.le_of_ble_eq_true rfl) rfl ?_
  refine ww_aload_n (i := 0) dX3_runs_5 rfl rfl ?_
  refine ww_dup dX3_runs_6 (by first | rfl | exact ww_rf_cat _) ?_
  refine ww_getI (f := 168) wf_X3_64 dX3_runs_7 rfl rfl (show ww_is _ _ 4 from ha).1 (show ww_is _ _ 4 from ha).2 ?_
  refine ww_iload_n (i := 1) dX3_runs_10 rfl rfl ?_
  refine ww_iadd dX3_runs_11 ?_
  refine ww_putI (f := 168) wf_X3_64 wt_4_8 dX3_runs_12 rfl rfl (show ww_is _ _ 4 from ha).1 (show ww_is _ _ 4 from ha).2 rfl rfl ?_
  refine ww_aload_n (i := 0) dX3_runs_15 rfl rfl ?_
  refine ww_dup dX3_runs_16 (by first | rfl | exact ww_rf_cat _) ?_
  refine ww_getI (f := 169) wf_X3_55 dX3_runs_17 rfl rfl (show ww_is _ _ 4 from ha).1 (show ww_is _ _ 4 from ha).2 ?_
  -- at 20, locals [0, 1, 2, 3]
  rw [show ww_I (ww_sI M 168 a (ww_I M 168 a + d)) 169 a = ww_I M 169 a from ww_sI_f (by decide)]
  refine ww_iload_n (i := 1) dX3_runs_20 rfl rfl ?_
  refine ww_iadd dX3_runs_21 ?_
  refine ww_putI (f := 169) wf_X3_55 wt_4_9 dX3_runs_22 rfl rfl (show ww_is _ _ 4 from ha).1 (show ww_is _ _ 4 from ha).2 rfl rfl ?_
  refine ww_aload_n (i := 0) dX3_runs_25 rfl rfl ?_
  refine ww_getN (f := 165) wf_X3_34 dX3_runs_26 rfl rfl (show ww_is _ _ 4 from ha).1 (show ww_is _ _ 4 from ha).2 hw ?_
  refine ww_ifnull_t (tgt := 52) dX3_runs_29 (by decide) ?_
  -- at 52, locals [0, 1, 2, 3]
  exact c_runs_b (o := none) ha rfl
set_option maxRecDepth 20000 in
theorem c_runs_w (ha : ww_is M.1 a 4) (hr : ww_R M 165 a = some w) (hw : ww_is M.1 w 5) (d r : Int32) : ww_C g wy_X3_runs 2 0 0 [.ref a, .int d, .int r] M (ww_ret none (ww_run3 M a (some w) d r)) ww_no := by
  refine ww_ent (by decide +kernel) (Nat.le_of_ble_eq_true rfl) ⟨rfl, rfl, rfl, trivial⟩ ?_
  refine ww_aload_n (i := 0) dX3_runs_0 rfl rfl ?_
  refine ww_getI (f := 168) wf_X3_64 dX3_runs_1 rfl rfl (show ww_is _ _ 4 from ha).1 (show ww_is _ _ 4 from ha).2 ?_
  refine ww_istore_n (i := 3) (lv2 := [(0, _), (1, _), (2, _), (3, _)]) dX3_runs_4 rfl (Nat.le_of_ble_eq_true rfl) rfl ?_
  refine ww_aload_n (i := 0) dX3_runs_5 rfl rfl ?_
  refine ww_dup dX3_runs_6 (by first | rfl | exact ww_rf_cat _) ?_
  refine ww_getI (f := 168) wf_X3_64 dX3_runs_7 rfl rfl (show ww_is _ _ 4 from ha).1 (show ww_is _ _ 4 from ha).2 ?_
  refine ww_iload_n (i := 1) dX3_runs_10 rfl rfl ?_
  refine ww_iadd dX3_runs_11 ?_
  refine ww_putI (f := 168) wf_X3_64 wt_4_8 dX3_runs_12 rfl rfl (show ww_is _ _ 4 from ha).1 (show ww_is _ _ 4 from ha).2 rfl rfl ?_
  refine ww_aload_n (i := 0) dX3_runs_15 rfl rfl ?_
  refine ww_dup dX3_runs_16 (by first | rfl | exact ww_rf_cat _) ?_
  refine ww_getI (f := 169) wf_X3_55 dX3_runs_17 rfl rfl (show ww_is _ _ 4 from ha).1 (show ww_is _ _ 4 from ha).2 ?_
  -- at 20, locals [0, 1, 2, 3]
  rw [show ww_I (ww_sI M 168 a (ww_I M 168 a + d)) 169 a = ww_I M 169 a from ww_sI_f (by decide)]
  refine ww_iload_n (i := 1) dX3_runs_20 rfl rfl ?_
  refine ww_iadd dX3_runs_21 ?_
  refine ww_putI (f := 169) wf_X3_55 wt_4_9 dX3_runs_22 rfl rfl (show ww_is _ _ 4 from ha).1 (show ww_is _ _ 4 from ha).2 rfl rfl ?_
  refine ww_aload_n (i := 0) dX3_runs_25 rfl rfl ?_
  refine ww_getR (f := 165) wf_X3_34 dX3_runs_26 rfl rfl (show ww_is _ _ 4 from ha).1 (show ww_is _ _ 4 from ha).2 hr ?_
  refine ww_ifnull_f dX3_runs_29 ?_
  refine ww_aload_n (i := 0) dX3_runs_32 rfl rfl ?_
  refine ww_getR (f := 165) wf_X3_34 dX3_runs_33 rfl rfl (show ww_is _ _ 4 from ha).1 (show ww_is _ _ 4 from ha).2 hr ?_
  refine ww_aload_n (i := 0) dX3_runs_36 rfl rfl ?_
  refine ww_getI (f := 168) wf_X3_64 dX3_runs_37 rfl rfl (show ww_is _ _ 4 from ha).1 (show ww_is _ _ 4 from ha).2 ?_
  -- at 40, locals [0, 1, 2, 3]
  rw [show ww_I (ww_sI (ww_sI M 168 a (ww_I M 168 a + d)) 169 a (ww_I M 169 a + d)) 168 a = ww_I M 168 a + d from (ww_sI_f (by decide)).trans ww_sI_s]
  refine ww_bipush (v := 100) dX3_runs_40 (by decide) ?_
  refine ww_idiv dX3_runs_42 (by decide) ?_
  refine ww_iload_n (i := 3) dX3_runs_43 rfl rfl ?_
  refine ww_bipush (v := 100) dX3_runs_44 (by decide) ?_
  refine ww_idiv dX3_runs_46 (by decide) ?_
  refine ww_isub dX3_runs_47 ?_
  refine ww_iload_n (i := 2) dX3_runs_48 rfl rfl ?_
  refine ww_callV (κ := 5) (r := (RX4, TX4, 4)) wk_X3_67 dX3_runs_49 (c_wear (M := ww_run1 M a d) hw ((ww_I M 168 a + d) / 100 - ww_I M 168 a / 100) r) rfl rfl (show ww_is _ _ 5 from hw).1 (show ww_is _ _ 5 from hw).2 rfl rfl (by omega) (by omega) (by omega) (by first | exact Nat.le_of_ble_eq_true rfl | (simp [ww_rf_cat, Value.category])) rfl (fun E M9 h9 => h9.elim) (fun v9 M9 h9 => ?_)
  obtain ⟨rfl, rfl⟩ := h9
  -- at 52, locals [0, 1, 2, 3]
  exact c_runs_b (o := some w) ha rfl
/-! limits of a part -/
set_option maxRecDepth 20000 in
theorem c_mayBe (ha : ww_is M.1 a 4) (hl : ww_R M 164 a = some b) (hb : ww_is M.1 b 2) : ww_C g wy_X3_mayBeExamined 1 0 0 [.ref a] M (ww_ret (some (.int (if ¬ ww_I M 81 b ≤ 0 ∧ ¬ ww_I M 169 a < ww_I M 81 b - ww_I M 82 b then 1 else 0))) M) ww_no := by
  refine ww_ent (by decide +kernel) (Nat.le_of_ble_eq_true rfl) ⟨rfl, trivial⟩ ?_
  by_cases h1 : ww_I M 81 b ≤ 0
  · rw [if_neg (fun z => z.1 h1)]
    refine ww_aload_n (i := 0) dX3_mayBeExamined_0 rfl rfl ?_
    refine ww_getR (f := 164) wf_X3_27 dX3_mayBeExamined_1 rfl rfl (show ww_is _ _ 4 from ha).1 (show ww_is _ _ 4 from ha).2 hl ?_
    refine ww_getI (f := 81) wf_X3_50 dX3_mayBeExamined_4 rfl rfl (show ww_is _ _ 2 from hb).1 (show ww_is _ _ 2 from hb).2 ?_
    refine ww_if_le_t (tgt := 36) dX3_mayBeExamined_7 (by decide) h1 ?_
    refine ww_iconst (v := 0) dX3_mayBeExamined_36 (by decide) ?_
    exact ww_ireturn dX3_mayBeExamined_37 rfl (by first | rfl | exact ww_b_nar) ⟨rfl, rfl⟩
  · by_cases h2 : ww_I M 169 a < ww_I M 81 b - ww_I M 82 b
    · rw [if_neg (fun z => z.2 h2)]
      refine ww_aload_n (i := 0) dX3_mayBeExamined_0 rfl rfl ?_
      refine ww_getR (f := 164) wf_X3_27 dX3_mayBeExamined_1 rfl rfl (show ww_is _ _ 4 from ha).1 (show ww_is _ _ 4 from ha).2 hl ?_
      refine ww_getI (f := 81) wf_X3_50 dX3_mayBeExamined_4 rfl rfl (show ww_is _ _ 2 from hb).1 (show ww_is _ _ 2 from hb).2 ?_
      refine ww_if_le_f (tgt := 36) dX3_mayBeExamined_7 (by decide) h1 ?_
      refine ww_aload_n (i := 0) dX3_mayBeExamined_10 rfl rfl ?_
      refine ww_getI (f := 169) wf_X3_55 dX3_mayBeExamined_11 rfl rfl (show ww_is _ _ 4 from ha).1 (show ww_is _ _ 4 from ha).2 ?_
      refine ww_aload_n (i := 0) dX3_mayBeExamined_14 rfl rfl ?_
      refine ww_getR (f := 164) wf_X3_27 dX3_mayBeExamined_15 rfl rfl (show ww_is _ _ 4 from ha).1 (show ww_is _ _ 4 from ha).2 hl ?_
      refine ww_getI (f := 81) wf_X3_50 dX3_mayBeExamined_18 rfl rfl (show ww_is _ _ 2 from hb).1 (show ww_is _ _ 2 from hb).2 ?_
      refine ww_aload_n (i := 0) dX3_mayBeExamined_21 rfl rfl ?_
      refine ww_getR (f := 164) wf_X3_27 dX3_mayBeExamined_22 rfl rfl (show ww_is _ _ 4 from ha).1 (show ww_is _ _ 4 from ha).2 hl ?_
      refine ww_getI (f := 82) wf_X3_58 dX3_mayBeExamined_25 rfl rfl (show ww_is _ _ 2 from hb).1 (show ww_is _ _ 2 from hb).2 ?_
      refine ww_isub dX3_mayBeExamined_28 ?_
      refine ww_icmp_lt_t (tgt := 36) dX3_mayBeExamined_29 (by decide) h2 ?_
      refine ww_iconst (v := 0) dX3_mayBeExamined_36 (by decide) ?_
      exact ww_ireturn dX3_mayBeExamined_37 rfl (by first | rfl | exact ww_b_nar) ⟨rfl, rfl⟩
    · rw [if_pos ⟨h1, h2⟩]
      refine ww_aload_n (i := 0) dX3_mayBeExamined_0 rfl rfl ?_
      refine ww_getR (f := 164) wf_X3_27 dX3_mayBeExamined_1 rfl rfl (show ww_is _ _ 4 from ha).1 (show ww_is _ _ 4 from ha).2 hl ?_
      refine ww_getI (f := 81) wf_X3_50 dX3_mayBeExamined_4 rfl rfl (show ww_is _ _ 2 from hb).1 (show ww_is _ _ 2 from hb).2 ?_
      refine ww_if_le_f (tgt := 36) dX3_mayBeExamined_7 (by decide) h1 ?_
      refine ww_aload_n (i := 0) dX3_mayBeExamined_10 rfl rfl ?_
      refine ww_getI (f := 169) wf_X3_55 dX3_mayBeExamined_11 rfl rfl (show ww_is _ _ 4 from ha).1 (show ww_is _ _ 4 from ha).2 ?_
      refine ww_aload_n (i := 0) dX3_mayBeExamined_14 rfl rfl ?_
      refine ww_getR (f := 164) wf_X3_27 dX3_mayBeExamined_15 rfl rfl (show ww_is _ _ 4 from ha).1 (show ww_is _ _ 4 from ha).2 hl ?_
      refine ww_getI (f := 81) wf_X3_50 dX3_mayBeExamined_18 rfl rfl (show ww_is _ _ 2 from hb).1 (show ww_is _ _ 2 from hb).2 ?_
      refine ww_aload_n (i := 0) dX3_mayBeExamined_21 rfl rfl ?_
      refine ww_getR (f := 164) wf_X3_27 dX3_mayBeExamined_22 rfl rfl (show ww_is _ _ 4 from ha).1 (show ww_is _ _ 4 from ha).2 hl ?_
      refine ww_getI (f := 82) wf_X3_58 dX3_mayBeExamined_25 rfl rfl (show ww_is _ _ 2 from hb).1 (show ww_is _ _ 2 from hb).2 ?_
      refine ww_isub dX3_mayBeExamined_28 ?_
      refine ww_icmp_lt_f (tgt := 36) dX3_mayBeExamined_29 (by decide) h2 ?_
      refine ww_iconst (v := 1) dX3_mayBeExamined_32 (by decide) ?_
      refine ww_goto (tgt := 37) dX3_mayBeExamined_33 (by decide) ?_
      exact ww_ireturn dX3_mayBeExamined_37 rfl (by first | rfl | exact ww_b_nar) ⟨rfl, rfl⟩
set_option maxRecDepth 20000 in
theorem c_isDue (ha : ww_is M.1 a 4) (hl : ww_R M 164 a = some b) (hb : ww_is M.1 b 2) : ww_C g wy_X3_isExaminationDue 1 0 0 [.ref a] M (ww_ret (some (.int (if ¬ ww_I M 81 b ≤ 0 ∧ ¬ ww_I M 169 a ≤ ww_I M 81 b + ww_I M 170 a then 1 else 0))) M) ww_no := by
  refine ww_ent (by decide +kernel) (Nat.le_of_ble_eq_true rfl) ⟨rfl, trivial⟩ ?_
  by_cases h1 : ww_I M 81 b ≤ 0
  · rw [if_neg (fun z => z.1 h1)]
    refine ww_aload_n (i := 0) dX3_isExaminationDue_0 rfl rfl ?_
    refine ww_getR (f := 164) wf_X3_27 dX3_isExaminationDue_1 rfl rfl (show ww_is _ _ 4 from ha).1 (show ww_is _ _ 4 from ha).2 hl ?_
    refine ww_getI (f := 81) wf_X3_50 dX3_isExaminationDue_4 rfl rfl (show ww_is _ _ 2 from hb).1 (show ww_is _ _ 2 from hb).2 ?_
    refine ww_if_le_t (tgt := 33) dX3_isExaminationDue_7 (by decide) h1 ?_
    refine ww_iconst (v := 0) dX3_isExaminationDue_33 (by decide) ?_
    exact ww_ireturn dX3_isExaminationDue_34 rfl (by first | rfl | exact ww_b_nar) ⟨rfl, rfl⟩
  · by_cases h2 : ww_I M 169 a ≤ ww_I M 81 b + ww_I M 170 a
    · rw [if_neg (fun z => z.2 h2)]
      refine ww_aload_n (i := 0) dX3_isExaminationDue_0 rfl rfl ?_
      refine ww_getR (f := 164) wf_X3_27 dX3_isExaminationDue_1 rfl rfl (show ww_is _ _ 4 from ha).1 (show ww_is _ _ 4 from ha).2 hl ?_
      refine ww_getI (f := 81) wf_X3_50 dX3_isExaminationDue_4 rfl rfl (show ww_is _ _ 2 from hb).1 (show ww_is _ _ 2 from hb).2 ?_
      refine ww_if_le_f (tgt := 33) dX3_isExaminationDue_7 (by decide) h1 ?_
      refine ww_aload_n (i := 0) dX3_isExaminationDue_10 rfl rfl ?_
      refine ww_getI (f := 169) wf_X3_55 dX3_isExaminationDue_11 rfl rfl (show ww_is _ _ 4 from ha).1 (show ww_is _ _ 4 from ha).2 ?_
      refine ww_aload_n (i := 0) dX3_isExaminationDue_14 rfl rfl ?_
      refine ww_getR (f := 164) wf_X3_27 dX3_isExaminationDue_15 rfl rfl (show ww_is _ _ 4 from ha).1 (show ww_is _ _ 4 from ha).2 hl ?_
      refine ww_getI (f := 81) wf_X3_50 dX3_isExaminationDue_18 rfl rfl (show ww_is _ _ 2 from hb).1 (show ww_is _ _ 2 from hb).2 ?_
      refine ww_aload_n (i := 0) dX3_isExaminationDue_21 rfl rfl ?_
      refine ww_getI (f := 170) wf_X3_61 dX3_isExaminationDue_22 rfl rfl (show ww_is _ _ 4 from ha).1 (show ww_is _ _ 4 from ha).2 ?_
      refine ww_iadd dX3_isExaminationDue_25 ?_
      refine ww_icmp_le_t (tgt := 33) dX3_isExaminationDue_26 (by decide) h2 ?_
      refine ww_iconst (v := 0) dX3_isExaminationDue_33 (by decide) ?_
      exact ww_ireturn dX3_isExaminationDue_34 rfl (by first | rfl | exact ww_b_nar) ⟨rfl, rfl⟩
    · rw [if_pos ⟨h1, h2⟩]
      refine ww_aload_n (i := 0) dX3_isExaminationDue_0 rfl rfl ?_
      refine ww_getR (f := 164) wf_X3_27 dX3_isExaminationDue_1 rfl rfl (show ww_is _ _ 4 from ha).1 (show ww_is _ _ 4 from ha).2 hl ?_
      refine ww_getI (f := 81) wf_X3_50 dX3_isExaminationDue_4 rfl rfl (show ww_is _ _ 2 from hb).1 (show ww_is _ _ 2 from hb).2 ?_
      refine ww_if_le_f (tgt := 33) dX3_isExaminationDue_7 (by decide) h1 ?_
      refine ww_aload_n (i := 0) dX3_isExaminationDue_10 rfl rfl ?_
      refine ww_getI (f := 169) wf_X3_55 dX3_isExaminationDue_11 rfl rfl (show ww_is _ _ 4 from ha).1 (show ww_is _ _ 4 from ha).2 ?_
      refine ww_aload_n (i := 0) dX3_isExaminationDue_14 rfl rfl ?_
      refine ww_getR (f := 164) wf_X3_27 dX3_isExaminationDue_15 rfl rfl (show ww_is _ _ 4 from ha).1 (show ww_is _ _ 4 from ha).2 hl ?_
      refine ww_getI (f := 81) wf_X3_50 dX3_isExaminationDue_18 rfl rfl (show ww_is _ _ 2 from hb).1 (show ww_is _ _ 2 from hb).2 ?_
      refine ww_aload_n (i := 0) dX3_isExaminationDue_21 rfl rfl ?_
      refine ww_getI (f := 170) wf_X3_61 dX3_isExaminationDue_22 rfl rfl (show ww_is _ _ 4 from ha).1 (show ww_is _ _ 4 from ha).2 ?_
      refine ww_iadd dX3_isExaminationDue_25 ?_
      refine ww_icmp_le_f (tgt := 33) dX3_isExaminationDue_26 (by decide) h2 ?_
      refine ww_iconst (v := 1) dX3_isExaminationDue_29 (by decide) ?_
      refine ww_goto (tgt := 34) dX3_isExaminationDue_30 (by decide) ?_
      exact ww_ireturn dX3_isExaminationDue_34 rfl (by first | rfl | exact ww_b_nar) ⟨rfl, rfl⟩
/-! places -/
set_option maxRecDepth 20000 in
theorem c_placesFor (h k : Int32) : ww_C g wy_X6_placesFor 1 0 0 [.int h, .int k] M (ww_ret (some (.int (q_places h k))) M) ww_no := by
  refine ww_ent (by decide +kernel) (Nat.le_of_ble_eq_true rfl) ⟨rfl, rfl, trivial⟩ ?_
  unfold q_places
  by_cases h0 : h = 0
  · subst h0
    rw [if_neg (by decide)]
    refine ww_iload_n (i := 0) dX6_placesFor_0 rfl rfl ?_
    -- at 1, locals [0, 1]
    refine ww_tableIn (off := 27) (tgt := 28) dX6_placesFor_1 (by decide) (by decide) rfl (by decide) ?_
    by_cases h1 : k = 1
    · subst h1
      refine ww_iload_n (i := 1) dX6_placesFor_28 rfl rfl ?_
      refine ww_iconst (v := 1) dX6_placesFor_29 (by decide) ?_
      refine ww_icmp_ne_f (tgt := 37) dX6_placesFor_30 (by decide) rfl ?_
      refine ww_iconst (v := 2) dX6_placesFor_33 (by decide) ?_
      refine ww_goto (tgt := 38) dX6_placesFor_34 (by decide) ?_
      exact ww_ireturn dX6_placesFor_38 rfl (by first | rfl | exact ww_b_nar) ⟨rfl, rfl⟩
    · rw [if_neg (fun z => h1 (z.2.trans (by decide)))]
      refine ww_iload_n (i := 1) dX6_placesFor_28 rfl rfl ?_
      refine ww_iconst (v := 1) dX6_placesFor_29 (by decide) ?_
      refine ww_icmp_ne_t (tgt := 37) dX6_placesFor_30 (by decide) h1 ?_
      refine ww_iconst (v := 0) dX6_placesFor_37 (by decide) ?_
      exact ww_ireturn dX6_placesFor_38 rfl (by first | rfl | exact ww_b_nar) ⟨rfl, rfl⟩
  · by_cases h1 : h = 1
    · subst h1
      rw [if_neg (by decide)]
      refine ww_iload_n (i := 0) dX6_placesFor_0 rfl rfl ?_
      -- at 1, locals [0, 1]
      refine ww_tableIn (off := 38) (tgt := 39) dX6_placesFor_1 (by decide) (by decide) rfl (by decide) ?_
      by_cases h1 : k = 2
      · subst h1
        refine ww_iload_n (i := 1) dX6_placesFor_39 rfl rfl ?_
        refine ww_iconst (v := 2) dX6_placesFor_40 (by decide) ?_
        refine ww_icmp_ne_f (tgt := 48) dX6_placesFor_41 (by decide) rfl ?_
        refine ww_iconst (v := 2) dX6_placesFor_44 (by decide) ?_
        refine ww_goto (tgt := 49) dX6_placesFor_45 (by decide) ?_
        exact ww_ireturn dX6_placesFor_49 rfl (by first | rfl | exact ww_b_nar) ⟨rfl, rfl⟩
      · rw [if_neg (fun z => h1 (z.2.trans (by decide)))]
        refine ww_iload_n (i := 1) dX6_placesFor_39 rfl rfl ?_
        refine ww_iconst (v := 2) dX6_placesFor_40 (by decide) ?_
        refine ww_icmp_ne_t (tgt := 48) dX6_placesFor_41 (by decide) h1 ?_
        refine ww_iconst (v := 0) dX6_placesFor_48 (by decide) ?_
        exact ww_ireturn dX6_placesFor_49 rfl (by first | rfl | exact ww_b_nar) ⟨rfl, rfl⟩
    · by_cases h2 : h = 2
      · subst h2
        rw [if_pos rfl]
        refine ww_iload_n (i := 0) dX6_placesFor_0 rfl rfl ?_
        -- at 1, locals [0, 1]
        refine ww_tableIn (off := 49) (tgt := 50) dX6_placesFor_1 (by decide) (by decide) rfl (by decide) ?_
        by_cases h3 : k = 3
        · rw [if_pos h3]
          refine ww_iload_n (i := 1) dX6_placesFor_50 rfl rfl ?_
          refine ww_iconst (v := 3) dX6_placesFor_51 (by decide) ?_
          refine ww_icmp_ne_f (tgt := 59) dX6_placesFor_52 (by decide) h3 ?_
          refine ww_iconst (v := 2) dX6_placesFor_55 (by decide) ?_
          refine ww_goto (tgt := 69) dX6_placesFor_56 (by decide) ?_
          exact ww_ireturn dX6_placesFor_69 rfl (by first | rfl | exact ww_b_nar) ⟨rfl, rfl⟩
        · rw [if_neg h3]
          by_cases h4 : k = 4
          · rw [if_pos h4]
            refine ww_iload_n (i := 1) dX6_placesFor_50 rfl rfl ?_
            refine ww_iconst (v := 3) dX6_placesFor_51 (by decide) ?_
            refine ww_icmp_ne_t (tgt := 59) dX6_placesFor_52 (by decide) h3 ?_
            refine ww_iload_n (i := 1) dX6_placesFor_59 rfl rfl ?_
            refine ww_iconst (v := 4) dX6_placesFor_60 (by decide) ?_
            refine ww_icmp_ne_f (tgt := 68) dX6_placesFor_61 (by decide) h4 ?_
            refine ww_iconst (v := 1) dX6_placesFor_64 (by decide) ?_
            refine ww_goto (tgt := 69) dX6_placesFor_65 (by decide) ?_
            exact ww_ireturn dX6_placesFor_69 rfl (by first | rfl | exact ww_b_nar) ⟨rfl, rfl⟩
          · rw [if_neg h4]
            refine ww_iload_n (i := 1) dX6_placesFor_50 rfl rfl ?_
            refine ww_iconst (v := 3) dX6_placesFor_51 (by decide) ?_
            refine ww_icmp_ne_t (tgt := 59) dX6_placesFor_52 (by decide) h3 ?_
            refine ww_iload_n (i := 1) dX6_placesFor_59 rfl rfl ?_
            refine ww_iconst (v := 4) dX6_placesFor_60 (by decide) ?_
            refine ww_icmp_ne_t (tgt := 68) dX6_placesFor_61 (by decide) h4 ?_
            refine ww_iconst (v := 0) dX6_placesFor_68 (by decide) ?_
            exact ww_ireturn dX6_placesFor_69 rfl (by first | rfl | exact ww_b_nar) ⟨rfl, rfl⟩
      · rw [if_neg h2, if_neg (fun z => z.1.elim h0 h1)]
        refine ww_iload_n (i := 0) dX6_placesFor_0 rfl rfl ?_
        -- at 1, locals [0, 1]
        refine ww_tableOut (tgt := 70) dX6_placesFor_1 ?_ (by decide) ?_
        · rw [ww_eq] at h0 h1 h2
          rw [show (0 : Int32).toInt = 0 from rfl] at h0
          rw [show (1 : Int32).toInt = 1 from rfl] at h1
          rw [show (2 : Int32).toInt = 2 from rfl] at h2
          omega
        · refine ww_iconst (v := 0) dX6_placesFor_70 (by decide) ?_
          exact ww_ireturn dX6_placesFor_71 rfl (by first | rfl | exact ww_b_nar) ⟨rfl, rfl⟩
end WWC5
