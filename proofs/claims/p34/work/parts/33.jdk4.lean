section WWR
variable {g : ww_G} {M M1 M2 : ww_M} {a b e e1 n κ : Nat} {f : Nat → Nat}
def q_del (f : Nat → Nat) (i : Nat) : Nat → Nat := fun j => if j < i then f j else f (j + 1)
theorem ww_ow_null {m : Nat} (h : ww_ow M1 κ e n f) (hm : n ≤ m) : ww_ow (ww_sY M1 e m none) κ e n f := by
  obtain ⟨o1, o2, o3, o4, o5, o6⟩ := h
  refine ⟨o1, o2, o3, o4, fun i hi => ?_, fun i y hi hy => ?_⟩
  · exact (show ww_u2 (ww_Y M1) e m none e i = ww_Y M1 e i from ww_u2n (fun z => by omega)).trans (o5 i hi)
  · by_cases h : i = m
    · rw [h, show ww_Y (ww_sY M1 e m none) e m = none from ww_u2s] at hy
      cases hy
    · exact o6 i y hi ((show ww_u2 (ww_Y M1) e m none e i = ww_Y M1 e i from ww_u2n (fun z => h z.2)).symm.trans hy)
theorem ww_ls_cut (h1 : ww_is M1.1 a 0) (h2 : ww_R M1 1 a = some e) (h3 : ww_ow M1 κ e n f) : ww_ls g (ww_sY (ww_sI M1 2 a (nI n)) e n none) κ a e n f := ⟨h1, (show ww_u2 (ww_I M1) 2 a (nI n) 2 a = nI n from ww_u2s), h2, Or.inr (ww_ow_null (M1 := ww_sI M1 2 a (nI n)) h3 (Nat.le_refl _))⟩
set_option maxRecDepth 20000 in
set_option maxHeartbeats 4000000 in
theorem j_fastRemove {r : vw_C} (ha : ww_is M.1 a 0) (h2 : ww_I M 2 a = nI n) (he : ww_R M 1 a = some e) (ho : ww_ow M κ e n f) {i : Nat} (hi : i < n) (hr : vwCl[κ]? = some r) (hca : (r.1, "java/lang/Object") ∈ ww_ca) : ww_C g wy_Jx4a65c_fastRemove_b59b0 1 0 0 [.ref a, .ref e, .int (nI i)] M (fun v M' => v = none ∧ ww_ls g M' κ a e (n - 1) (q_del f i) ∧ ww_fr M M' (fun y => y = a) (fun y => y = e)) ww_no := by
  refine ww_ent (by decide +kernel) (Nat.le_of_ble_eq_true rfl) ⟨rfl, rfl, rfl, trivial⟩ ?_
  obtain ⟨o1, o2, o3, o4, o5, o6⟩ := id ho
  have e2 : ww_I (ww_sI M 0 a (ww_I M 0 a + 1)) 2 a = nI n := (show ww_u2 (ww_I M) 0 a (ww_I M 0 a + 1) 2 a = ww_I M 2 a from ww_u2n (fun z => absurd z.1 (by decide))).trans h2
  have e3 : nI n - 1 = nI (n - 1) := by rw [show n = (n - 1) + 1 by omega, nI_succ, Int32.add_sub_cancel]; rfl
  have hf0 : ww_fr M (ww_sI M 0 a (ww_I M 0 a + 1)) (fun y => y = a) (fun y => y = e) := ww_fr_sI ww_fr_rf rfl
  refine ww_aload_n (i := 0) dJx4a65c_fastRemove_b59b0_0 rfl rfl ?_
  refine ww_dup dJx4a65c_fastRemove_b59b0_1 (by first | rfl | exact ww_rf_cat _) ?_
  refine ww_getI (f := 0) wf_Jx4a65c_63 dJx4a65c_fastRemove_b59b0_2 rfl rfl (show ww_is _ _ 0 from ha).1 (show ww_is _ _ 0 from ha).2 ?_
  refine ww_iconst (v := 1) dJx4a65c_fastRemove_b59b0_5 (by decide) ?_
  refine ww_iadd dJx4a65c_fastRemove_b59b0_6 ?_
  refine ww_putI (f := 0) wf_Jx4a65c_63 wt_0_0 dJx4a65c_fastRemove_b59b0_7 rfl rfl (show ww_is _ _ 0 from ha).1 (show ww_is _ _ 0 from ha).2 rfl rfl ?_
  refine ww_aload_n (i := 0) dJx4a65c_fastRemove_b59b0_10 rfl rfl ?_
  refine ww_getI (f := 2) wf_Jx4a65c_48 dJx4a65c_fastRemove_b59b0_11 rfl rfl (show ww_is _ _ 0 from ha).1 (show ww_is _ _ 0 from ha).2 ?_
  -- at 14, locals [0, 1, 2]
  rw [e2]
  refine ww_iconst (v := 1) dJx4a65c_fastRemove_b59b0_14 (by decide) ?_
  refine ww_isub dJx4a65c_fastRemove_b59b0_15 ?_
  -- at 16, locals [0, 1, 2]
  rw [e3]
  by_cases h1 : i < n - 1
  · refine ww_dup dJx4a65c_fastRemove_b59b0_16 (by first | rfl | exact ww_rf_cat _) ?_
    refine ww_istore_n (i := 3) (lv2 := [(0, _), (1, _), (2, _), (3, _)]) dJx4a65c_fastRemove_b59b0_17 rfl (Nat.le_of_ble_eq_true rfl) rfl ?_
    refine ww_iload_n (i := 2) dJx4a65c_fastRemove_b59b0_18 rfl rfl ?_
    refine ww_icmp_le_f (tgt := 34) dJx4a65c_fastRemove_b59b0_19 (by decide) (nI_ge h1 (by omega)) ?_
    first | refine ww_aload_n (i := 1) dJx4a65c_fastRemove_b59b0_22 rfl rfl ?_ | refine ww_aload_nQ (i := 1) dJx4a65c_fastRemove_b59b0_22 rfl rfl ?_
    refine ww_iload_n (i := 2) dJx4a65c_fastRemove_b59b0_23 rfl rfl ?_
    refine ww_iconst (v := 1) dJx4a65c_fastRemove_b59b0_24 (by decide) ?_
    refine ww_iadd dJx4a65c_fastRemove_b59b0_25 ?_
    -- at 26, locals [0, 1, 2, 3]
    rw [nI_1]
    first | refine ww_aload_n (i := 1) dJx4a65c_fastRemove_b59b0_26 rfl rfl ?_ | refine ww_aload_nQ (i := 1) dJx4a65c_fastRemove_b59b0_26 rfl rfl ?_
    refine ww_iload_n (i := 2) dJx4a65c_fastRemove_b59b0_27 rfl rfl ?_
    refine ww_iload_n (i := 3) dJx4a65c_fastRemove_b59b0_28 rfl rfl ?_
    refine ww_iload_n (i := 2) dJx4a65c_fastRemove_b59b0_29 rfl rfl ?_
    refine ww_isub dJx4a65c_fastRemove_b59b0_30 ?_
    -- at 31, locals [0, 1, 2, 3]
    have e4 : nI (n - 1) - nI i = nI (n - 1 - i) := by
      have : nI (n - 1) = nI (n - 1 - i) + nI i := by rw [nI_add, show n - 1 - i + i = n - 1 by omega]
      rw [this, Int32.add_sub_cancel]
    rw [e4]
    refine ww_copy (κ := κ) (n0 := i + 1) (n1 := i) (n2 := n - 1 - i) dJx4a65c_fastRemove_b59b0_31 wm_747 wm_410 wm_409 wm_42 o1.1 o1.2 o1.1 o1.2 rfl rfl rfl (by show _ ≤ ww_N M e; omega) (by show _ ≤ ww_N M e; omega) (by show ww_N M e < _; omega) (by show ww_N M e < _; omega) hr hca (fun j hj y hy => o6 (i + 1 + j) y (by omega) hy) (by omega) (by simp [Value.category]) ?_
    have ho2 : ww_ow (ww_cY (ww_sI M 0 a (ww_I M 0 a + 1)) e (va_cpy (ww_Y M e) (ww_Y M e) (i + 1) i (n - 1 - i))) κ e (n - 1) (q_del f i) := by
      have hY : ∀ j, ww_Y (ww_cY (ww_sI M 0 a (ww_I M 0 a + 1)) e (va_cpy (ww_Y M e) (ww_Y M e) (i + 1) i (n - 1 - i))) e j = if i ≤ j ∧ j < n - 1 then ww_Y M e (j + 1) else ww_Y M e j := by
        intro j
        show (if e = e then va_cpy (ww_Y M e) (ww_Y M e) (i + 1) i (n - 1 - i) else ww_Y M e) j = _
        rw [if_pos rfl]
        show (if i ≤ j ∧ j < i + (n - 1 - i) then ww_Y M e (i + 1 + (j - i)) else ww_Y M e j) = _
        by_cases c : i ≤ j ∧ j < n - 1
        · rw [if_pos c, if_pos ⟨c.1, by omega⟩, show i + 1 + (j - i) = j + 1 by omega]
        · rw [if_neg c, if_neg (fun z => c ⟨z.1, by omega⟩)]
      refine ⟨o1, o2, o3, (show n - 1 ≤ ww_N M e by omega), fun j hj => ?_, fun j y hj hy => ?_⟩
      · rw [hY]
        unfold q_del
        by_cases c : j < i
        · rw [if_neg (fun z => by omega), if_pos c]; exact o5 j (by omega)
        · rw [if_pos ⟨by omega, hj⟩, if_neg c]; exact o5 (j + 1) (by omega)
      · rw [hY] at hy
        have hj : j < ww_N M e := hj
        by_cases c : i ≤ j ∧ j < n - 1
        · rw [if_pos c] at hy; exact o6 (j + 1) y (by omega) hy
        · rw [if_neg c] at hy; exact o6 j y hj hy
    first | refine ww_aload_n (i := 1) dJx4a65c_fastRemove_b59b0_34 rfl rfl ?_ | refine ww_aload_nQ (i := 1) dJx4a65c_fastRemove_b59b0_34 rfl rfl ?_
    refine ww_aload_n (i := 0) dJx4a65c_fastRemove_b59b0_35 rfl rfl ?_
    refine ww_iload_n (i := 3) dJx4a65c_fastRemove_b59b0_36 rfl rfl ?_
    refine ww_dup_x1 dJx4a65c_fastRemove_b59b0_37 (by first | rfl | exact ww_rf_cat _) (by first | rfl | exact ww_rf_cat _) ?_
    refine ww_putI (f := 2) wf_Jx4a65c_48 wt_0_2 dJx4a65c_fastRemove_b59b0_38 rfl rfl (show ww_is _ _ 0 from ha).1 (show ww_is _ _ 0 from ha).2 rfl rfl ?_
    refine ww_null dJx4a65c_fastRemove_b59b0_41 ?_
    -- at 42, locals [0, 1, 2, 3]
    refine ww_aastN dJx4a65c_fastRemove_b59b0_42 o1.1 o1.2 rfl (by show n - 1 < ww_N M e; omega) (by show ww_N M e < _; omega) ?_
    exact ww_vreturn dJx4a65c_fastRemove_b59b0_43 rfl ⟨rfl, ww_ls_cut ha he ho2, ww_fr_sY (ww_fr_sI (ww_fr_cY hf0 (Or.inl rfl)) rfl) (Or.inl rfl)⟩
  · have hin : i = n - 1 := by omega
    have ho2 : ww_ow (ww_sI M 0 a (ww_I M 0 a + 1)) κ e (n - 1) (q_del f i) := by
      refine ⟨o1, o2, o3, (show n - 1 ≤ ww_N M e by omega), fun j hj => ?_, o6⟩
      unfold q_del
      rw [if_pos (by omega)]
      exact o5 j (by omega)
    refine ww_dup dJx4a65c_fastRemove_b59b0_16 (by first | rfl | exact ww_rf_cat _) ?_
    refine ww_istore_n (i := 3) (lv2 := [(0, _), (1, _), (2, _), (3, _)]) dJx4a65c_fastRemove_b59b0_17 rfl (Nat.le_of_ble_eq_true rfl) rfl ?_
    refine ww_iload_n (i := 2) dJx4a65c_fastRemove_b59b0_18 rfl rfl ?_
    refine ww_icmp_le_t (tgt := 34) dJx4a65c_fastRemove_b59b0_19 (by decide) (nI_le (by omega) (by omega)) ?_
    first | refine ww_aload_n (i := 1) dJx4a65c_fastRemove_b59b0_34 rfl rfl ?_ | refine ww_aload_nQ (i := 1) dJx4a65c_fastRemove_b59b0_34 rfl rfl ?_
    refine ww_aload_n (i := 0) dJx4a65c_fastRemove_b59b0_35 rfl rfl ?_
    refine ww_iload_n (i := 3) dJx4a65c_fastRemove_b59b0_36 rfl rfl ?_
    refine ww_dup_x1 dJx4a65c_fastRemove_b59b0_37 (by first | rfl | exact ww_rf_cat _) (by first | rfl | exact ww_rf_cat _) ?_
    refine ww_putI (f := 2) wf_Jx4a65c_48 wt_0_2 dJx4a65c_fastRemove_b59b0_38 rfl rfl (show ww_is _ _ 0 from ha).1 (show ww_is _ _ 0 from ha).2 rfl rfl ?_
    refine ww_null dJx4a65c_fastRemove_b59b0_41 ?_
    -- at 42, locals [0, 1, 2, 3]
    refine ww_aastN dJx4a65c_fastRemove_b59b0_42 o1.1 o1.2 rfl (by show n - 1 < ww_N M e; omega) (by show ww_N M e < _; omega) ?_
    exact ww_vreturn dJx4a65c_fastRemove_b59b0_43 rfl ⟨rfl, ww_ls_cut ha he ho2, ww_fr_sY (ww_fr_sI hf0 rfl) (Or.inl rfl)⟩
set_option maxRecDepth 20000 in
theorem j_remove {r : vw_C} (hl : ww_ls g M κ a e n f) {i : Nat} (hi : i < n) (hr : vwCl[κ]? = some r) (hca : (r.1, "java/lang/Object") ∈ ww_ca) : ww_C g wy_Jx4a65c_remove_915e3 3 0 0 [.ref a, .int (nI i)] M (fun v M' => v = some (.ref (f i)) ∧ ww_ls g M' κ a e (n - 1) (q_del f i) ∧ ww_fr M M' (fun y => y = a) (fun y => y = e)) ww_no := by
  refine ww_ent (by decide +kernel) (Nat.le_of_ble_eq_true rfl) ⟨rfl, rfl, trivial⟩ ?_
  obtain ⟨ha, h2, he, ho⟩ := hl
  have ho : ww_ow M κ e n f := ho.resolve_left (fun z => by omega)
  obtain ⟨o1, o2, o3, o4, o5, o6⟩ := id ho
  have hc := j_check (g := g) (M := M) hi (by omega)
  rw [← h2] at hc
  refine ww_iload_n (i := 1) dJx4a65c_remove_915e3_0 rfl rfl ?_
  refine ww_aload_n (i := 0) dJx4a65c_remove_915e3_1 rfl rfl ?_
  refine ww_getI (f := 2) wf_Jx4a65c_48 dJx4a65c_remove_915e3_2 rfl rfl (show ww_is _ _ 0 from ha).1 (show ww_is _ _ 0 from ha).2 ?_
  refine ww_callS wk_Jx4a65c_118 rfl dJx4a65c_remove_915e3_5 (hc) rfl rfl (by omega) (by omega) (by omega) (by first | exact Nat.le_of_ble_eq_true rfl | (simp [ww_rf_cat, Value.category])) rfl (fun E M9 h9 => h9.elim) (fun v9 M9 h9 => ?_)
  obtain ⟨rfl, rfl⟩ := h9
  refine ww_pop dJx4a65c_remove_915e3_8 (by first | rfl | exact ww_rf_cat _) ?_
  refine ww_aload_n (i := 0) dJx4a65c_remove_915e3_9 rfl rfl ?_
  refine ww_getR (f := 1) wf_Jx4a65c_9 dJx4a65c_remove_915e3_10 rfl rfl (show ww_is _ _ 0 from ha).1 (show ww_is _ _ 0 from ha).2 he ?_
  first | refine ww_astore_n (i := 2) (lv2 := [(0, _), (1, _), (2, _)]) dJx4a65c_remove_915e3_13 rfl (Nat.le_of_ble_eq_true rfl) rfl ?_ | refine ww_astore_nQ (i := 2) (lv2 := [(0, _), (1, _), (2, _)]) dJx4a65c_remove_915e3_13 rfl (Nat.le_of_ble_eq_true rfl) rfl ?_
  refine ww_aload_n (i := 2) dJx4a65c_remove_915e3_14 rfl rfl ?_
  refine ww_iload_n (i := 1) dJx4a65c_remove_915e3_15 rfl rfl ?_
  -- at 16, locals [0, 1, 2]
  refine ww_aald dJx4a65c_remove_915e3_16 o1.1 (Or.inr o1.2) rfl (by omega) (by omega) ?_
  rw [o5 i hi]
  first | refine ww_astore_n (i := 3) (lv2 := [(0, _), (1, _), (2, _), (3, _)]) dJx4a65c_remove_915e3_17 rfl (Nat.le_of_ble_eq_true rfl) rfl ?_ | refine ww_astore_nQ (i := 3) (lv2 := [(0, _), (1, _), (2, _), (3, _)]) dJx4a65c_remove_915e3_17 rfl (Nat.le_of_ble_eq_true rfl) rfl ?_
  refine ww_aload_n (i := 0) dJx4a65c_remove_915e3_18 rfl rfl ?_
  first | refine ww_aload_n (i := 2) dJx4a65c_remove_915e3_19 rfl rfl ?_ | refine ww_aload_nQ (i := 2) dJx4a65c_remove_915e3_19 rfl rfl ?_
  refine ww_iload_n (i := 1) dJx4a65c_remove_915e3_20 rfl rfl ?_
  refine ww_callV (κ := 0) (r := (RJx4a65c, TJx4a65c, 3)) wk_Jx4a65c_144 dJx4a65c_remove_915e3_21 (j_fastRemove ha h2 he ho hi hr hca) rfl rfl (show ww_is _ _ 0 from ha).1 (show ww_is _ _ 0 from ha).2 rfl rfl (by omega) (by omega) (by omega) (by first | exact Nat.le_of_ble_eq_true rfl | (simp [ww_rf_cat, Value.category])) rfl (fun E M9 h9 => h9.elim) (fun v9 M9 h9 => ?_)
  obtain ⟨rfl, k1, k2⟩ := h9
  first | refine ww_aload_n (i := 3) dJx4a65c_remove_915e3_24 rfl rfl ?_ | refine ww_aload_nQ (i := 3) dJx4a65c_remove_915e3_24 rfl rfl ?_
  exact ww_areturn dJx4a65c_remove_915e3_25 rfl (by first | exact Or.inl ⟨_, rfl⟩ | exact Or.inr ⟨_, rfl⟩) (r := some _) rfl ⟨rfl, k1, k2⟩
set_option maxRecDepth 20000 in
theorem j_clear_l (ho : ww_ow M κ e n f) (ha : ww_is M.1 a 0) (h2 : ww_I M 2 a = nI 0) (he : ww_R M 1 a = some e) : ∀ (m i : Nat) (M1 : ww_M), i + m = n → M1.1 = M.1 → ww_I M1 = ww_I M → ww_R M1 = ww_R M → ww_ow M1 κ e 0 f → ww_fr M M1 (fun y => y = a) (fun y => y = e) → ww_A g wy_Jx4a65c_clear_da8c8 1 0 0 M1 27 [(0, .ref a), (1, .ref e), (2, .int (nI n)), (3, .int (nI i))] [] (fun v M' => v = none ∧ ww_ls g M' κ a e 0 f ∧ ww_fr M M' (fun y => y = a) (fun y => y = e)) ww_no
  | 0, i, M1, hm, k1, k2, k3, k4, k5 => by
    have e0 : i = n := by omega
    subst e0
    have o3 := ho.2.2.1
    have o4 := ho.2.2.2.1
    have hl : ww_ls g M1 κ a e 0 f := ⟨by rw [k1]; exact ha, by rw [k2]; exact h2, by rw [k3]; exact he, Or.inr k4⟩
    refine ww_iload_n (i := 3) dJx4a65c_clear_da8c8_27 rfl rfl ?_
    refine ww_iload_n (i := 2) dJx4a65c_clear_da8c8_28 rfl rfl ?_
    refine ww_icmp_ge_t (tgt := 42) dJx4a65c_clear_da8c8_29 (by decide) (nI_le (Nat.le_refl _) (by omega)) ?_
    exact ww_vreturn dJx4a65c_clear_da8c8_42 rfl ⟨rfl, hl, k5⟩
  | m + 1, i, M1, hm, k1, k2, k3, k4, k5 => by
    have o3 := ho.2.2.1
    have o4 := ho.2.2.2.1
    have kN : ww_N M1 = ww_N M := by unfold ww_N; rw [k1]
    refine ww_iload_n (i := 3) dJx4a65c_clear_da8c8_27 rfl rfl ?_
    refine ww_iload_n (i := 2) dJx4a65c_clear_da8c8_28 rfl rfl ?_
    refine ww_icmp_ge_f (tgt := 42) dJx4a65c_clear_da8c8_29 (by decide) (nI_ge (by omega) (by omega)) ?_
    first | refine ww_aload_n (i := 1) dJx4a65c_clear_da8c8_32 rfl rfl ?_ | refine ww_aload_nQ (i := 1) dJx4a65c_clear_da8c8_32 rfl rfl ?_
    refine ww_iload_n (i := 3) dJx4a65c_clear_da8c8_33 rfl rfl ?_
    refine ww_null dJx4a65c_clear_da8c8_34 ?_
    -- at 35, locals [0, 1, 2, 3]
    refine ww_aastN dJx4a65c_clear_da8c8_35 k4.1.1 k4.1.2 rfl (by rw [kN]; omega) (by rw [kN]; omega) ?_
    refine ww_iinc (i := 3) (v := _ + 1) (lv2 := [(0, _), (1, _), (2, _), (3, _)]) dJx4a65c_clear_da8c8_36 rfl (by rfl) (Nat.le_of_ble_eq_true rfl) rfl ?_
    refine ww_goto (tgt := 27) dJx4a65c_clear_da8c8_39 (by decide) ?_
    -- at 27, locals [0, 1, 2, 3]
    rw [nI_1]
    exact j_clear_l ho ha h2 he m (i + 1) _ (by omega) k1 k2 k3 (ww_ow_null k4 (Nat.zero_le _)) (ww_fr_sY k5 (Or.inl rfl))
set_option maxRecDepth 20000 in
theorem j_clear (hl : ww_ls g M κ a e n f) : ww_C g wy_Jx4a65c_clear_da8c8 1 0 0 [.ref a] M (fun v M' => v = none ∧ ww_ls g M' κ a e 0 f ∧ ww_fr M M' (fun y => y = a) (fun y => y = e)) ww_no := by
  refine ww_ent (by decide +kernel) (Nat.le_of_ble_eq_true rfl) ⟨rfl, trivial⟩ ?_
  obtain ⟨ha, h2, he, ho⟩ := hl
  have e2 : ww_I (ww_sI M 0 a (ww_I M 0 a + 1)) 2 a = nI n := (show ww_u2 (ww_I M) 0 a (ww_I M 0 a + 1) 2 a = ww_I M 2 a from ww_u2n (fun z => absurd z.1 (by decide))).trans h2
  refine ww_aload_n (i := 0) dJx4a65c_clear_da8c8_0 rfl rfl ?_
  refine ww_dup dJx4a65c_clear_da8c8_1 (by first | rfl | exact ww_rf_cat _) ?_
  refine ww_getI (f := 0) wf_Jx4a65c_63 dJx4a65c_clear_da8c8_2 rfl rfl (show ww_is _ _ 0 from ha).1 (show ww_is _ _ 0 from ha).2 ?_
  refine ww_iconst (v := 1) dJx4a65c_clear_da8c8_5 (by decide) ?_
  refine ww_iadd dJx4a65c_clear_da8c8_6 ?_
  refine ww_putI (f := 0) wf_Jx4a65c_63 wt_0_0 dJx4a65c_clear_da8c8_7 rfl rfl (show ww_is _ _ 0 from ha).1 (show ww_is _ _ 0 from ha).2 rfl rfl ?_
  refine ww_aload_n (i := 0) dJx4a65c_clear_da8c8_10 rfl rfl ?_
  refine ww_getR (f := 1) wf_Jx4a65c_9 dJx4a65c_clear_da8c8_11 rfl rfl (show ww_is _ _ 0 from ha).1 (show ww_is _ _ 0 from ha).2 he ?_
  first | refine ww_astore_n (i := 1) (lv2 := [(0, _), (1, _)]) dJx4a65c_clear_da8c8_14 rfl (Nat.le_of_ble_eq_true rfl) rfl ?_ | refine ww_astore_nQ (i := 1) (lv2 := [(0, _), (1, _)]) dJx4a65c_clear_da8c8_14 rfl (Nat.le_of_ble_eq_true rfl) rfl ?_
  refine ww_aload_n (i := 0) dJx4a65c_clear_da8c8_15 rfl rfl ?_
  refine ww_getI (f := 2) wf_Jx4a65c_48 dJx4a65c_clear_da8c8_16 rfl rfl (show ww_is _ _ 0 from ha).1 (show ww_is _ _ 0 from ha).2 ?_
  -- at 19, locals [0, 1]
  rw [e2]
  refine ww_istore_n (i := 2) (lv2 := [(0, _), (1, _), (2, _)]) dJx4a65c_clear_da8c8_19 rfl (Nat.le_of_ble_eq_true rfl) rfl ?_
  refine ww_aload_n (i := 0) dJx4a65c_clear_da8c8_20 rfl rfl ?_
  refine ww_iconst (v := 0) dJx4a65c_clear_da8c8_21 (by decide) ?_
  refine ww_dup_x1 dJx4a65c_clear_da8c8_22 (by first | rfl | exact ww_rf_cat _) (by first | rfl | exact ww_rf_cat _) ?_
  refine ww_putI (f := 2) wf_Jx4a65c_48 wt_0_2 dJx4a65c_clear_da8c8_23 rfl rfl (show ww_is _ _ 0 from ha).1 (show ww_is _ _ 0 from ha).2 rfl rfl ?_
  refine ww_istore_n (i := 3) (lv2 := [(0, _), (1, _), (2, _), (3, _)]) dJx4a65c_clear_da8c8_26 rfl (Nat.le_of_ble_eq_true rfl) rfl ?_
  -- at 27, locals [0, 1, 2, 3]
  have e20 : ww_I (ww_sI (ww_sI M 0 a (ww_I M 0 a + 1)) 2 a 0) 2 a = nI 0 := (show ww_u2 (ww_I (ww_sI M 0 a (ww_I M 0 a + 1))) 2 a 0 2 a = 0 from ww_u2s).trans nI_0.symm
  have hf : ww_fr M (ww_sI (ww_sI M 0 a (ww_I M 0 a + 1)) 2 a 0) (fun y => y = a) (fun y => y = e) := ww_fr_sI (ww_fr_sI ww_fr_rf rfl) rfl
  rcases ho with ⟨rfl, rfl⟩ | ho
  · refine ww_iload_n (i := 3) dJx4a65c_clear_da8c8_27 rfl rfl ?_
    refine ww_iload_n (i := 2) dJx4a65c_clear_da8c8_28 rfl rfl ?_
    refine ww_icmp_ge_t (tgt := 42) dJx4a65c_clear_da8c8_29 (by decide) (by decide) ?_
    exact ww_vreturn dJx4a65c_clear_da8c8_42 rfl ⟨rfl, ⟨ha, e20, he, Or.inl ⟨rfl, rfl⟩⟩, hf⟩
  · have ho0 : ww_ow (ww_sI (ww_sI M 0 a (ww_I M 0 a + 1)) 2 a 0) κ e n f := ho
    have hz : ww_ow (ww_sI (ww_sI M 0 a (ww_I M 0 a + 1)) 2 a 0) κ e 0 f := ⟨ho.1, ho.2.1, ho.2.2.1, Nat.zero_le _, fun i hi => by omega, ho.2.2.2.2.2⟩
    have hl := j_clear_l (g := g) ho0 ha e20 he n 0 _ (by omega) rfl rfl rfl hz ww_fr_rf
    rw [nI_0] at hl
    exact ww_A_mono hl (fun v M' h => ⟨h.1, h.2.1, ww_fr_wk (ww_fr_tr hf h.2.2) (fun y z => z.elim id id) (fun y z => z.elim id id)⟩) (fun _ _ h => h)
end WWR
