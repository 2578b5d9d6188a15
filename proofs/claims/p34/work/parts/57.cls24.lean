/-! ===== the log: its events, what they tell ===== -/
/-- the log lg: its events (u, f i, in the list ll), which tell E; its array lh -/
def ww_lo (g : ww_G) (M : ww_M) (lg ll le lh u : Nat) (f : Nat → Nat) (E : Nat → Nat → Int32) : Prop := ww_is M.1 lg 3 ∧ ww_R M 120 lg = some ll ∧ ww_R M 121 lg = some lh ∧ ww_is M.1 lh 9 ∧ ww_N M lh = 60 ∧ u ≤ 512 ∧ ww_ls g M 1 ll le u f ∧ ∀ i, i < u → ww_I M 40 (f i) = E 0 i ∧ ww_I M 41 (f i) = E 1 i ∧ ww_I M 42 (f i) = E 2 i
/-- a move of v -/
def q_mov (E : Nat → Nat → Int32) (v : Int32) (i : Nat) : Prop := E 0 i = v ∧ E 2 i = 0
/-- the j-th so, of m from i on -/
noncomputable def q_fj (P : Nat → Prop) (v : Int32) : Nat → Nat → Nat → Option Nat
  | 0, _, _ => none
  | m + 1, i, j => q_if (P i) (if nI j = v then some i else q_fj P v m (i + 1) (j + 1)) (q_fj P v m (i + 1) j)
def q_ov (f : Nat → Nat) : Option Nat → Option Nat
  | none => none
  | some i => some (f i)
section WWS1
variable {g : ww_G} {M M1 : ww_M} {lg ll le lh u : Nat} {f : Nat → Nat} {E : Nat → Nat → Int32} {v : Int32}
theorem c_mov_t (ho : ww_lo g M lg ll le lh u f E) {i : Nat} (hi : i < u) (h : q_mov E v i) : ww_C g wy_X2_isMoveOf 1 0 0 [.ref (f i), .int v] M (ww_ret (some (.int 1)) M) ww_no := by
  obtain ⟨e1, e2, e3⟩ := ho.2.2.2.2.2.2.2 i hi
  have hc := c_isMoveOf (g := g) (ww_ls_el ho.2.2.2.2.2.2.1 hi) v
  rw [e1, e3, if_pos (show E 0 i = v ∧ E 2 i = 0 from h)] at hc
  exact hc
theorem c_mov_f (ho : ww_lo g M lg ll le lh u f E) {i : Nat} (hi : i < u) (h : ¬ q_mov E v i) : ww_C g wy_X2_isMoveOf 1 0 0 [.ref (f i), .int v] M (ww_ret (some (.int 0)) M) ww_no := by
  obtain ⟨e1, e2, e3⟩ := ho.2.2.2.2.2.2.2 i hi
  have hc := c_isMoveOf (g := g) (ww_ls_el ho.2.2.2.2.2.2.1 hi) v
  rw [e1, e3, if_neg (show ¬ (E 0 i = v ∧ E 2 i = 0) from h)] at hc
  exact hc
set_option maxRecDepth 20000 in
theorem c_movesOf_l (ho : ww_lo g M lg ll le lh u f E) : ∀ m i, i + m = u → ww_A g wy_X2_movesOf 4 0 0 M 4 [(0, .ref lg), (1, .int v), (2, .int (nI (q_cnt (q_mov E v) i))), (3, .int (nI i))] [] (ww_ret (some (.int (nI (q_cnt (q_mov E v) u)))) M) ww_no
  | 0, i, hm => by
    have e0 : i = u := by omega
    subst e0
    have hl := ho.2.2.2.2.2.2.1
    have h8 := ho.2.2.2.2.2.1
    refine ww_iload_n (i := 3) dX2_movesOf_4 rfl rfl ?_
    refine ww_aload_n (i := 0) dX2_movesOf_5 rfl rfl ?_
    refine ww_getR (f := 120) wf_X2_12 dX2_movesOf_6 rfl rfl (show ww_is _ _ 3 from ho.1).1 (show ww_is _ _ 3 from ho.1).2 ho.2.1 ?_
    refine ww_callV (κ := 0) (r := (RJx4a65c, TJx4a65c, 3)) wk_X2_31 dX2_movesOf_9 (l_size hl) rfl rfl (show ww_is _ _ 0 from hl.1).1 (show ww_is _ _ 0 from hl.1).2 rfl rfl (by omega) (by omega) (by omega) (by first | exact Nat.le_of_ble_eq_true rfl | (simp [ww_rf_cat, Value.category])) rfl (fun E M9 h9 => h9.elim) (fun v9 M9 h9 => ?_)
    obtain ⟨rfl, rfl⟩ := h9
    refine ww_icmp_ge_t (tgt := 42) dX2_movesOf_12 (by decide) (nI_le (Nat.le_refl _) (by omega)) ?_
    refine ww_iload_n (i := 2) dX2_movesOf_42 rfl rfl ?_
    exact ww_ireturn dX2_movesOf_43 rfl (by first | rfl | exact ww_b_nar) ⟨rfl, rfl⟩
  | m + 1, i, hm => by
    have hl := ho.2.2.2.2.2.2.1
    have h8 := ho.2.2.2.2.2.1
    have he1 := ww_ls_el hl (i := i) (by omega)
    have hcl := c_movesOf_l ho m (i + 1) (by omega)
    by_cases c : q_mov E v i
    · rw [q_cnt_s c] at hcl
      refine ww_iload_n (i := 3) dX2_movesOf_4 rfl rfl ?_
      refine ww_aload_n (i := 0) dX2_movesOf_5 rfl rfl ?_
      refine ww_getR (f := 120) wf_X2_12 dX2_movesOf_6 rfl rfl (show ww_is _ _ 3 from ho.1).1 (show ww_is _ _ 3 from ho.1).2 ho.2.1 ?_
      refine ww_callV (κ := 0) (r := (RJx4a65c, TJx4a65c, 3)) wk_X2_31 dX2_movesOf_9 (l_size hl) rfl rfl (show ww_is _ _ 0 from hl.1).1 (show ww_is _ _ 0 from hl.1).2 rfl rfl (by omega) (by omega) (by omega) (by first | exact Nat.le_of_ble_eq_true rfl | (simp [ww_rf_cat, Value.category])) rfl (fun E M9 h9 => h9.elim) (fun v9 M9 h9 => ?_)
      obtain ⟨rfl, rfl⟩ := h9
      refine ww_icmp_ge_f (tgt := 42) dX2_movesOf_12 (by decide) (nI_ge (by omega) (by omega)) ?_
      refine ww_aload_n (i := 0) dX2_movesOf_15 rfl rfl ?_
      refine ww_getR (f := 120) wf_X2_12 dX2_movesOf_16 rfl rfl (show ww_is _ _ 3 from ho.1).1 (show ww_is _ _ 3 from ho.1).2 ho.2.1 ?_
      refine ww_iload_n (i := 3) dX2_movesOf_19 rfl rfl ?_
      refine ww_callV (κ := 0) (r := (RJx4a65c, TJx4a65c, 3)) wk_X2_38 dX2_movesOf_20 (l_get hl (by omega)) rfl rfl (show ww_is _ _ 0 from hl.1).1 (show ww_is _ _ 0 from hl.1).2 rfl rfl (by omega) (by omega) (by omega) (by first | exact Nat.le_of_ble_eq_true rfl | (simp [ww_rf_cat, Value.category])) rfl (fun E M9 h9 => h9.elim) (fun v9 M9 h9 => ?_)
      obtain ⟨rfl, rfl⟩ := h9
      refine ww_cast (nm := "") (κ := 1) (r := (RX0, TX0, 3)) dX2_movesOf_23 (show ww_is _ _ 1 from he1).1 (show ww_is _ _ 1 from he1).2 rfl wm_487 ?_
      refine ww_iload_n (i := 1) dX2_movesOf_26 rfl rfl ?_
      refine ww_callS wk_X2_42 rfl dX2_movesOf_27 (c_mov_t ho (by omega) c) rfl rfl (by omega) (by omega) (by omega) (by first | exact Nat.le_of_ble_eq_true rfl | (simp [ww_rf_cat, Value.category])) rfl (fun E M9 h9 => h9.elim) (fun v9 M9 h9 => ?_)
      obtain ⟨rfl, rfl⟩ := h9
      refine ww_if_eq_f (tgt := 36) dX2_movesOf_30 (by decide) (by decide) ?_
      refine ww_iinc (i := 2) (v := _ + 1) (lv2 := [(0, _), (1, _), (2, _), (3, _)]) dX2_movesOf_33 rfl (by rfl) (Nat.le_of_ble_eq_true rfl) rfl ?_
      refine ww_iinc (i := 3) (v := _ + 1) (lv2 := [(0, _), (1, _), (2, _), (3, _)]) dX2_movesOf_36 rfl (by rfl) (Nat.le_of_ble_eq_true rfl) rfl ?_
      refine ww_goto (tgt := 4) dX2_movesOf_39 (by decide) ?_
      -- at 4, locals [0, 1, 2, 3]
      rw [nI_1, nI_1]
      exact hcl
    · rw [q_cnt_n c] at hcl
      refine ww_iload_n (i := 3) dX2_movesOf_4 rfl rfl ?_
      refine ww_aload_n (i := 0) dX2_movesOf_5 rfl rfl ?_
      refine ww_getR (f := 120) wf_X2_12 dX2_movesOf_6 rfl rfl (show ww_is _ _ 3 from ho.1).1 (show ww_is _ _ 3 from ho.1).2 ho.2.1 ?_
      refine ww_callV (κ := 0) (r := (RJx4a65c, TJx4a65c, 3)) wk_X2_31 dX2_movesOf_9 (l_size hl) rfl rfl (show ww_is _ _ 0 from hl.1).1 (show ww_is _ _ 0 from hl.1).2 rfl rfl (by omega) (by omega) (by omega) (by first | exact Nat.le_of_ble_eq_true rfl | (simp [ww_rf_cat, Value.category])) rfl (fun E M9 h9 => h9.elim) (fun v9 M9 h9 => ?_)
      obtain ⟨rfl, rfl⟩ := h9
      refine ww_icmp_ge_f (tgt := 42) dX2_movesOf_12 (by decide) (nI_ge (by omega) (by omega)) ?_
      refine ww_aload_n (i := 0) dX2_movesOf_15 rfl rfl ?_
      refine ww_getR (f := 120) wf_X2_12 dX2_movesOf_16 rfl rfl (show ww_is _ _ 3 from ho.1).1 (show ww_is _ _ 3 from ho.1).2 ho.2.1 ?_
      refine ww_iload_n (i := 3) dX2_movesOf_19 rfl rfl ?_
      refine ww_callV (κ := 0) (r := (RJx4a65c, TJx4a65c, 3)) wk_X2_38 dX2_movesOf_20 (l_get hl (by omega)) rfl rfl (show ww_is _ _ 0 from hl.1).1 (show ww_is _ _ 0 from hl.1).2 rfl rfl (by omega) (by omega) (by omega) (by first | exact Nat.le_of_ble_eq_true rfl | (simp [ww_rf_cat, Value.category])) rfl (fun E M9 h9 => h9.elim) (fun v9 M9 h9 => ?_)
      obtain ⟨rfl, rfl⟩ := h9
      refine ww_cast (nm := "") (κ := 1) (r := (RX0, TX0, 3)) dX2_movesOf_23 (show ww_is _ _ 1 from he1).1 (show ww_is _ _ 1 from he1).2 rfl wm_487 ?_
      refine ww_iload_n (i := 1) dX2_movesOf_26 rfl rfl ?_
      refine ww_callS wk_X2_42 rfl dX2_movesOf_27 (c_mov_f ho (by omega) c) rfl rfl (by omega) (by omega) (by omega) (by first | exact Nat.le_of_ble_eq_true rfl | (simp [ww_rf_cat, Value.category])) rfl (fun E M9 h9 => h9.elim) (fun v9 M9 h9 => ?_)
      obtain ⟨rfl, rfl⟩ := h9
      refine ww_if_eq_t (tgt := 36) dX2_movesOf_30 (by decide) (by decide) ?_
      refine ww_iinc (i := 3) (v := _ + 1) (lv2 := [(0, _), (1, _), (2, _), (3, _)]) dX2_movesOf_36 rfl (by rfl) (Nat.le_of_ble_eq_true rfl) rfl ?_
      refine ww_goto (tgt := 4) dX2_movesOf_39 (by decide) ?_
      -- at 4, locals [0, 1, 2, 3]
      rw [nI_1]
      exact hcl
set_option maxRecDepth 20000 in
theorem c_movesOf (ho : ww_lo g M lg ll le lh u f E) : ww_C g wy_X2_movesOf 4 0 0 [.ref lg, .int v] M (ww_ret (some (.int (nI (q_cnt (q_mov E v) u)))) M) ww_no := by
  refine ww_ent (by decide +kernel) (Nat.le_of_ble_eq_true rfl) ⟨rfl, rfl, trivial⟩ ?_
  have hl := c_movesOf_l (g := g) (v := v) ho u 0 (by omega)
  rw [show q_cnt (q_mov E v) 0 = 0 from rfl, nI_0] at hl
  refine ww_iconst (v := 0) dX2_movesOf_0 (by decide) ?_
  refine ww_istore_n (i := 2) (lv2 := [(0, _), (1, _), (2, _)]) dX2_movesOf_1 rfl (Nat.le_of_ble_eq_true rfl) rfl ?_
  refine ww_iconst (v := 0) dX2_movesOf_2 (by decide) ?_
  refine ww_istore_n (i := 3) (lv2 := [(0, _), (1, _), (2, _), (3, _)]) dX2_movesOf_3 rfl (Nat.le_of_ble_eq_true rfl) rfl ?_
  -- at 4, locals [0, 1, 2, 3]
  exact hl
set_option maxRecDepth 20000 in
theorem c_moveOf_l (ho : ww_lo g M lg ll le lh u f E) (k : Int32) : ∀ m i j, i + m = u → j ≤ i → ww_A g wy_X2_moveOf 4 0 0 M 5 [(0, .ref lg), (1, .int v), (2, .int k), (3, .int (nI j)), (4, .int (nI i))] [] (ww_ret (some (va_rf (q_ov f (q_fj (q_mov E v) k m i j)))) M) ww_no
  | 0, i, j, hm, hj => by
    have e0 : i = u := by omega
    subst e0
    have hl := ho.2.2.2.2.2.2.1
    have h8 := ho.2.2.2.2.2.1
    refine ww_iload (i := 4) dX2_moveOf_5 rfl ?_
    refine ww_aload_n (i := 0) dX2_moveOf_7 rfl rfl ?_
    refine ww_getR (f := 120) wf_X2_12 dX2_moveOf_8 rfl rfl (show ww_is _ _ 3 from ho.1).1 (show ww_is _ _ 3 from ho.1).2 ho.2.1 ?_
    refine ww_callV (κ := 0) (r := (RJx4a65c, TJx4a65c, 3)) wk_X2_31 dX2_moveOf_11 (l_size hl) rfl rfl (show ww_is _ _ 0 from hl.1).1 (show ww_is _ _ 0 from hl.1).2 rfl rfl (by omega) (by omega) (by omega) (by first | exact Nat.le_of_ble_eq_true rfl | (simp [ww_rf_cat, Value.category])) rfl (fun E M9 h9 => h9.elim) (fun v9 M9 h9 => ?_)
    obtain ⟨rfl, rfl⟩ := h9
    refine ww_icmp_ge_t (tgt := 57) dX2_moveOf_14 (by decide) (nI_le (Nat.le_refl _) (by omega)) ?_
    refine ww_null dX2_moveOf_57 ?_
    exact ww_areturn dX2_moveOf_58 rfl (by first | exact Or.inl ⟨_, rfl⟩ | exact Or.inr ⟨_, rfl⟩) (r := none) rfl ⟨rfl, rfl⟩
  | m + 1, i, j, hm, hj => by
    have hl := ho.2.2.2.2.2.2.1
    have h8 := ho.2.2.2.2.2.1
    have he1 := ww_ls_el hl (i := i) (by omega)
    unfold q_fj
    by_cases c : q_mov E v i
    · rw [q_if_t c]
      by_cases c2 : nI j = k
      · rw [if_pos c2]
        refine ww_iload (i := 4) dX2_moveOf_5 rfl ?_
        refine ww_aload_n (i := 0) dX2_moveOf_7 rfl rfl ?_
        refine ww_getR (f := 120) wf_X2_12 dX2_moveOf_8 rfl rfl (show ww_is _ _ 3 from ho.1).1 (show ww_is _ _ 3 from ho.1).2 ho.2.1 ?_
        refine ww_callV (κ := 0) (r := (RJx4a65c, TJx4a65c, 3)) wk_X2_31 dX2_moveOf_11 (l_size hl) rfl rfl (show ww_is _ _ 0 from hl.1).1 (show ww_is _ _ 0 from hl.1).2 rfl rfl (by omega) (by omega) (by omega) (by first | exact Nat.le_of_ble_eq_true rfl | (simp [ww_rf_cat, Value.category])) rfl (fun E M9 h9 => h9.elim) (fun v9 M9 h9 => ?_)
        obtain ⟨rfl, rfl⟩ := h9
        refine ww_icmp_ge_f (tgt := 57) dX2_moveOf_14 (by decide) (nI_ge (by omega) (by omega)) ?_
        refine ww_aload_n (i := 0) dX2_moveOf_17 rfl rfl ?_
        refine ww_getR (f := 120) wf_X2_12 dX2_moveOf_18 rfl rfl (show ww_is _ _ 3 from ho.1).1 (show ww_is _ _ 3 from ho.1).2 ho.2.1 ?_
        refine ww_iload (i := 4) dX2_moveOf_21 rfl ?_
        refine ww_callV (κ := 0) (r := (RJx4a65c, TJx4a65c, 3)) wk_X2_38 dX2_moveOf_23 (l_get hl (by omega)) rfl rfl (show ww_is _ _ 0 from hl.1).1 (show ww_is _ _ 0 from hl.1).2 rfl rfl (by omega) (by omega) (by omega) (by first | exact Nat.le_of_ble_eq_true rfl | (simp [ww_rf_cat, Value.category])) rfl (fun E M9 h9 => h9.elim) (fun v9 M9 h9 => ?_)
        obtain ⟨rfl, rfl⟩ := h9
        refine ww_cast (nm := "") (κ := 1) (r := (RX0, TX0, 3)) dX2_moveOf_26 (show ww_is _ _ 1 from he1).1 (show ww_is _ _ 1 from he1).2 rfl wm_487 ?_
        first | refine ww_astore (i := 5) (lv2 := [(0, _), (1, _), (2, _), (3, _), (4, _), (5, _)]) dX2_moveOf_29 (Nat.le_of_ble_eq_true rfl) rfl ?_ | refine ww_astoreQ (i := 5) (lv2 := [(0, _), (1, _), (2, _), (3, _), (4, _), (5, _)]) dX2_moveOf_29 (Nat.le_of_ble_eq_true rfl) rfl ?_
        refine ww_aload (i := 5) dX2_moveOf_31 rfl ?_
        refine ww_iload_n (i := 1) dX2_moveOf_33 rfl rfl ?_
        refine ww_callS wk_X2_42 rfl dX2_moveOf_34 (c_mov_t ho (by omega) c) rfl rfl (by omega) (by omega) (by omega) (by first | exact Nat.le_of_ble_eq_true rfl | (simp [ww_rf_cat, Value.category])) rfl (fun E M9 h9 => h9.elim) (fun v9 M9 h9 => ?_)
        obtain ⟨rfl, rfl⟩ := h9
        refine ww_if_eq_f (tgt := 51) dX2_moveOf_37 (by decide) (by decide) ?_
        refine ww_iload_n (i := 3) dX2_moveOf_40 rfl rfl ?_
        refine ww_iload_n (i := 2) dX2_moveOf_41 rfl rfl ?_
        refine ww_icmp_ne_f (tgt := 48) dX2_moveOf_42 (by decide) c2 ?_
        refine ww_aload (i := 5) dX2_moveOf_45 rfl ?_
        exact ww_areturn dX2_moveOf_47 rfl (by first | exact Or.inl ⟨_, rfl⟩ | exact Or.inr ⟨_, rfl⟩) (r := some _) rfl ⟨rfl, rfl⟩
      · rw [if_neg c2]
        have hcl := c_moveOf_l ho k m (i + 1) (j + 1) (by omega) (by omega)
        refine ww_iload (i := 4) dX2_moveOf_5 rfl ?_
        refine ww_aload_n (i := 0) dX2_moveOf_7 rfl rfl ?_
        refine ww_getR (f := 120) wf_X2_12 dX2_moveOf_8 rfl rfl (show ww_is _ _ 3 from ho.1).1 (show ww_is _ _ 3 from ho.1).2 ho.2.1 ?_
        refine ww_callV (κ := 0) (r := (RJx4a65c, TJx4a65c, 3)) wk_X2_31 dX2_moveOf_11 (l_size hl) rfl rfl (show ww_is _ _ 0 from hl.1).1 (show ww_is _ _ 0 from hl.1).2 rfl rfl (by omega) (by omega) (by omega) (by first | exact Nat.le_of_ble_eq_true rfl | (simp [ww_rf_cat, Value.category])) rfl (fun E M9 h9 => h9.elim) (fun v9 M9 h9 => ?_)
        obtain ⟨rfl, rfl⟩ := h9
        refine ww_icmp_ge_f (tgt := 57) dX2_moveOf_14 (by decide) (nI_ge (by omega) (by omega)) ?_
        refine ww_aload_n (i := 0) dX2_moveOf_17 rfl rfl ?_
        refine ww_getR (f := 120) wf_X2_12 dX2_moveOf_18 rfl rfl (show ww_is _ _ 3 from ho.1).1 (show ww_is _ _ 3 from ho.1).2 ho.2.1 ?_
        refine ww_iload (i := 4) dX2_moveOf_21 rfl ?_
        refine ww_callV (κ := 0) (r := (RJx4a65c, TJx4a65c, 3)) wk_X2_38 dX2_moveOf_23 (l_get hl (by omega)) rfl rfl (show ww_is _ _ 0 from hl.1).1 (show ww_is _ _ 0 from hl.1).2 rfl rfl (by omega) (by omega) (by omega) (by first | exact Nat.le_of_ble_eq_true rfl | (simp [ww_rf_cat, Value.category])) rfl (fun E M9 h9 => h9.elim) (fun v9 M9 h9 => ?_)
        obtain ⟨rfl, rfl⟩ := h9
        refine ww_cast (nm := "") (κ := 1) (r := (RX0, TX0, 3)) dX2_moveOf_26 (show ww_is _ _ 1 from he1).1 (show ww_is _ _ 1 from he1).2 rfl wm_487 ?_
        first | refine ww_astore (i := 5) (lv2 := [(0, _), (1, _), (2, _), (3, _), (4, _), (5, _)]) dX2_moveOf_29 (Nat.le_of_ble_eq_true rfl) rfl ?_ | refine ww_astoreQ (i := 5) (lv2 := [(0, _), (1, _), (2, _), (3, _), (4, _), (5, _)]) dX2_moveOf_29 (Nat.le_of_ble_eq_true rfl) rfl ?_
        refine ww_aload (i := 5) dX2_moveOf_31 rfl ?_
        refine ww_iload_n (i := 1) dX2_moveOf_33 rfl rfl ?_
        refine ww_callS wk_X2_42 rfl dX2_moveOf_34 (c_mov_t ho (by omega) c) rfl rfl (by omega) (by omega) (by omega) (by first | exact Nat.le_of_ble_eq_true rfl | (simp [ww_rf_cat, Value.category])) rfl (fun E M9 h9 => h9.elim) (fun v9 M9 h9 => ?_)
        obtain ⟨rfl, rfl⟩ := h9
        refine ww_if_eq_f (tgt := 51) dX2_moveOf_37 (by decide) (by decide) ?_
        refine ww_iload_n (i := 3) dX2_moveOf_40 rfl rfl ?_
        refine ww_iload_n (i := 2) dX2_moveOf_41 rfl rfl ?_
        refine ww_icmp_ne_t (tgt := 48) dX2_moveOf_42 (by decide) c2 ?_
        refine ww_iinc (i := 3) (v := _ + 1) (lv2 := [(0, _), (1, _), (2, _), (3, _), (4, _), (5, _)]) dX2_moveOf_48 rfl (by rfl) (Nat.le_of_ble_eq_true rfl) rfl ?_
        refine ww_iinc (i := 4) (v := _ + 1) (lv2 := [(0, _), (1, _), (2, _), (3, _), (4, _), (5, _)]) dX2_moveOf_51 rfl (by rfl) (Nat.le_of_ble_eq_true rfl) rfl ?_
        refine ww_goto (tgt := 5) dX2_moveOf_54 (by decide) ?_
        -- at 5, locals [0, 1, 2, 3, 4, 5]
        rw [nI_1, nI_1]
        exact ww_subk hcl ⟨rfl, rfl, rfl, rfl, rfl, trivial⟩
    · rw [q_if_f c]
      have hcl := c_moveOf_l ho k m (i + 1) j (by omega) (by omega)
      refine ww_iload (i := 4) dX2_moveOf_5 rfl ?_
      refine ww_aload_n (i := 0) dX2_moveOf_7 rfl rfl ?_
      refine ww_getR (f := 120) wf_X2_12 dX2_moveOf_8 rfl rfl (show ww_is _ _ 3 from ho.1).1 (show ww_is _ _ 3 from ho.1).2 ho.2.1 ?_
      refine ww_callV (κ := 0) (r := (RJx4a65c, TJx4a65c, 3)) wk_X2_31 dX2_moveOf_11 (l_size hl) rfl rfl (show ww_is _ _ 0 from hl.1).1 (show ww_is _ _ 0 from hl.1).2 rfl rfl (by omega) (by omega) (by omega) (by first | exact Nat.le_of_ble_eq_true rfl | (simp [ww_rf_cat, Value.category])) rfl (fun E M9 h9 => h9.elim) (fun v9 M9 h9 => ?_)
      obtain ⟨rfl, rfl⟩ := h9
      refine ww_icmp_ge_f (tgt := 57) dX2_moveOf_14 (by decide) (nI_ge (by omega) (by omega)) ?_
      refine ww_aload_n (i := 0) dX2_moveOf_17 rfl rfl ?_
      refine ww_getR (f := 120) wf_X2_12 dX2_moveOf_18 rfl rfl (show ww_is _ _ 3 from ho.1).1 (show ww_is _ _ 3 from ho.1).2 ho.2.1 ?_
      refine ww_iload (i := 4) dX2_moveOf_21 rfl ?_
      refine ww_callV (κ := 0) (r := (RJx4a65c, TJx4a65c, 3)) wk_X2_38 dX2_moveOf_23 (l_get hl (by omega)) rfl rfl (show ww_is _ _ 0 from hl.1).1 (show ww_is _ _ 0 from hl.1).2 rfl rfl (by omega) (by omega) (by omega) (by first | exact Nat.le_of_ble_eq_true rfl | (simp [ww_rf_cat, Value.category])) rfl (fun E M9 h9 => h9.elim) (fun v9 M9 h9 => ?_)
      obtain ⟨rfl, rfl⟩ := h9
      refine ww_cast (nm := "") (κ := 1) (r := (RX0, TX0, 3)) dX2_moveOf_26 (show ww_is _ _ 1 from he1).1 (show ww_is _ _ 1 from he1).2 rfl wm_487 ?_
      first | refine ww_astore (i := 5) (lv2 := [(0, _), (1, _), (2, _), (3, _), (4, _), (5, _)]) dX2_moveOf_29 (Nat.le_of_ble_eq_true rfl) rfl ?_ | refine ww_astoreQ (i := 5) (lv2 := [(0, _), (1, _), (2, _), (3, _), (4, _), (5, _)]) dX2_moveOf_29 (Nat.le_of_ble_eq_true rfl) rfl ?_
      refine ww_aload (i := 5) dX2_moveOf_31 rfl ?_
      refine ww_iload_n (i := 1) dX2_moveOf_33 rfl rfl ?_
      refine ww_callS wk_X2_42 rfl dX2_moveOf_34 (c_mov_f ho (by omega) c) rfl rfl (by omega) (by omega) (by omega) (by first | exact Nat.le_of_ble_eq_true rfl | (simp [ww_rf_cat, Value.category])) rfl (fun E M9 h9 => h9.elim) (fun v9 M9 h9 => ?_)
      obtain ⟨rfl, rfl⟩ := h9
      refine ww_if_eq_t (tgt := 51) dX2_moveOf_37 (by decide) (by decide) ?_
      refine ww_iinc (i := 4) (v := _ + 1) (lv2 := [(0, _), (1, _), (2, _), (3, _), (4, _), (5, _)]) dX2_moveOf_51 rfl (by rfl) (Nat.le_of_ble_eq_true rfl) rfl ?_
      refine ww_goto (tgt := 5) dX2_moveOf_54 (by decide) ?_
      -- at 5, locals [0, 1, 2, 3, 4, 5]
      rw [nI_1]
      exact ww_subk hcl ⟨rfl, rfl, rfl, rfl, rfl, trivial⟩
set_option maxRecDepth 20000 in
theorem c_moveOf (ho : ww_lo g M lg ll le lh u f E) (k : Int32) : ww_C g wy_X2_moveOf 4 0 0 [.ref lg, .int v, .int k] M (ww_ret (some (va_rf (q_ov f (q_fj (q_mov E v) k u 0 0)))) M) ww_no := by
  refine ww_ent (by decide +kernel) (Nat.le_of_ble_eq_true rfl) ⟨rfl, rfl, rfl, trivial⟩ ?_
  have hl := c_moveOf_l (g := g) (v := v) ho k u 0 0 (by omega) (by omega)
  rw [nI_0] at hl
  refine ww_iconst (v := 0) dX2_moveOf_0 (by decide) ?_
  refine ww_istore_n (i := 3) (lv2 := [(0, _), (1, _), (2, _), (3, _)]) dX2_moveOf_1 rfl (Nat.le_of_ble_eq_true rfl) rfl ?_
  refine ww_iconst (v := 0) dX2_moveOf_2 (by decide) ?_
  refine ww_istore (i := 4) (lv2 := [(0, _), (1, _), (2, _), (3, _), (4, _)]) dX2_moveOf_3 (Nat.le_of_ble_eq_true rfl) rfl ?_
  -- at 5, locals [0, 1, 2, 3, 4]
  exact hl
end WWS1
/-! the lives anew -/
/-- the hosts as the first i events leave them -/
noncomputable def q_rH (E : Nat → Nat → Int32) : Nat → Nat → Int32
  | 0 => fun _ => -1
  | i + 1 => if 0 < E 2 i then q_rH E i else q_up1 (q_rH E i) (E 0 i).toNatClampNeg (E 1 i)
/-- what p has run by them -/
noncomputable def q_rL (E : Nat → Nat → Int32) (p : Nat) : Nat → Int32
  | 0 => 0
  | i + 1 => if 0 < E 2 i then (if nI (q_hd (q_rH E i) 5 p) = E 0 i then q_rL E p i + E 2 i else q_rL E p i) else q_rL E p i
/-- the events are in order -/
def q_okE (E : Nat → Nat → Int32) (u : Nat) : Prop := ∀ i, i < u → (∃ p, p < 60 ∧ E 0 i = nI p) ∧ (E 1 i = -1 ∨ E 1 i = -2 ∨ ∃ q, q < 60 ∧ E 1 i = nI q)
theorem q_rH_ok {E : Nat → Nat → Int32} {u : Nat} (h : q_okE E u) : ∀ i, i ≤ u → ∀ j, q_rH E i j < 0 ∨ ∃ q, q < 60 ∧ q_rH E i j = nI q
  | 0, _, j => Or.inl (show (-1 : Int32) < 0 by decide)
  | i + 1, hi, j => by
    have ih := q_rH_ok h i (by omega)
    unfold q_rH
    by_cases c : 0 < E 2 i
    · rw [if_pos c]; exact ih j
    · rw [if_neg c]
      unfold q_up1
      by_cases e : j = (E 0 i).toNatClampNeg
      · rw [if_pos e]
        rcases (h i (by omega)).2 with z | z | z
        · left; rw [z]; decide
        · left; rw [z]; decide
        · exact Or.inr z
      · rw [if_neg e]; exact ih j
theorem q_rH_lt {E : Nat → Nat → Int32} {u : Nat} (h : q_okE E u) {i : Nat} (hi : i ≤ u) : ∀ k p, p < 60 → q_hd (q_rH E i) k p < 60
  | 0, p, hp => hp
  | k + 1, p, hp => by
    rcases q_rH_ok h i hi p with z | ⟨q, hq, e⟩
    · rw [q_hd_neg z]; exact hp
    · rw [q_hd_pos e (by omega)]; exact q_rH_lt h hi k q hq
section WWS2
variable {g : ww_G} {M M1 : ww_M} {lg ll le lh u : Nat} {f : Nat → Nat} {E : Nat → Nat → Int32} {v : Int32} {F : Nat → Int32}
theorem ww_lo_cX (ho : ww_lo g M lg ll le lh u f E) : ww_lo g (ww_cX M lh F) lg ll le lh u f E := ho
set_option maxRecDepth 20000 in
theorem c_lisPart (ho : ww_lo g M lg ll le lh u f E) {p : Nat} (hp : p < 60) : ww_C g wy_X2_isPart 1 0 0 [.ref lg, .int (nI p)] M (ww_ret (some (.int 1)) M) ww_no := by
  refine ww_ent (by decide +kernel) (Nat.le_of_ble_eq_true rfl) ⟨rfl, rfl, trivial⟩ ?_
  have e9 : ww_K M lh = 9 := ho.2.2.2.1.2
  have e60 : ww_N M lh = 60 := ho.2.2.2.2.1
  refine ww_iload_n (i := 1) dX2_isPart_0 rfl rfl ?_
  refine ww_if_lt_f (tgt := 17) dX2_isPart_1 (by decide) (nI_pos (by omega)) ?_
  refine ww_iload_n (i := 1) dX2_isPart_4 rfl rfl ?_
  refine ww_aload_n (i := 0) dX2_isPart_5 rfl rfl ?_
  refine ww_getR (f := 121) wf_X2_18 dX2_isPart_6 rfl rfl (show ww_is _ _ 3 from ho.1).1 (show ww_is _ _ 3 from ho.1).2 ho.2.2.1 ?_
  -- at 9, locals [0, 1]
  refine ww_alen dX2_isPart_9 ho.2.2.2.1.1 (by rw [e9]; decide) (by rw [e9]; decide) ?_
  rw [e60]
  refine ww_icmp_ge_f (tgt := 17) dX2_isPart_10 (by decide) (nI_ge hp (by decide)) ?_
  refine ww_iconst (v := 1) dX2_isPart_13 (by decide) ?_
  refine ww_goto (tgt := 18) dX2_isPart_14 (by decide) ?_
  exact ww_ireturn dX2_isPart_18 rfl (by first | rfl | exact ww_b_nar) ⟨rfl, rfl⟩
set_option maxRecDepth 20000 in
set_option maxHeartbeats 4000000 in
theorem c_topThen_l (ho : ww_lo g M lg ll le lh u f E) {H : Nat → Int32} (hX : ∀ j, j < 60 → ww_X M lh j = H j) (hH : ∀ j, H j < 0 ∨ ∃ q, q < 60 ∧ H j = nI q) {p0 : Nat} : ∀ m k p, k + m = 5 → p < 60 → ww_A g wy_X2_topThen 2 0 0 M 4 [(0, .ref lg), (1, .int (nI p0)), (2, .int (nI p)), (3, .int (nI k))] [] (ww_ret (some (.int (nI (q_hd H m p)))) M) ww_no
  | 0, k, p, hm, hp => by
    have e0 : k = 5 := by omega
    subst e0
    refine ww_iload_n (i := 3) dX2_topThen_4 rfl rfl ?_
    refine ww_iconst (v := 4) dX2_topThen_5 (by decide) ?_
    refine ww_icmp_gt_t (tgt := 39) dX2_topThen_6 (by decide) (by decide) ?_
    refine ww_iload_n (i := 2) dX2_topThen_39 rfl rfl ?_
    exact ww_ireturn dX2_topThen_40 rfl (by first | rfl | exact ww_b_nar) ⟨rfl, rfl⟩
  | m + 1, k, p, hm, hp => by
    have hk4 : ¬ (4 : Int32) < nI k := nI_nlt (a := 4) (b := k) (by omega) (by decide)
    have h9 := ho.2.2.2.1
    have e60 : ww_N M lh = 60 := ho.2.2.2.2.1
    have hx := hX p hp
    rcases hH p with z | ⟨q, hq, e⟩
    · rw [q_hd_neg z]
      refine ww_iload_n (i := 3) dX2_topThen_4 rfl rfl ?_
      refine ww_iconst (v := 4) dX2_topThen_5 (by decide) ?_
      refine ww_icmp_gt_f (tgt := 39) dX2_topThen_6 (by decide) hk4 ?_
      refine ww_aload_n (i := 0) dX2_topThen_9 rfl rfl ?_
      refine ww_iload_n (i := 2) dX2_topThen_10 rfl rfl ?_
      refine ww_callV (κ := 3) (r := (RX2, TX2, 2)) wk_X2_57 dX2_topThen_11 (c_lisPart ho hp) rfl rfl (show ww_is _ _ 3 from ho.1).1 (show ww_is _ _ 3 from ho.1).2 rfl rfl (by omega) (by omega) (by omega) (by first | exact Nat.le_of_ble_eq_true rfl | (simp [ww_rf_cat, Value.category])) rfl (fun E M9 h9 => h9.elim) (fun v9 M9 h9 => ?_)
      obtain ⟨rfl, rfl⟩ := h9
      refine ww_if_eq_f (tgt := 39) dX2_topThen_14 (by decide) (by decide) ?_
      refine ww_aload_n (i := 0) dX2_topThen_17 rfl rfl ?_
      refine ww_getR (f := 121) wf_X2_18 dX2_topThen_18 rfl rfl (show ww_is _ _ 3 from ho.1).1 (show ww_is _ _ 3 from ho.1).2 ho.2.2.1 ?_
      refine ww_iload_n (i := 2) dX2_topThen_21 rfl rfl ?_
      -- at 22, locals [0, 1, 2, 3]
      refine ww_iald dX2_topThen_22 h9.1 h9.2 rfl (by rw [e60]; exact hp) (by rw [e60]; decide) ?_
      rw [hx]
      refine ww_if_lt_t (tgt := 39) dX2_topThen_23 (by decide) z ?_
      refine ww_iload_n (i := 2) dX2_topThen_39 rfl rfl ?_
      exact ww_ireturn dX2_topThen_40 rfl (by first | rfl | exact ww_b_nar) ⟨rfl, rfl⟩
    · rw [q_hd_pos e (by omega)]
      refine ww_iload_n (i := 3) dX2_topThen_4 rfl rfl ?_
      refine ww_iconst (v := 4) dX2_topThen_5 (by decide) ?_
      refine ww_icmp_gt_f (tgt := 39) dX2_topThen_6 (by decide) hk4 ?_
      refine ww_aload_n (i := 0) dX2_topThen_9 rfl rfl ?_
      refine ww_iload_n (i := 2) dX2_topThen_10 rfl rfl ?_
      refine ww_callV (κ := 3) (r := (RX2, TX2, 2)) wk_X2_57 dX2_topThen_11 (c_lisPart ho hp) rfl rfl (show ww_is _ _ 3 from ho.1).1 (show ww_is _ _ 3 from ho.1).2 rfl rfl (by omega) (by omega) (by omega) (by first | exact Nat.le_of_ble_eq_true rfl | (simp [ww_rf_cat, Value.category])) rfl (fun E M9 h9 => h9.elim) (fun v9 M9 h9 => ?_)
      obtain ⟨rfl, rfl⟩ := h9
      refine ww_if_eq_f (tgt := 39) dX2_topThen_14 (by decide) (by decide) ?_
      refine ww_aload_n (i := 0) dX2_topThen_17 rfl rfl ?_
      refine ww_getR (f := 121) wf_X2_18 dX2_topThen_18 rfl rfl (show ww_is _ _ 3 from ho.1).1 (show ww_is _ _ 3 from ho.1).2 ho.2.2.1 ?_
      refine ww_iload_n (i := 2) dX2_topThen_21 rfl rfl ?_
      -- at 22, locals [0, 1, 2, 3]
      refine ww_iald dX2_topThen_22 h9.1 h9.2 rfl (by rw [e60]; exact hp) (by rw [e60]; decide) ?_
      rw [hx, e]
      refine ww_if_lt_f (tgt := 39) dX2_topThen_23 (by decide) (nI_pos (by omega)) ?_
      refine ww_aload_n (i := 0) dX2_topThen_26 rfl rfl ?_
      refine ww_getR (f := 121) wf_X2_18 dX2_topThen_27 rfl rfl (show ww_is _ _ 3 from ho.1).1 (show ww_is _ _ 3 from ho.1).2 ho.2.2.1 ?_
      refine ww_iload_n (i := 2) dX2_topThen_30 rfl rfl ?_
      -- at 31, locals [0, 1, 2, 3]
      refine ww_iald dX2_topThen_31 h9.1 h9.2 rfl (by rw [e60]; exact hp) (by rw [e60]; decide) ?_
      rw [hx, e]
      refine ww_istore_n (i := 2) (lv2 := [(0, _), (1, _), (2, _), (3, _)]) dX2_topThen_32 rfl (Nat.le_of_ble_eq_true rfl) rfl ?_
      refine ww_iinc (i := 3) (v := _ + 1) (lv2 := [(0, _), (1, _), (2, _), (3, _)]) dX2_topThen_33 rfl (by rfl) (Nat.le_of_ble_eq_true rfl) rfl ?_
      refine ww_goto (tgt := 4) dX2_topThen_36 (by decide) ?_
      -- at 4, locals [0, 1, 2, 3]
      rw [nI_1]
      exact c_topThen_l ho hX hH m (k + 1) q (by omega) hq
set_option maxRecDepth 20000 in
theorem c_topThen (ho : ww_lo g M lg ll le lh u f E) {H : Nat → Int32} (hX : ∀ j, j < 60 → ww_X M lh j = H j) (hH : ∀ j, H j < 0 ∨ ∃ q, q < 60 ∧ H j = nI q) {p : Nat} (hp : p < 60) : ww_C g wy_X2_topThen 2 0 0 [.ref lg, .int (nI p)] M (ww_ret (some (.int (nI (q_hd H 5 p)))) M) ww_no := by
  refine ww_ent (by decide +kernel) (Nat.le_of_ble_eq_true rfl) ⟨rfl, rfl, trivial⟩ ?_
  have hl := c_topThen_l (g := g) ho hX hH (p0 := p) 5 0 p (by omega) hp
  rw [nI_0] at hl
  refine ww_iload_n (i := 1) dX2_topThen_0 rfl rfl ?_
  refine ww_istore_n (i := 2) (lv2 := [(0, _), (1, _), (2, _)]) dX2_topThen_1 rfl (Nat.le_of_ble_eq_true rfl) rfl ?_
  refine ww_iconst (v := 0) dX2_topThen_2 (by decide) ?_
  refine ww_istore_n (i := 3) (lv2 := [(0, _), (1, _), (2, _), (3, _)]) dX2_topThen_3 rfl (Nat.le_of_ble_eq_true rfl) rfl ?_
  -- at 4, locals [0, 1, 2, 3]
  exact hl
end WWS2
