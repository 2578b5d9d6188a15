/-! ===== lists once more; the yard's lists ===== -/
section WWC7
variable {g : ww_G} {M M1 : ww_M} {a b e n w y wl we yb κ : Nat} {f P : Nat → Nat} {v : Int32}
theorem ww_ls_ow (hl : ww_ls g M κ a e n f) (h : 0 < n) : ww_ow M κ e n f := hl.2.2.2.resolve_left (fun z => by omega)
theorem ww_ls_el (hl : ww_ls g M κ a e n f) {i : Nat} (hi : i < n) : ww_is M.1 (f i) κ := by
  obtain ⟨o1, o2, o3, o4, o5, o6⟩ := ww_ls_ow hl (by omega)
  exact o6 i (f i) (by omega) (o5 i hi)
theorem l_get (hl : ww_ls g M κ a e n f) {i : Nat} (hi : i < n) : ww_C g wy_Jx4a65c_get_915e3 3 0 0 [.ref a, .int (nI i)] M (ww_ret (some (.ref (f i))) M) ww_no := by
  obtain ⟨o1, o2, o3, o4, o5, o6⟩ := ww_ls_ow hl (by omega)
  exact j_get hl.1 hl.2.2.1 o1 (by omega) hl.2.1 o4 hi (o5 i hi)
theorem l_size (hl : ww_ls g M κ a e n f) : ww_C g wy_Jx4a65c_size_8abf5 1 0 0 [.ref a] M (ww_ret (some (.int (nI n))) M) ww_no := by
  have h := j_size (g := g) hl.1
  rw [hl.2.1] at h
  exact h
theorem l_isEmpty (hl : ww_ls g M κ a e n f) (h5 : n < 2 ^ 31) : ww_C g wy_Jx4a65c_isEmpty_aae02 1 0 0 [.ref a] M (ww_ret (some (.int (if n = 0 then 1 else 0))) M) ww_no := j_isEmpty hl.1 hl.2.1 h5
/-- the yard y: its waiting list wl (w trains f), its blocked masks yb -/
def ww_yd (g : ww_G) (M : ww_M) (y wl we yb w : Nat) (f : Nat → Nat) : Prop := ww_is M.1 y 6 ∧ ww_R M 240 y = some wl ∧ ww_R M 242 y = some yb ∧ ww_is M.1 yb 9 ∧ ww_N M yb = 8 ∧ w ≤ 8 ∧ ww_ls g M 4 wl we w f
set_option maxRecDepth 20000 in
theorem c_isWaiting_l (hy : ww_yd g M y wl we yb w f) : ∀ m i, i + m = w → (∀ j, j < i → ¬ f j = a) → ww_A g wy_X5_isWaiting 4 0 0 M 2 [(0, .ref y), (1, .ref a), (2, .int (nI i))] [] (ww_ret (some (.int (ww_b (q_any (fun j => f j = a) w)))) M) ww_no
  | 0, i, hm, hn => by
    have e0 : i = w := by omega
    subst e0
    have hl := hy.2.2.2.2.2.2
    have h8 := hy.2.2.2.2.2.1
    rw [ww_b_f (fun ⟨k, h1, h2⟩ => hn k h1 h2)]
    refine ww_iload_n (i := 2) dX5_isWaiting_2 rfl rfl ?_
    refine ww_aload_n (i := 0) dX5_isWaiting_3 rfl rfl ?_
    refine ww_getR (f := 240) wf_X5_12 dX5_isWaiting_4 rfl rfl (show ww_is _ _ 6 from hy.1).1 (show ww_is _ _ 6 from hy.1).2 hy.2.1 ?_
    refine ww_callV (κ := 0) (r := (RJx4a65c, TJx4a65c, 3)) wk_X5_25 dX5_isWaiting_7 (l_size hl) rfl rfl (show ww_is _ _ 0 from hy.2.2.2.2.2.2.1).1 (show ww_is _ _ 0 from hy.2.2.2.2.2.2.1).2 rfl rfl (by omega) (by omega) (by omega) (by first | exact Nat.le_of_ble_eq_true rfl | (simp [ww_rf_cat, Value.category])) rfl (fun E M9 h9 => h9.elim) (fun v9 M9 h9 => ?_)
    obtain ⟨rfl, rfl⟩ := h9
    refine ww_icmp_ge_t (tgt := 33) dX5_isWaiting_10 (by decide) (nI_le (Nat.le_refl _) (by omega)) ?_
    refine ww_iconst (v := 0) dX5_isWaiting_33 (by decide) ?_
    exact ww_ireturn dX5_isWaiting_34 rfl (by first | rfl | exact ww_b_nar) ⟨rfl, rfl⟩
  | m + 1, i, hm, hn => by
    have hl := hy.2.2.2.2.2.2
    have h8 := hy.2.2.2.2.2.1
    refine ww_iload_n (i := 2) dX5_isWaiting_2 rfl rfl ?_
    refine ww_aload_n (i := 0) dX5_isWaiting_3 rfl rfl ?_
    refine ww_getR (f := 240) wf_X5_12 dX5_isWaiting_4 rfl rfl (show ww_is _ _ 6 from hy.1).1 (show ww_is _ _ 6 from hy.1).2 hy.2.1 ?_
    refine ww_callV (κ := 0) (r := (RJx4a65c, TJx4a65c, 3)) wk_X5_25 dX5_isWaiting_7 (l_size hl) rfl rfl (show ww_is _ _ 0 from hy.2.2.2.2.2.2.1).1 (show ww_is _ _ 0 from hy.2.2.2.2.2.2.1).2 rfl rfl (by omega) (by omega) (by omega) (by first | exact Nat.le_of_ble_eq_true rfl | (simp [ww_rf_cat, Value.category])) rfl (fun E M9 h9 => h9.elim) (fun v9 M9 h9 => ?_)
    obtain ⟨rfl, rfl⟩ := h9
    refine ww_icmp_ge_f (tgt := 33) dX5_isWaiting_10 (by decide) (nI_ge (by omega) (by omega)) ?_
    refine ww_aload_n (i := 0) dX5_isWaiting_13 rfl rfl ?_
    refine ww_getR (f := 240) wf_X5_12 dX5_isWaiting_14 rfl rfl (show ww_is _ _ 6 from hy.1).1 (show ww_is _ _ 6 from hy.1).2 hy.2.1 ?_
    refine ww_iload_n (i := 2) dX5_isWaiting_17 rfl rfl ?_
    refine ww_callV (κ := 0) (r := (RJx4a65c, TJx4a65c, 3)) wk_X5_29 dX5_isWaiting_18 (l_get hl (by omega)) rfl rfl (show ww_is _ _ 0 from hy.2.2.2.2.2.2.1).1 (show ww_is _ _ 0 from hy.2.2.2.2.2.2.1).2 rfl rfl (by omega) (by omega) (by omega) (by first | exact Nat.le_of_ble_eq_true rfl | (simp [ww_rf_cat, Value.category])) rfl (fun E M9 h9 => h9.elim) (fun v9 M9 h9 => ?_)
    obtain ⟨rfl, rfl⟩ := h9
    first | refine ww_aload_n (i := 1) dX5_isWaiting_21 rfl rfl ?_ | refine ww_aload_nQ (i := 1) dX5_isWaiting_21 rfl rfl ?_
    -- at 22, locals [0, 1, 2]
    refine ww_acmp_ne (tgt := 27) (rx := some (f i)) (ry := some a) rfl rfl dX5_isWaiting_22 (by decide) (fun z => ?_) (fun z => ?_)
    · refine ww_iinc (i := 2) (v := _ + 1) (lv2 := [(0, _), (1, _), (2, _)]) dX5_isWaiting_27 rfl (by rfl) (Nat.le_of_ble_eq_true rfl) rfl ?_
      refine ww_goto (tgt := 2) dX5_isWaiting_30 (by decide) ?_
      -- at 2, locals [0, 1, 2]
      rw [nI_1]
      exact c_isWaiting_l hy m (i + 1) (by omega) (fun j hj => by
        by_cases c : j = i
        · rw [c]; exact fun y => z (congrArg some y)
        · exact hn j (by omega))
    · rw [ww_b_t ⟨i, by omega, Option.some.inj z⟩]
      refine ww_iconst (v := 1) dX5_isWaiting_25 (by decide) ?_
      exact ww_ireturn dX5_isWaiting_26 rfl (by first | rfl | exact ww_b_nar) ⟨rfl, rfl⟩
set_option maxRecDepth 20000 in
theorem c_isWaiting (hy : ww_yd g M y wl we yb w f) : ww_C g wy_X5_isWaiting 4 0 0 [.ref y, .ref a] M (ww_ret (some (.int (ww_b (q_any (fun j => f j = a) w)))) M) ww_no := by
  refine ww_ent (by decide +kernel) (Nat.le_of_ble_eq_true rfl) ⟨rfl, rfl, trivial⟩ ?_
  have hl := c_isWaiting_l (g := g) (a := a) hy w 0 (by omega) (fun j hj => by omega)
  rw [nI_0] at hl
  refine ww_iconst (v := 0) dX5_isWaiting_0 (by decide) ?_
  refine ww_istore_n (i := 2) (lv2 := [(0, _), (1, _), (2, _)]) dX5_isWaiting_1 rfl (Nat.le_of_ble_eq_true rfl) rfl ?_
  -- at 2, locals [0, 1, 2]
  exact hl
set_option maxRecDepth 20000 in
theorem c_isTaken_l (hy : ww_yd g M y wl we yb w f) : ∀ m i, i + m = w → (∀ j, j < i → ¬ ww_I M 177 (f j) = v) → ww_A g wy_X5_isTaken 4 0 0 M 2 [(0, .ref y), (1, .int v), (2, .int (nI i))] [] (ww_ret (some (.int (ww_b (q_any (fun j => ww_I M 177 (f j) = v) w)))) M) ww_no
  | 0, i, hm, hn => by
    have e0 : i = w := by omega
    subst e0
    have hl := hy.2.2.2.2.2.2
    have h8 := hy.2.2.2.2.2.1
    rw [ww_b_f (fun ⟨k, h1, h2⟩ => hn k h1 h2)]
    refine ww_iload_n (i := 2) dX5_isTaken_2 rfl rfl ?_
    refine ww_aload_n (i := 0) dX5_isTaken_3 rfl rfl ?_
    refine ww_getR (f := 240) wf_X5_12 dX5_isTaken_4 rfl rfl (show ww_is _ _ 6 from hy.1).1 (show ww_is _ _ 6 from hy.1).2 hy.2.1 ?_
    refine ww_callV (κ := 0) (r := (RJx4a65c, TJx4a65c, 3)) wk_X5_25 dX5_isTaken_7 (l_size hl) rfl rfl (show ww_is _ _ 0 from hy.2.2.2.2.2.2.1).1 (show ww_is _ _ 0 from hy.2.2.2.2.2.2.1).2 rfl rfl (by omega) (by omega) (by omega) (by first | exact Nat.le_of_ble_eq_true rfl | (simp [ww_rf_cat, Value.category])) rfl (fun E M9 h9 => h9.elim) (fun v9 M9 h9 => ?_)
    obtain ⟨rfl, rfl⟩ := h9
    refine ww_icmp_ge_t (tgt := 39) dX5_isTaken_10 (by decide) (nI_le (Nat.le_refl _) (by omega)) ?_
    refine ww_iconst (v := 0) dX5_isTaken_39 (by decide) ?_
    exact ww_ireturn dX5_isTaken_40 rfl (by first | rfl | exact ww_b_nar) ⟨rfl, rfl⟩
  | m + 1, i, hm, hn => by
    have hl := hy.2.2.2.2.2.2
    have h8 := hy.2.2.2.2.2.1
    have hp := ww_ls_el hl (i := i) (by omega)
    by_cases c : ww_I M 177 (f i) = v
    · rw [ww_b_t ⟨i, by omega, c⟩]
      refine ww_iload_n (i := 2) dX5_isTaken_2 rfl rfl ?_
      refine ww_aload_n (i := 0) dX5_isTaken_3 rfl rfl ?_
      refine ww_getR (f := 240) wf_X5_12 dX5_isTaken_4 rfl rfl (show ww_is _ _ 6 from hy.1).1 (show ww_is _ _ 6 from hy.1).2 hy.2.1 ?_
      refine ww_callV (κ := 0) (r := (RJx4a65c, TJx4a65c, 3)) wk_X5_25 dX5_isTaken_7 (l_size hl) rfl rfl (show ww_is _ _ 0 from hl.1).1 (show ww_is _ _ 0 from hl.1).2 rfl rfl (by omega) (by omega) (by omega) (by first | exact Nat.le_of_ble_eq_true rfl | (simp [ww_rf_cat, Value.category])) rfl (fun E M9 h9 => h9.elim) (fun v9 M9 h9 => ?_)
      obtain ⟨rfl, rfl⟩ := h9
      refine ww_icmp_ge_f (tgt := 39) dX5_isTaken_10 (by decide) (nI_ge (by omega) (by omega)) ?_
      refine ww_aload_n (i := 0) dX5_isTaken_13 rfl rfl ?_
      refine ww_getR (f := 240) wf_X5_12 dX5_isTaken_14 rfl rfl (show ww_is _ _ 6 from hy.1).1 (show ww_is _ _ 6 from hy.1).2 hy.2.1 ?_
      refine ww_iload_n (i := 2) dX5_isTaken_17 rfl rfl ?_
      refine ww_callV (κ := 0) (r := (RJx4a65c, TJx4a65c, 3)) wk_X5_29 dX5_isTaken_18 (l_get hl (by omega)) rfl rfl (show ww_is _ _ 0 from hl.1).1 (show ww_is _ _ 0 from hl.1).2 rfl rfl (by omega) (by omega) (by omega) (by first | exact Nat.le_of_ble_eq_true rfl | (simp [ww_rf_cat, Value.category])) rfl (fun E M9 h9 => h9.elim) (fun v9 M9 h9 => ?_)
      obtain ⟨rfl, rfl⟩ := h9
      refine ww_cast (nm := "") (κ := 4) (r := (RX3, TX3, 18)) dX5_isTaken_21 (show ww_is _ _ 4 from hp).1 (show ww_is _ _ 4 from hp).2 rfl wm_683 ?_
      refine ww_getI (f := 177) wf_X5_35 dX5_isTaken_24 rfl rfl (show ww_is _ _ 4 from hp).1 (show ww_is _ _ 4 from hp).2 ?_
      refine ww_iload_n (i := 1) dX5_isTaken_27 rfl rfl ?_
      refine ww_icmp_ne_f (tgt := 33) dX5_isTaken_28 (by decide) c ?_
      refine ww_iconst (v := 1) dX5_isTaken_31 (by decide) ?_
      exact ww_ireturn dX5_isTaken_32 rfl (by first | rfl | exact ww_b_nar) ⟨rfl, rfl⟩
    · refine ww_iload_n (i := 2) dX5_isTaken_2 rfl rfl ?_
      refine ww_aload_n (i := 0) dX5_isTaken_3 rfl rfl ?_
      refine ww_getR (f := 240) wf_X5_12 dX5_isTaken_4 rfl rfl (show ww_is _ _ 6 from hy.1).1 (show ww_is _ _ 6 from hy.1).2 hy.2.1 ?_
      refine ww_callV (κ := 0) (r := (RJx4a65c, TJx4a65c, 3)) wk_X5_25 dX5_isTaken_7 (l_size hl) rfl rfl (show ww_is _ _ 0 from hl.1).1 (show ww_is _ _ 0 from hl.1).2 rfl rfl (by omega) (by omega) (by omega) (by first | exact Nat.le_of_ble_eq_true rfl | (simp [ww_rf_cat, Value.category])) rfl (fun E M9 h9 => h9.elim) (fun v9 M9 h9 => ?_)
      obtain ⟨rfl, rfl⟩ := h9
      refine ww_icmp_ge_f (tgt := 39) dX5_isTaken_10 (by decide) (nI_ge (by omega) (by omega)) ?_
      refine ww_aload_n (i := 0) dX5_isTaken_13 rfl rfl ?_
      refine ww_getR (f := 240) wf_X5_12 dX5_isTaken_14 rfl rfl (show ww_is _ _ 6 from hy.1).1 (show ww_is _ _ 6 from hy.1).2 hy.2.1 ?_
      refine ww_iload_n (i := 2) dX5_isTaken_17 rfl rfl ?_
      refine ww_callV (κ := 0) (r := (RJx4a65c, TJx4a65c, 3)) wk_X5_29 dX5_isTaken_18 (l_get hl (by omega)) rfl rfl (show ww_is _ _ 0 from hl.1).1 (show ww_is _ _ 0 from hl.1).2 rfl rfl (by omega) (by omega) (by omega) (by first | exact Nat.le_of_ble_eq_true rfl | (simp [ww_rf_cat, Value.category])) rfl (fun E M9 h9 => h9.elim) (fun v9 M9 h9 => ?_)
      obtain ⟨rfl, rfl⟩ := h9
      refine ww_cast (nm := "") (κ := 4) (r := (RX3, TX3, 18)) dX5_isTaken_21 (show ww_is _ _ 4 from hp).1 (show ww_is _ _ 4 from hp).2 rfl wm_683 ?_
      refine ww_getI (f := 177) wf_X5_35 dX5_isTaken_24 rfl rfl (show ww_is _ _ 4 from hp).1 (show ww_is _ _ 4 from hp).2 ?_
      refine ww_iload_n (i := 1) dX5_isTaken_27 rfl rfl ?_
      refine ww_icmp_ne_t (tgt := 33) dX5_isTaken_28 (by decide) c ?_
      refine ww_iinc (i := 2) (v := _ + 1) (lv2 := [(0, _), (1, _), (2, _)]) dX5_isTaken_33 rfl (by rfl) (Nat.le_of_ble_eq_true rfl) rfl ?_
      refine ww_goto (tgt := 2) dX5_isTaken_36 (by decide) ?_
      -- at 2, locals [0, 1, 2]
      rw [nI_1]
      exact c_isTaken_l hy m (i + 1) (by omega) (fun j hj => by
        by_cases e : j = i
        · rw [e]; exact c
        · exact hn j (by omega))
set_option maxRecDepth 20000 in
theorem c_isTaken (hy : ww_yd g M y wl we yb w f) : ww_C g wy_X5_isTaken 4 0 0 [.ref y, .int v] M (ww_ret (some (.int (ww_b (q_any (fun j => ww_I M 177 (f j) = v) w)))) M) ww_no := by
  refine ww_ent (by decide +kernel) (Nat.le_of_ble_eq_true rfl) ⟨rfl, rfl, trivial⟩ ?_
  have hl := c_isTaken_l (g := g) (v := v) hy w 0 (by omega) (fun j hj => by omega)
  rw [nI_0] at hl
  refine ww_iconst (v := 0) dX5_isTaken_0 (by decide) ?_
  refine ww_istore_n (i := 2) (lv2 := [(0, _), (1, _), (2, _)]) dX5_isTaken_1 rfl (Nat.le_of_ble_eq_true rfl) rfl ?_
  -- at 2, locals [0, 1, 2]
  exact hl
end WWC7
