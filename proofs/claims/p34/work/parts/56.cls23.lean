section WWR1
variable {g : ww_G} {M0 M M1 : ww_M} {a x pl pe n : Nat} {P W kl : Nat → Nat} {S : Nat → Nat → Int32} {v : Int32}
/-! the tree of t held -/
set_option maxRecDepth 20000 in
set_option maxHeartbeats 4000000 in
theorem c_quar_l (hG : q_G S n) {t : Nat} (ht : t < n) : ∀ (m i : Nat) (M : ww_M), i + m = n → ww_wo g M0 M x pl pe n P → ww_pf M P W kl n (q_r2 S t i) → ww_A g wy_X6_quarantineTree 5 0 0 M 2 [(0, .ref x), (1, .ref (P t)), (2, .int (nI i))] [] (ww_cq g M0 none x pl pe n P W kl (q_r2 S t n)) ww_no
  | 0, i, M, hm, hw, h => by
    have h6 := hG.2.1
    have e0 : i = n := by omega
    subst e0
    have hsz := l_size (g := g) hw.2.2.1
    refine ww_iload_n (i := 2) dX6_quarantineTree_2 rfl rfl ?_
    refine ww_aload_n (i := 0) dX6_quarantineTree_3 rfl rfl ?_
    refine ww_getR (f := 280) wf_X6_10 dX6_quarantineTree_4 rfl rfl (show ww_is _ _ 7 from hw.1).1 (show ww_is _ _ 7 from hw.1).2 hw.2.1 ?_
    refine ww_callV (κ := 0) (r := (RJx4a65c, TJx4a65c, 3)) wk_X6_52 dX6_quarantineTree_7 (hsz) rfl rfl (show ww_is _ _ 0 from hw.2.2.1.1).1 (show ww_is _ _ 0 from hw.2.2.1.1).2 rfl rfl (by omega) (by omega) (by omega) (by first | exact Nat.le_of_ble_eq_true rfl | (simp [ww_rf_cat, Value.category])) rfl (fun E M9 h9 => h9.elim) (fun v9 M9 h9 => ?_)
    obtain ⟨rfl, rfl⟩ := h9
    refine ww_icmp_ge_t (tgt := 44) dX6_quarantineTree_10 (by decide) (nI_le (Nat.le_refl _) (by omega)) ?_
    exact ww_vreturn dX6_quarantineTree_44 rfl ⟨rfl, hw, h⟩
  | m + 1, i, M, hm, hw, h => by
    have h6 := hG.2.1
    have hi : i < n := by omega
    have hsz := l_size (g := g) hw.2.2.1
    have hgt := l_get (g := g) hw.2.2.1 hi
    have hi4 := (h.1 i hi).1.1
    have e5 : q_r2 S t i 5 = S 5 := q_r2_k (by decide)
    have hd := q_hd_lt hG.2.2.1 hG.2.1 5 i hi
    have htop := p_top (g := g) h (q_G_r2 hG) hi
    rw [e5] at htop
    refine ww_iload_n (i := 2) dX6_quarantineTree_2 rfl rfl ?_
    refine ww_aload_n (i := 0) dX6_quarantineTree_3 rfl rfl ?_
    refine ww_getR (f := 280) wf_X6_10 dX6_quarantineTree_4 rfl rfl (show ww_is _ _ 7 from hw.1).1 (show ww_is _ _ 7 from hw.1).2 hw.2.1 ?_
    refine ww_callV (κ := 0) (r := (RJx4a65c, TJx4a65c, 3)) wk_X6_52 dX6_quarantineTree_7 (hsz) rfl rfl (show ww_is _ _ 0 from hw.2.2.1.1).1 (show ww_is _ _ 0 from hw.2.2.1.1).2 rfl rfl (by omega) (by omega) (by omega) (by first | exact Nat.le_of_ble_eq_true rfl | (simp [ww_rf_cat, Value.category])) rfl (fun E M9 h9 => h9.elim) (fun v9 M9 h9 => ?_)
    obtain ⟨rfl, rfl⟩ := h9
    refine ww_icmp_ge_f (tgt := 44) dX6_quarantineTree_10 (by decide) (nI_ge (by omega) (by omega)) ?_
    refine ww_aload_n (i := 0) dX6_quarantineTree_13 rfl rfl ?_
    refine ww_getR (f := 280) wf_X6_10 dX6_quarantineTree_14 rfl rfl (show ww_is _ _ 7 from hw.1).1 (show ww_is _ _ 7 from hw.1).2 hw.2.1 ?_
    refine ww_iload_n (i := 2) dX6_quarantineTree_17 rfl rfl ?_
    refine ww_callV (κ := 0) (r := (RJx4a65c, TJx4a65c, 3)) wk_X6_171 dX6_quarantineTree_18 (hgt) rfl rfl (show ww_is _ _ 0 from hw.2.2.1.1).1 (show ww_is _ _ 0 from hw.2.2.1.1).2 rfl rfl (by omega) (by omega) (by omega) (by first | exact Nat.le_of_ble_eq_true rfl | (simp [ww_rf_cat, Value.category])) rfl (fun E M9 h9 => h9.elim) (fun v9 M9 h9 => ?_)
    obtain ⟨rfl, rfl⟩ := h9
    refine ww_cast (nm := "") (κ := 4) (r := (RX3, TX3, 18)) dX6_quarantineTree_21 (show ww_is _ _ 4 from hi4).1 (show ww_is _ _ 4 from hi4).2 rfl wm_256 ?_
    first | refine ww_astore_n (i := 3) (lv2 := [(0, _), (1, _), (2, _), (3, _)]) dX6_quarantineTree_24 rfl (Nat.le_of_ble_eq_true rfl) rfl ?_ | refine ww_astore_nQ (i := 3) (lv2 := [(0, _), (1, _), (2, _), (3, _)]) dX6_quarantineTree_24 rfl (Nat.le_of_ble_eq_true rfl) rfl ?_
    refine ww_aload_n (i := 3) dX6_quarantineTree_25 rfl rfl ?_
    refine ww_callV (κ := 4) (r := (RX3, TX3, 18)) wk_X6_137 dX6_quarantineTree_26 (htop) rfl rfl (show ww_is _ _ 4 from hi4).1 (show ww_is _ _ 4 from hi4).2 rfl rfl (by omega) (by omega) (by omega) (by first | exact Nat.le_of_ble_eq_true rfl | (simp [ww_rf_cat, Value.category])) rfl (fun E M9 h9 => h9.elim) (fun v9 M9 h9 => ?_)
    obtain ⟨rfl, rfl⟩ := h9
    first | refine ww_aload_n (i := 1) dX6_quarantineTree_29 rfl rfl ?_ | refine ww_aload_nQ (i := 1) dX6_quarantineTree_29 rfl rfl ?_
    -- at 30, locals [0, 1, 2, 3]
    refine ww_acmp_ne (tgt := 38) (rx := some (P (q_hd (S 5) 5 i))) (ry := some (P t)) rfl rfl dX6_quarantineTree_30 (by decide) (fun z => ?_) (fun z => ?_)
    · have hne : ¬ q_hd (S 5) 5 i = t := fun y => z (congrArg (fun k => some (P k)) y)
      have e : q_r2 S t (i + 1) = q_r2 S t i := by
        rcases hG.2.2.2.1 i with c | c
        · rw [← q_r2_s (v := 0) (Or.inr ⟨rfl, c, hne⟩), ww_u2_id ((q_if_f (fun y => by omega)).trans c)]
        · rw [← q_r2_s (v := 1) (Or.inl ⟨rfl, Or.inl c⟩), ww_u2_id ((q_if_f (fun y => by omega)).trans c)]
      rw [← e] at h
      have hl := c_quar_l hG ht m (i + 1) M (by omega) hw h
      refine ww_iinc (i := 2) (v := _ + 1) (lv2 := [(0, _), (1, _), (2, _), (3, _)]) dX6_quarantineTree_38 rfl (by rfl) (Nat.le_of_ble_eq_true rfl) rfl ?_
      refine ww_goto (tgt := 2) dX6_quarantineTree_41 (by decide) ?_
      -- at 2, locals [0, 1, 2, 3]
      rw [nI_1]
      exact ww_subk hl ⟨rfl, rfl, rfl, trivial⟩
    · have heq : q_hd (S 5) 5 i = t := h.2.2 _ _ hd ht (Option.some.inj z)
      have h1 := ww_pf_171 (v := 1) h hi
      rw [q_r2_s (Or.inl ⟨rfl, Or.inr heq⟩)] at h1
      have hl := c_quar_l hG ht m (i + 1) _ (by omega) (ww_wo_I hw (by decide)) h1
      refine ww_aload_n (i := 3) dX6_quarantineTree_33 rfl rfl ?_
      refine ww_iconst (v := 1) dX6_quarantineTree_34 (by decide) ?_
      refine ww_putI (f := 171) wf_X6_100 wt_4_11 dX6_quarantineTree_35 rfl rfl (show ww_is _ _ 4 from hi4).1 (show ww_is _ _ 4 from hi4).2 (by first | rfl | exact ww_b_nar) (by first | rfl | exact ww_b_fit) ?_
      refine ww_iinc (i := 2) (v := _ + 1) (lv2 := [(0, _), (1, _), (2, _), (3, _)]) dX6_quarantineTree_38 rfl (by rfl) (Nat.le_of_ble_eq_true rfl) rfl ?_
      refine ww_goto (tgt := 2) dX6_quarantineTree_41 (by decide) ?_
      -- at 2, locals [0, 1, 2, 3]
      rw [nI_1]
      exact ww_subk hl ⟨rfl, rfl, rfl, trivial⟩
set_option maxRecDepth 20000 in
theorem c_quarantine (hw : ww_wo g M0 M x pl pe n P) (h : ww_pf M P W kl n S) (hG : q_G S n) {t : Nat} (ht : t < n) : ww_C g wy_X6_quarantineTree 5 0 0 [.ref x, .ref (P t)] M (ww_cq g M0 none x pl pe n P W kl (q_r2 S t n)) ww_no := by
  refine ww_ent (by decide +kernel) (Nat.le_of_ble_eq_true rfl) ⟨rfl, rfl, trivial⟩ ?_
  have hl := c_quar_l (g := g) hG ht n 0 M (by omega) hw (by rw [q_r2_0]; exact h)
  rw [nI_0] at hl
  refine ww_iconst (v := 0) dX6_quarantineTree_0 (by decide) ?_
  refine ww_istore_n (i := 2) (lv2 := [(0, _), (1, _), (2, _)]) dX6_quarantineTree_1 rfl (Nat.le_of_ble_eq_true rfl) rfl ?_
  -- at 2, locals [0, 1, 2]
  exact hl
end WWR1
