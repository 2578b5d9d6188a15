section WWH1
variable {g : ww_G} {M0 M M1 : ww_M} {a x pl pe n : Nat} {P W kl : Nat → Nat} {S : Nat → Nat → Int32}
/-- the lowest part of t's tree that is so -/
noncomputable def q_clow (S : Nat → Nat → Int32) (n t r : Nat) : Option Nat := q_ff (fun p => q_hd (S 5) 5 p = t ∧ q_so S n p r) n 0
set_option maxRecDepth 20000 in
set_option maxHeartbeats 4000000 in
theorem c_lowest_l (hw : ww_wo g M0 M x pl pe n P) (h : ww_pf M P W kl n S) (hG : q_G S n) {t r : Nat} (ht : t < n) (hr7 : r ≤ 7) : ∀ m i, i + m = n → ww_A g wy_X6_lowestBarring 7 0 0 M 2 [(0, .ref x), (1, .ref (P t)), (2, .int (nI r)), (3, .int (nI i))] [] (ww_ret (some (.int (q_oi (q_ff (fun p => q_hd (S 5) 5 p = t ∧ q_so S n p r) m i)))) M) ww_no
  | 0, i, hm => by
    have e0 : i = n := by omega
    subst e0
    have h6 := hw.2.2.2.1
    have hsz := l_size (g := g) hw.2.2.1
    refine ww_iload_n (i := 3) dX6_lowestBarring_2 rfl rfl ?_
    refine ww_aload_n (i := 0) dX6_lowestBarring_3 rfl rfl ?_
    refine ww_getR (f := 280) wf_X6_10 dX6_lowestBarring_4 rfl rfl (show ww_is _ _ 7 from hw.1).1 (show ww_is _ _ 7 from hw.1).2 hw.2.1 ?_
    refine ww_callV (κ := 0) (r := (RJx4a65c, TJx4a65c, 3)) wk_X6_52 dX6_lowestBarring_7 (hsz) rfl rfl (show ww_is _ _ 0 from hw.2.2.1.1).1 (show ww_is _ _ 0 from hw.2.2.1.1).2 rfl rfl (by omega) (by omega) (by omega) (by first | exact Nat.le_of_ble_eq_true rfl | (simp [ww_rf_cat, Value.category])) rfl (fun E M9 h9 => h9.elim) (fun v9 M9 h9 => ?_)
    obtain ⟨rfl, rfl⟩ := h9
    refine ww_icmp_ge_t (tgt := 53) dX6_lowestBarring_10 (by decide) (nI_le (Nat.le_refl _) (by omega)) ?_
    refine ww_iconst (v := (-1)) dX6_lowestBarring_53 (by decide) ?_
    exact ww_ireturn dX6_lowestBarring_54 rfl (by first | rfl | exact ww_b_nar) ⟨rfl, rfl⟩
  | m + 1, i, hm => by
    have h6 := hw.2.2.2.1
    have hsz := l_size (g := g) hw.2.2.1
    have hgt := l_get (g := g) hw.2.2.1 (i := i) (by omega)
    have hi4 := (h.1 i (by omega)).1.1
    have htop := p_top (g := g) h hG (p := i) (by omega)
    have hd := q_hd_lt hG.2.2.1 hG.2.1 5 i (by omega)
    have hcl := c_lowest_l hw h hG ht hr7 m (i + 1) (by omega)
    refine ww_iload_n (i := 3) dX6_lowestBarring_2 rfl rfl ?_
    refine ww_aload_n (i := 0) dX6_lowestBarring_3 rfl rfl ?_
    refine ww_getR (f := 280) wf_X6_10 dX6_lowestBarring_4 rfl rfl (show ww_is _ _ 7 from hw.1).1 (show ww_is _ _ 7 from hw.1).2 hw.2.1 ?_
    refine ww_callV (κ := 0) (r := (RJx4a65c, TJx4a65c, 3)) wk_X6_52 dX6_lowestBarring_7 (hsz) rfl rfl (show ww_is _ _ 0 from hw.2.2.1.1).1 (show ww_is _ _ 0 from hw.2.2.1.1).2 rfl rfl (by omega) (by omega) (by omega) (by first | exact Nat.le_of_ble_eq_true rfl | (simp [ww_rf_cat, Value.category])) rfl (fun E M9 h9 => h9.elim) (fun v9 M9 h9 => ?_)
    obtain ⟨rfl, rfl⟩ := h9
    refine ww_icmp_ge_f (tgt := 53) dX6_lowestBarring_10 (by decide) (nI_ge (by omega) (by omega)) ?_
    refine ww_aload_n (i := 0) dX6_lowestBarring_13 rfl rfl ?_
    refine ww_getR (f := 280) wf_X6_10 dX6_lowestBarring_14 rfl rfl (show ww_is _ _ 7 from hw.1).1 (show ww_is _ _ 7 from hw.1).2 hw.2.1 ?_
    refine ww_iload_n (i := 3) dX6_lowestBarring_17 rfl rfl ?_
    refine ww_callV (κ := 0) (r := (RJx4a65c, TJx4a65c, 3)) wk_X6_171 dX6_lowestBarring_18 (hgt) rfl rfl (show ww_is _ _ 0 from hw.2.2.1.1).1 (show ww_is _ _ 0 from hw.2.2.1.1).2 rfl rfl (by omega) (by omega) (by omega) (by first | exact Nat.le_of_ble_eq_true rfl | (simp [ww_rf_cat, Value.category])) rfl (fun E M9 h9 => h9.elim) (fun v9 M9 h9 => ?_)
    obtain ⟨rfl, rfl⟩ := h9
    refine ww_cast (nm := "") (κ := 4) (r := (RX3, TX3, 18)) dX6_lowestBarring_21 (show ww_is _ _ 4 from hi4).1 (show ww_is _ _ 4 from hi4).2 rfl wm_256 ?_
    first | refine ww_astore (i := 4) (lv2 := [(0, _), (1, _), (2, _), (3, _), (4, _)]) dX6_lowestBarring_24 (Nat.le_of_ble_eq_true rfl) rfl ?_ | refine ww_astoreQ (i := 4) (lv2 := [(0, _), (1, _), (2, _), (3, _), (4, _)]) dX6_lowestBarring_24 (Nat.le_of_ble_eq_true rfl) rfl ?_
    refine ww_aload (i := 4) dX6_lowestBarring_26 rfl ?_
    refine ww_callV (κ := 4) (r := (RX3, TX3, 18)) wk_X6_137 dX6_lowestBarring_28 (htop) rfl rfl (show ww_is _ _ 4 from hi4).1 (show ww_is _ _ 4 from hi4).2 rfl rfl (by omega) (by omega) (by omega) (by first | exact Nat.le_of_ble_eq_true rfl | (simp [ww_rf_cat, Value.category])) rfl (fun E M9 h9 => h9.elim) (fun v9 M9 h9 => ?_)
    obtain ⟨rfl, rfl⟩ := h9
    refine ww_aload_n (i := 1) dX6_lowestBarring_31 rfl rfl ?_
    -- at 32, locals [0, 1, 2, 3, 4]
    refine ww_acmp_ne (tgt := 47) (rx := some (P (q_hd (S 5) 5 i))) (ry := some (P t)) rfl rfl dX6_lowestBarring_32 (by decide) (fun z => ?_) (fun z => ?_)
    · have hne : ¬ q_hd (S 5) 5 i = t := fun y => z (congrArg (fun k => some (P k)) y)
      rw [q_ff_f (P := fun p => q_hd (S 5) 5 p = t ∧ q_so S n p r) (fun y => hne y.1)]
      refine ww_iinc (i := 3) (v := _ + 1) (lv2 := [(0, _), (1, _), (2, _), (3, _), (4, _)]) dX6_lowestBarring_47 rfl (by rfl) (Nat.le_of_ble_eq_true rfl) rfl ?_
      refine ww_goto (tgt := 2) dX6_lowestBarring_50 (by decide) ?_
      -- at 2, locals [0, 1, 2, 3, 4]
      rw [nI_1]
      exact ww_subk hcl ⟨rfl, rfl, rfl, rfl, trivial⟩
    · have heq : q_hd (S 5) 5 i = t := h.2.2 _ _ hd ht (Option.some.inj z)
      have hso := c_isSo (g := g) hw h hG (p := i) (r := r) (by omega) hr7
      by_cases c : q_so S n i r
      · rw [q_ff_t (P := fun p => q_hd (S 5) 5 p = t ∧ q_so S n p r) ⟨heq, c⟩]
        rw [ww_b_t c] at hso
        refine ww_aload_n (i := 0) dX6_lowestBarring_35 rfl rfl ?_
        first | refine ww_aload (i := 4) dX6_lowestBarring_36 rfl ?_ | refine ww_aloadQ (i := 4) dX6_lowestBarring_36 rfl ?_
        refine ww_iload_n (i := 2) dX6_lowestBarring_38 rfl rfl ?_
        refine ww_callV (κ := 7) (r := (RX6, TX6, 4)) wk_X6_351 dX6_lowestBarring_39 (hso) rfl rfl (show ww_is _ _ 7 from hw.1).1 (show ww_is _ _ 7 from hw.1).2 rfl rfl (by omega) (by omega) (by omega) (by first | exact Nat.le_of_ble_eq_true rfl | (simp [ww_rf_cat, Value.category])) rfl (fun E M9 h9 => h9.elim) (fun v9 M9 h9 => ?_)
        obtain ⟨rfl, rfl⟩ := h9
        refine ww_if_eq_f (tgt := 47) dX6_lowestBarring_42 (by decide) (by decide) ?_
        refine ww_iload_n (i := 3) dX6_lowestBarring_45 rfl rfl ?_
        exact ww_ireturn dX6_lowestBarring_46 rfl (by first | rfl | exact ww_b_nar) ⟨rfl, rfl⟩
      · rw [q_ff_f (P := fun p => q_hd (S 5) 5 p = t ∧ q_so S n p r) (fun y => c y.2)]
        rw [ww_b_f c] at hso
        refine ww_aload_n (i := 0) dX6_lowestBarring_35 rfl rfl ?_
        first | refine ww_aload (i := 4) dX6_lowestBarring_36 rfl ?_ | refine ww_aloadQ (i := 4) dX6_lowestBarring_36 rfl ?_
        refine ww_iload_n (i := 2) dX6_lowestBarring_38 rfl rfl ?_
        refine ww_callV (κ := 7) (r := (RX6, TX6, 4)) wk_X6_351 dX6_lowestBarring_39 (hso) rfl rfl (show ww_is _ _ 7 from hw.1).1 (show ww_is _ _ 7 from hw.1).2 rfl rfl (by omega) (by omega) (by omega) (by first | exact Nat.le_of_ble_eq_true rfl | (simp [ww_rf_cat, Value.category])) rfl (fun E M9 h9 => h9.elim) (fun v9 M9 h9 => ?_)
        obtain ⟨rfl, rfl⟩ := h9
        refine ww_if_eq_t (tgt := 47) dX6_lowestBarring_42 (by decide) (by decide) ?_
        refine ww_iinc (i := 3) (v := _ + 1) (lv2 := [(0, _), (1, _), (2, _), (3, _), (4, _)]) dX6_lowestBarring_47 rfl (by rfl) (Nat.le_of_ble_eq_true rfl) rfl ?_
        refine ww_goto (tgt := 2) dX6_lowestBarring_50 (by decide) ?_
        -- at 2, locals [0, 1, 2, 3, 4]
        rw [nI_1]
        exact ww_subk hcl ⟨rfl, rfl, rfl, rfl, trivial⟩
set_option maxRecDepth 20000 in
theorem c_lowest (hw : ww_wo g M0 M x pl pe n P) (h : ww_pf M P W kl n S) (hG : q_G S n) {t r : Nat} (ht : t < n) (hr7 : r ≤ 7) : ww_C g wy_X6_lowestBarring 7 0 0 [.ref x, .ref (P t), .int (nI r)] M (ww_ret (some (.int (q_oi (q_clow S n t r)))) M) ww_no := by
  refine ww_ent (by decide +kernel) (Nat.le_of_ble_eq_true rfl) ⟨rfl, rfl, rfl, trivial⟩ ?_
  have hl := c_lowest_l (g := g) hw h hG ht hr7 n 0 (by omega)
  rw [nI_0] at hl
  refine ww_iconst (v := 0) dX6_lowestBarring_0 (by decide) ?_
  refine ww_istore_n (i := 3) (lv2 := [(0, _), (1, _), (2, _), (3, _)]) dX6_lowestBarring_1 rfl (Nat.le_of_ble_eq_true rfl) rfl ?_
  -- at 2, locals [0, 1, 2, 3]
  exact hl
theorem q_oi_ne {S : Nat → Nat → Int32} {n t r p : Nat} (h6 : n ≤ 60) (h : q_clow S n t r = some p) : ¬ q_oi (q_clow S n t r) = -1 := by
  have := q_ff_some h
  rw [h]
  show ¬ nI p = -1
  rw [ww_eq, nI_toInt (by omega), show (-1 : Int32).toInt = -1 from rfl]
  omega
/-- the first of the bars from r on, of m; 0 when none -/
noncomputable def q_fbar (S : Nat → Nat → Int32) (n t : Nat) : Nat → Nat → Nat
  | 0, _ => 0
  | m + 1, r => match q_clow S n t r with
    | some _ => r
    | none => q_fbar S n t m (r + 1)
set_option maxRecDepth 20000 in
theorem c_first_l (hw : ww_wo g M0 M x pl pe n P) (h : ww_pf M P W kl n S) (hG : q_G S n) {t : Nat} (ht : t < n) : ∀ m r, r + m = 8 → 1 ≤ r → ww_A g wy_X6_firstBar 8 0 0 M 2 [(0, .ref x), (1, .ref (P t)), (2, .int (nI r))] [] (ww_ret (some (.int (nI (q_fbar S n t m r)))) M) ww_no
  | 0, r, hm, h1 => by
    have e0 : r = 8 := by omega
    subst e0
    refine ww_iload_n (i := 2) dX6_firstBar_2 rfl rfl ?_
    refine ww_bipush (v := 7) dX6_firstBar_3 (by decide) ?_
    refine ww_icmp_gt_t (tgt := 26) dX6_firstBar_5 (by decide) (by decide) ?_
    refine ww_iconst (v := 0) dX6_firstBar_26 (by decide) ?_
    exact ww_ireturn dX6_firstBar_27 rfl (by first | rfl | exact ww_b_nar) ⟨rfl, rfl⟩
  | m + 1, r, hm, h1 => by
    have h6 := hw.2.2.2.1
    have hlow := c_lowest (g := g) hw h hG ht (r := r) (by omega)
    have h7 : ¬ (7 : Int32) < nI r := nI_nlt (a := 7) (b := r) (by omega) (by decide)
    unfold q_fbar
    cases hq : q_clow S n t r with
    | some p =>
      refine ww_iload_n (i := 2) dX6_firstBar_2 rfl rfl ?_
      refine ww_bipush (v := 7) dX6_firstBar_3 (by decide) ?_
      refine ww_icmp_gt_f (tgt := 26) dX6_firstBar_5 (by decide) h7 ?_
      refine ww_aload_n (i := 0) dX6_firstBar_8 rfl rfl ?_
      refine ww_aload_n (i := 1) dX6_firstBar_9 rfl rfl ?_
      refine ww_iload_n (i := 2) dX6_firstBar_10 rfl rfl ?_
      refine ww_callV (κ := 7) (r := (RX6, TX6, 4)) wk_X6_323 dX6_firstBar_11 (hlow) rfl rfl (show ww_is _ _ 7 from hw.1).1 (show ww_is _ _ 7 from hw.1).2 rfl rfl (by omega) (by omega) (by omega) (by first | exact Nat.le_of_ble_eq_true rfl | (simp [ww_rf_cat, Value.category])) rfl (fun E M9 h9 => h9.elim) (fun v9 M9 h9 => ?_)
      obtain ⟨rfl, rfl⟩ := h9
      refine ww_iconst (v := (-1)) dX6_firstBar_14 (by decide) ?_
      refine ww_icmp_eq_f (tgt := 20) dX6_firstBar_15 (by decide) (q_oi_ne h6 hq) ?_
      refine ww_iload_n (i := 2) dX6_firstBar_18 rfl rfl ?_
      exact ww_ireturn dX6_firstBar_19 rfl (by first | rfl | exact ww_b_nar) ⟨rfl, rfl⟩
    | none =>
      refine ww_iload_n (i := 2) dX6_firstBar_2 rfl rfl ?_
      refine ww_bipush (v := 7) dX6_firstBar_3 (by decide) ?_
      refine ww_icmp_gt_f (tgt := 26) dX6_firstBar_5 (by decide) h7 ?_
      refine ww_aload_n (i := 0) dX6_firstBar_8 rfl rfl ?_
      refine ww_aload_n (i := 1) dX6_firstBar_9 rfl rfl ?_
      refine ww_iload_n (i := 2) dX6_firstBar_10 rfl rfl ?_
      refine ww_callV (κ := 7) (r := (RX6, TX6, 4)) wk_X6_323 dX6_firstBar_11 (hlow) rfl rfl (show ww_is _ _ 7 from hw.1).1 (show ww_is _ _ 7 from hw.1).2 rfl rfl (by omega) (by omega) (by omega) (by first | exact Nat.le_of_ble_eq_true rfl | (simp [ww_rf_cat, Value.category])) rfl (fun E M9 h9 => h9.elim) (fun v9 M9 h9 => ?_)
      obtain ⟨rfl, rfl⟩ := h9
      refine ww_iconst (v := (-1)) dX6_firstBar_14 (by decide) ?_
      refine ww_icmp_eq_t (tgt := 20) dX6_firstBar_15 (by decide) (by rw [hq]; rfl) ?_
      refine ww_iinc (i := 2) (v := _ + 1) (lv2 := [(0, _), (1, _), (2, _)]) dX6_firstBar_20 rfl (by rfl) (Nat.le_of_ble_eq_true rfl) rfl ?_
      refine ww_goto (tgt := 2) dX6_firstBar_23 (by decide) ?_
      -- at 2, locals [0, 1, 2]
      rw [nI_1]
      exact c_first_l hw h hG ht m (r + 1) (by omega) (by omega)
set_option maxRecDepth 20000 in
theorem c_firstBar (hw : ww_wo g M0 M x pl pe n P) (h : ww_pf M P W kl n S) (hG : q_G S n) {t : Nat} (ht : t < n) : ww_C g wy_X6_firstBar 8 0 0 [.ref x, .ref (P t)] M (ww_ret (some (.int (nI (q_fbar S n t 7 1)))) M) ww_no := by
  refine ww_ent (by decide +kernel) (Nat.le_of_ble_eq_true rfl) ⟨rfl, rfl, trivial⟩ ?_
  have hl := c_first_l (g := g) hw h hG ht 7 1 (by omega) (by omega)
  refine ww_iconst (v := 1) dX6_firstBar_0 (by decide) ?_
  refine ww_istore_n (i := 2) (lv2 := [(0, _), (1, _), (2, _)]) dX6_firstBar_1 rfl (Nat.le_of_ble_eq_true rfl) rfl ?_
  -- at 2, locals [0, 1, 2]
  exact hl
/-! which part -/
set_option maxRecDepth 20000 in
theorem c_existing (hw : ww_wo g M0 M x pl pe n P) (h : ww_pf M P W kl n S) {p : Nat} (hp : p < n) : ww_C g wy_X6_existing 4 0 0 [.ref x, .int (nI p)] M (ww_ret (some (.ref (P p))) M) ww_no := by
  refine ww_ent (by decide +kernel) (Nat.le_of_ble_eq_true rfl) ⟨rfl, rfl, trivial⟩ ?_
  have h6 := hw.2.2.2.1
  have hsz := l_size (g := g) hw.2.2.1
  have hgt := l_get (g := g) hw.2.2.1 hp
  have hi4 := (h.1 p hp).1.1
  refine ww_iload_n (i := 1) dX6_existing_0 rfl rfl ?_
  refine ww_if_lt_f (tgt := 15) dX6_existing_1 (by decide) (nI_pos (by omega)) ?_
  refine ww_iload_n (i := 1) dX6_existing_4 rfl rfl ?_
  refine ww_aload_n (i := 0) dX6_existing_5 rfl rfl ?_
  refine ww_getR (f := 280) wf_X6_10 dX6_existing_6 rfl rfl (show ww_is _ _ 7 from hw.1).1 (show ww_is _ _ 7 from hw.1).2 hw.2.1 ?_
  refine ww_callV (κ := 0) (r := (RJx4a65c, TJx4a65c, 3)) wk_X6_52 dX6_existing_9 (hsz) rfl rfl (show ww_is _ _ 0 from hw.2.2.1.1).1 (show ww_is _ _ 0 from hw.2.2.1.1).2 rfl rfl (by omega) (by omega) (by omega) (by first | exact Nat.le_of_ble_eq_true rfl | (simp [ww_rf_cat, Value.category])) rfl (fun E M9 h9 => h9.elim) (fun v9 M9 h9 => ?_)
  obtain ⟨rfl, rfl⟩ := h9
  refine ww_icmp_lt_t (tgt := 26) dX6_existing_12 (by decide) (nI_lt hp (by omega)) ?_
  refine ww_aload_n (i := 0) dX6_existing_26 rfl rfl ?_
  refine ww_getR (f := 280) wf_X6_10 dX6_existing_27 rfl rfl (show ww_is _ _ 7 from hw.1).1 (show ww_is _ _ 7 from hw.1).2 hw.2.1 ?_
  refine ww_iload_n (i := 1) dX6_existing_30 rfl rfl ?_
  refine ww_callV (κ := 0) (r := (RJx4a65c, TJx4a65c, 3)) wk_X6_171 dX6_existing_31 (hgt) rfl rfl (show ww_is _ _ 0 from hw.2.2.1.1).1 (show ww_is _ _ 0 from hw.2.2.1.1).2 rfl rfl (by omega) (by omega) (by omega) (by first | exact Nat.le_of_ble_eq_true rfl | (simp [ww_rf_cat, Value.category])) rfl (fun E M9 h9 => h9.elim) (fun v9 M9 h9 => ?_)
  obtain ⟨rfl, rfl⟩ := h9
  refine ww_cast (nm := "") (κ := 4) (r := (RX3, TX3, 18)) dX6_existing_34 (show ww_is _ _ 4 from hi4).1 (show ww_is _ _ 4 from hi4).2 rfl wm_256 ?_
  exact ww_areturn dX6_existing_37 rfl (by first | exact Or.inl ⟨_, rfl⟩ | exact Or.inr ⟨_, rfl⟩) (r := some _) rfl ⟨rfl, rfl⟩
set_option maxRecDepth 20000 in
theorem c_existingTrain (hw : ww_wo g M0 M x pl pe n P) (h : ww_pf M P W kl n S) {p : Nat} (hp : p < n) (hk : S 2 p = 0) : ww_C g wy_X6_existingTrain 5 0 0 [.ref x, .int (nI p)] M (ww_ret (some (.ref (P p))) M) ww_no := by
  refine ww_ent (by decide +kernel) (Nat.le_of_ble_eq_true rfl) ⟨rfl, rfl, trivial⟩ ?_
  have hi4 := (h.1 p hp).1.1
  have hk' := (ww_pf_kd h p hp).trans hk
  refine ww_aload_n (i := 0) dX6_existingTrain_0 rfl rfl ?_
  refine ww_iload_n (i := 1) dX6_existingTrain_1 rfl rfl ?_
  refine ww_callV (κ := 7) (r := (RX6, TX6, 4)) wk_X6_83 dX6_existingTrain_2 (c_existing hw h hp) rfl rfl (show ww_is _ _ 7 from hw.1).1 (show ww_is _ _ 7 from hw.1).2 rfl rfl (by omega) (by omega) (by omega) (by first | exact Nat.le_of_ble_eq_true rfl | (simp [ww_rf_cat, Value.category])) rfl (fun E M9 h9 => h9.elim) (fun v9 M9 h9 => ?_)
  obtain ⟨rfl, rfl⟩ := h9
  first | refine ww_astore_n (i := 2) (lv2 := [(0, _), (1, _), (2, _)]) dX6_existingTrain_5 rfl (Nat.le_of_ble_eq_true rfl) rfl ?_ | refine ww_astore_nQ (i := 2) (lv2 := [(0, _), (1, _), (2, _)]) dX6_existingTrain_5 rfl (Nat.le_of_ble_eq_true rfl) rfl ?_
  refine ww_aload_n (i := 2) dX6_existingTrain_6 rfl rfl ?_
  refine ww_getI (f := 161) wf_X6_87 dX6_existingTrain_7 rfl rfl (show ww_is _ _ 4 from hi4).1 (show ww_is _ _ 4 from hi4).2 ?_
  refine ww_if_eq_t (tgt := 24) dX6_existingTrain_10 (by decide) hk' ?_
  refine ww_aload_n (i := 2) dX6_existingTrain_24 rfl rfl ?_
  exact ww_areturn dX6_existingTrain_25 rfl (by first | exact Or.inl ⟨_, rfl⟩ | exact Or.inr ⟨_, rfl⟩) (r := some _) rfl ⟨rfl, rfl⟩
set_option maxRecDepth 20000 in
theorem c_existingWheel (hw : ww_wo g M0 M x pl pe n P) (h : ww_pf M P W kl n S) {p : Nat} (hp : p < n) (hk : S 2 p = 3) : ww_C g wy_X6_existingWheel 5 0 0 [.ref x, .int (nI p)] M (ww_ret (some (.ref (W p))) M) ww_no := by
  refine ww_ent (by decide +kernel) (Nat.le_of_ble_eq_true rfl) ⟨rfl, rfl, trivial⟩ ?_
  have hi4 := (h.1 p hp).1.1
  have hR := ((h.1 p hp).2.1 hk).1
  refine ww_aload_n (i := 0) dX6_existingWheel_0 rfl rfl ?_
  refine ww_iload_n (i := 1) dX6_existingWheel_1 rfl rfl ?_
  refine ww_callV (κ := 7) (r := (RX6, TX6, 4)) wk_X6_83 dX6_existingWheel_2 (c_existing hw h hp) rfl rfl (show ww_is _ _ 7 from hw.1).1 (show ww_is _ _ 7 from hw.1).2 rfl rfl (by omega) (by omega) (by omega) (by first | exact Nat.le_of_ble_eq_true rfl | (simp [ww_rf_cat, Value.category])) rfl (fun E M9 h9 => h9.elim) (fun v9 M9 h9 => ?_)
  obtain ⟨rfl, rfl⟩ := h9
  refine ww_getR (f := 165) wf_X6_345 dX6_existingWheel_5 rfl rfl (show ww_is _ _ 4 from hi4).1 (show ww_is _ _ 4 from hi4).2 hR ?_
  first | refine ww_astore_n (i := 2) (lv2 := [(0, _), (1, _), (2, _)]) dX6_existingWheel_8 rfl (Nat.le_of_ble_eq_true rfl) rfl ?_ | refine ww_astore_nQ (i := 2) (lv2 := [(0, _), (1, _), (2, _)]) dX6_existingWheel_8 rfl (Nat.le_of_ble_eq_true rfl) rfl ?_
  refine ww_aload_n (i := 2) dX6_existingWheel_9 rfl rfl ?_
  refine ww_ifnonnull_t (tgt := 24) dX6_existingWheel_10 (by decide) ?_
  refine ww_aload_n (i := 2) dX6_existingWheel_24 rfl rfl ?_
  exact ww_areturn dX6_existingWheel_25 rfl (by first | exact Or.inl ⟨_, rfl⟩ | exact Or.inr ⟨_, rfl⟩) (r := some _) rfl ⟨rfl, rfl⟩
end WWH1
