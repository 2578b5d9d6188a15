section WWO1
variable {g : ww_G} {M0 M M1 : ww_M} {a x pl pe n : Nat} {P W kl : Nat → Nat} {S : Nat → Nat → Int32} {v : Int32}
set_option maxRecDepth 20000 in
theorem c_recall_1 (hc : ¬ q_rg 0 9 v) : ww_C g wy_X6_recall 7 1 6 [.ref x, .int v] M ww_nr (ww_th "java/lang/IllegalArgumentException" M) := by
  refine ww_ent (by decide +kernel) (Nat.le_of_ble_eq_true rfl) ⟨rfl, rfl, trivial⟩ ?_
  refine ww_iload_n (i := 1) dX6_recall_0 rfl rfl ?_
  refine ww_iconst (v := 0) dX6_recall_1 (by decide) ?_
  refine ww_bipush (v := 9) dX6_recall_2 (by decide) ?_
  refine ww_callS wk_X6_41 rfl dX6_recall_4 (c_out_t hc) rfl rfl (by omega) (by omega) (by omega) (by first | exact Nat.le_of_ble_eq_true rfl | (simp [ww_rf_cat, Value.category])) rfl (fun E M9 h9 => h9.elim) (fun v9 M9 h9 => ?_)
  obtain ⟨rfl, rfl⟩ := h9
  refine ww_if_eq_f (tgt := 20) dX6_recall_7 (by decide) (by decide) ?_
  exact ww_throw wx_X6_45_253 dX6_recall_10 dX6_recall_13 dX6_recall_14 dX6_recall_16 dX6_recall_19 rfl (Nat.le_of_ble_eq_true rfl) (by omega) (by omega) (by first | exact Nat.le_of_ble_eq_true rfl | (simp [ww_rf_cat, Value.category])) ⟨rfl, rfl⟩
set_option maxRecDepth 20000 in
set_option maxHeartbeats 4000000 in
theorem c_recall_l (hG : q_G S n) : ∀ (m i : Nat) (M : ww_M), i + m = n → ww_wo g M0 M x pl pe n P → ww_pf M P W kl n (q_rc S v i) → ww_A g wy_X6_recall 5 0 0 M 24 [(0, .ref x), (1, .int v), (2, .int (nI (q_cnt (q_hit S v) i))), (3, .int (nI i))] [] (ww_cq g M0 (some (.int (nI (q_cnt (q_hit S v) n)))) x pl pe n P W kl (q_rc S v n)) ww_no
  | 0, i, M, hm, hw, h => by
    have h6 := hG.2.1
    have e0 : i = n := by omega
    subst e0
    have hsz := l_size (g := g) hw.2.2.1
    refine ww_iload_n (i := 3) dX6_recall_24 rfl rfl ?_
    refine ww_aload_n (i := 0) dX6_recall_25 rfl rfl ?_
    refine ww_getR (f := 280) wf_X6_10 dX6_recall_26 rfl rfl (show ww_is _ _ 7 from hw.1).1 (show ww_is _ _ 7 from hw.1).2 hw.2.1 ?_
    refine ww_callV (κ := 0) (r := (RJx4a65c, TJx4a65c, 3)) wk_X6_52 dX6_recall_29 (hsz) rfl rfl (show ww_is _ _ 0 from hw.2.2.1.1).1 (show ww_is _ _ 0 from hw.2.2.1.1).2 rfl rfl (by omega) (by omega) (by omega) (by first | exact Nat.le_of_ble_eq_true rfl | (simp [ww_rf_cat, Value.category])) rfl (fun E M9 h9 => h9.elim) (fun v9 M9 h9 => ?_)
    obtain ⟨rfl, rfl⟩ := h9
    refine ww_icmp_ge_t (tgt := 97) dX6_recall_32 (by decide) (nI_le (Nat.le_refl _) (by omega)) ?_
    refine ww_iload_n (i := 2) dX6_recall_97 rfl rfl ?_
    exact ww_ireturn dX6_recall_98 rfl (by first | rfl | exact ww_b_nar) ⟨rfl, hw, h⟩
  | m + 1, i, M, hm, hw, h => by
    have h6 := hG.2.1
    have hi : i < n := by omega
    have hsz := l_size (g := g) hw.2.2.1
    have hgt := l_get (g := g) hw.2.2.1 hi
    obtain ⟨⟨hi4, _, _, k3, _⟩, _, _, _, k167, ⟨_, _, _, _, k10, _⟩, _⟩ := h.1 i hi
    rw [q_rc_k (by decide)] at k3 k167
    rw [q_rc_10] at k10
    by_cases c1 : S 3 i = v
    · by_cases c2 : S 5 i = -2
      · rw [if_pos c2] at k167
        have k167 : ¬ ww_I M 167 (P i) = 0 := by rw [k167]; decide
        have c : ¬ q_hit S v i := fun z => z.2.1 c2
        rw [← q_rc_f c] at h
        have hl := c_recall_l hG m (i + 1) M (by omega) hw h
        rw [q_cnt_n c] at hl
        refine ww_iload_n (i := 3) dX6_recall_24 rfl rfl ?_
        refine ww_aload_n (i := 0) dX6_recall_25 rfl rfl ?_
        refine ww_getR (f := 280) wf_X6_10 dX6_recall_26 rfl rfl (show ww_is _ _ 7 from hw.1).1 (show ww_is _ _ 7 from hw.1).2 hw.2.1 ?_
        refine ww_callV (κ := 0) (r := (RJx4a65c, TJx4a65c, 3)) wk_X6_52 dX6_recall_29 (hsz) rfl rfl (show ww_is _ _ 0 from hw.2.2.1.1).1 (show ww_is _ _ 0 from hw.2.2.1.1).2 rfl rfl (by omega) (by omega) (by omega) (by first | exact Nat.le_of_ble_eq_true rfl | (simp [ww_rf_cat, Value.category])) rfl (fun E M9 h9 => h9.elim) (fun v9 M9 h9 => ?_)
        obtain ⟨rfl, rfl⟩ := h9
        refine ww_icmp_ge_f (tgt := 97) dX6_recall_32 (by decide) (nI_ge (by omega) (by omega)) ?_
        refine ww_aload_n (i := 0) dX6_recall_35 rfl rfl ?_
        refine ww_getR (f := 280) wf_X6_10 dX6_recall_36 rfl rfl (show ww_is _ _ 7 from hw.1).1 (show ww_is _ _ 7 from hw.1).2 hw.2.1 ?_
        refine ww_iload_n (i := 3) dX6_recall_39 rfl rfl ?_
        refine ww_callV (κ := 0) (r := (RJx4a65c, TJx4a65c, 3)) wk_X6_171 dX6_recall_40 (hgt) rfl rfl (show ww_is _ _ 0 from hw.2.2.1.1).1 (show ww_is _ _ 0 from hw.2.2.1.1).2 rfl rfl (by omega) (by omega) (by omega) (by first | exact Nat.le_of_ble_eq_true rfl | (simp [ww_rf_cat, Value.category])) rfl (fun E M9 h9 => h9.elim) (fun v9 M9 h9 => ?_)
        obtain ⟨rfl, rfl⟩ := h9
        refine ww_cast (nm := "") (κ := 4) (r := (RX3, TX3, 18)) dX6_recall_43 (show ww_is _ _ 4 from hi4).1 (show ww_is _ _ 4 from hi4).2 rfl wm_256 ?_
        first | refine ww_astore (i := 4) (lv2 := [(0, _), (1, _), (2, _), (3, _), (4, _)]) dX6_recall_46 (Nat.le_of_ble_eq_true rfl) rfl ?_ | refine ww_astoreQ (i := 4) (lv2 := [(0, _), (1, _), (2, _), (3, _), (4, _)]) dX6_recall_46 (Nat.le_of_ble_eq_true rfl) rfl ?_
        refine ww_aload (i := 4) dX6_recall_48 rfl ?_
        refine ww_getI (f := 162) wf_X6_255 dX6_recall_50 rfl rfl (show ww_is _ _ 4 from hi4).1 (show ww_is _ _ 4 from hi4).2 ?_
        refine ww_iload_n (i := 1) dX6_recall_53 rfl rfl ?_
        refine ww_icmp_ne_f (tgt := 91) dX6_recall_54 (by decide) (k3.trans c1) ?_
        refine ww_aload (i := 4) dX6_recall_57 rfl ?_
        refine ww_getI (f := 167) wf_X6_106 dX6_recall_59 rfl rfl (show ww_is _ _ 4 from hi4).1 (show ww_is _ _ 4 from hi4).2 ?_
        refine ww_if_ne_t (tgt := 91) dX6_recall_62 (by decide) k167 ?_
        refine ww_iinc (i := 3) (v := _ + 1) (lv2 := [(0, _), (1, _), (2, _), (3, _), (4, _)]) dX6_recall_91 rfl (by rfl) (Nat.le_of_ble_eq_true rfl) rfl ?_
        refine ww_goto (tgt := 24) dX6_recall_94 (by decide) ?_
        -- at 24, locals [0, 1, 2, 3, 4]
        rw [nI_1]
        exact ww_subk hl ⟨rfl, rfl, rfl, rfl, trivial⟩
      · rw [if_neg c2] at k167
        by_cases c3 : S 10 i = 0
        · have c : q_hit S v i := ⟨c1, c2, c3⟩
          have h1 := ww_pf_172 (v := 1) h hi
          have hG1 : q_G (ww_u2 (q_rc S v i) 10 i 1) n := q_G_b (q_G_rc hG) (Or.inr rfl) (by decide)
          have e5 : ww_u2 (q_rc S v i) 10 i 1 5 = S 5 := by
            funext j
            exact (ww_u2n (fun z => absurd z.1 (by decide))).trans (congrFun (q_rc_k (by decide)) j)
          have hd := q_hd_lt hG.2.2.1 hG.2.1 5 i hi
          have htop := p_top (g := g) h1 hG1 hi
          rw [e5] at htop
          have ht4 := (h1.1 _ hd).1.1
          have h2 := ww_pf_175 (v := 0) h1 hd
          rw [q_rc_t c] at h2
          have hl := c_recall_l hG m (i + 1) _ (by omega) (ww_wo_I (ww_wo_I hw (by decide)) (by decide)) h2
          rw [q_cnt_s c, ← nI_1 (q_cnt (q_hit S v) i)] at hl
          refine ww_iload_n (i := 3) dX6_recall_24 rfl rfl ?_
          refine ww_aload_n (i := 0) dX6_recall_25 rfl rfl ?_
          refine ww_getR (f := 280) wf_X6_10 dX6_recall_26 rfl rfl (show ww_is _ _ 7 from hw.1).1 (show ww_is _ _ 7 from hw.1).2 hw.2.1 ?_
          refine ww_callV (κ := 0) (r := (RJx4a65c, TJx4a65c, 3)) wk_X6_52 dX6_recall_29 (hsz) rfl rfl (show ww_is _ _ 0 from hw.2.2.1.1).1 (show ww_is _ _ 0 from hw.2.2.1.1).2 rfl rfl (by omega) (by omega) (by omega) (by first | exact Nat.le_of_ble_eq_true rfl | (simp [ww_rf_cat, Value.category])) rfl (fun E M9 h9 => h9.elim) (fun v9 M9 h9 => ?_)
          obtain ⟨rfl, rfl⟩ := h9
          refine ww_icmp_ge_f (tgt := 97) dX6_recall_32 (by decide) (nI_ge (by omega) (by omega)) ?_
          refine ww_aload_n (i := 0) dX6_recall_35 rfl rfl ?_
          refine ww_getR (f := 280) wf_X6_10 dX6_recall_36 rfl rfl (show ww_is _ _ 7 from hw.1).1 (show ww_is _ _ 7 from hw.1).2 hw.2.1 ?_
          refine ww_iload_n (i := 3) dX6_recall_39 rfl rfl ?_
          refine ww_callV (κ := 0) (r := (RJx4a65c, TJx4a65c, 3)) wk_X6_171 dX6_recall_40 (hgt) rfl rfl (show ww_is _ _ 0 from hw.2.2.1.1).1 (show ww_is _ _ 0 from hw.2.2.1.1).2 rfl rfl (by omega) (by omega) (by omega) (by first | exact Nat.le_of_ble_eq_true rfl | (simp [ww_rf_cat, Value.category])) rfl (fun E M9 h9 => h9.elim) (fun v9 M9 h9 => ?_)
          obtain ⟨rfl, rfl⟩ := h9
          refine ww_cast (nm := "") (κ := 4) (r := (RX3, TX3, 18)) dX6_recall_43 (show ww_is _ _ 4 from hi4).1 (show ww_is _ _ 4 from hi4).2 rfl wm_256 ?_
          first | refine ww_astore (i := 4) (lv2 := [(0, _), (1, _), (2, _), (3, _), (4, _)]) dX6_recall_46 (Nat.le_of_ble_eq_true rfl) rfl ?_ | refine ww_astoreQ (i := 4) (lv2 := [(0, _), (1, _), (2, _), (3, _), (4, _)]) dX6_recall_46 (Nat.le_of_ble_eq_true rfl) rfl ?_
          refine ww_aload (i := 4) dX6_recall_48 rfl ?_
          refine ww_getI (f := 162) wf_X6_255 dX6_recall_50 rfl rfl (show ww_is _ _ 4 from hi4).1 (show ww_is _ _ 4 from hi4).2 ?_
          refine ww_iload_n (i := 1) dX6_recall_53 rfl rfl ?_
          refine ww_icmp_ne_f (tgt := 91) dX6_recall_54 (by decide) (k3.trans c1) ?_
          refine ww_aload (i := 4) dX6_recall_57 rfl ?_
          refine ww_getI (f := 167) wf_X6_106 dX6_recall_59 rfl rfl (show ww_is _ _ 4 from hi4).1 (show ww_is _ _ 4 from hi4).2 ?_
          refine ww_if_ne_f (tgt := 91) dX6_recall_62 (by decide) k167 ?_
          refine ww_aload (i := 4) dX6_recall_65 rfl ?_
          refine ww_getI (f := 172) wf_X6_248 dX6_recall_67 rfl rfl (show ww_is _ _ 4 from hi4).1 (show ww_is _ _ 4 from hi4).2 ?_
          refine ww_if_ne_f (tgt := 91) dX6_recall_70 (by decide) (k10.trans c3) ?_
          refine ww_aload (i := 4) dX6_recall_73 rfl ?_
          refine ww_iconst (v := 1) dX6_recall_75 (by decide) ?_
          refine ww_putI (f := 172) wf_X6_248 wt_4_12 dX6_recall_76 rfl rfl (show ww_is _ _ 4 from hi4).1 (show ww_is _ _ 4 from hi4).2 (by first | rfl | exact ww_b_nar) (by first | rfl | exact ww_b_fit) ?_
          refine ww_aload (i := 4) dX6_recall_79 rfl ?_
          refine ww_callV (κ := 4) (r := (RX3, TX3, 18)) wk_X6_137 dX6_recall_81 (htop) rfl rfl (show ww_is _ _ 4 from hi4).1 (show ww_is _ _ 4 from hi4).2 rfl rfl (by omega) (by omega) (by omega) (by first | exact Nat.le_of_ble_eq_true rfl | (simp [ww_rf_cat, Value.category])) rfl (fun E M9 h9 => h9.elim) (fun v9 M9 h9 => ?_)
          obtain ⟨rfl, rfl⟩ := h9
          refine ww_iconst (v := 0) dX6_recall_84 (by decide) ?_
          refine ww_putI (f := 175) wf_X6_141 wt_4_15 dX6_recall_85 rfl rfl (show ww_is _ _ 4 from ht4).1 (show ww_is _ _ 4 from ht4).2 (by first | rfl | exact ww_b_nar) (by first | rfl | exact ww_b_fit) ?_
          refine ww_iinc (i := 2) (v := _ + 1) (lv2 := [(0, _), (1, _), (2, _), (3, _), (4, _)]) dX6_recall_88 rfl (by rfl) (Nat.le_of_ble_eq_true rfl) rfl ?_
          refine ww_iinc (i := 3) (v := _ + 1) (lv2 := [(0, _), (1, _), (2, _), (3, _), (4, _)]) dX6_recall_91 rfl (by rfl) (Nat.le_of_ble_eq_true rfl) rfl ?_
          refine ww_goto (tgt := 24) dX6_recall_94 (by decide) ?_
          -- at 24, locals [0, 1, 2, 3, 4]
          rw [nI_1 i]
          exact ww_subk hl ⟨rfl, rfl, rfl, rfl, trivial⟩
        · have c : ¬ q_hit S v i := fun z => c3 z.2.2
          rw [← q_rc_f c] at h
          have hl := c_recall_l hG m (i + 1) M (by omega) hw h
          rw [q_cnt_n c] at hl
          refine ww_iload_n (i := 3) dX6_recall_24 rfl rfl ?_
          refine ww_aload_n (i := 0) dX6_recall_25 rfl rfl ?_
          refine ww_getR (f := 280) wf_X6_10 dX6_recall_26 rfl rfl (show ww_is _ _ 7 from hw.1).1 (show ww_is _ _ 7 from hw.1).2 hw.2.1 ?_
          refine ww_callV (κ := 0) (r := (RJx4a65c, TJx4a65c, 3)) wk_X6_52 dX6_recall_29 (hsz) rfl rfl (show ww_is _ _ 0 from hw.2.2.1.1).1 (show ww_is _ _ 0 from hw.2.2.1.1).2 rfl rfl (by omega) (by omega) (by omega) (by first | exact Nat.le_of_ble_eq_true rfl | (simp [ww_rf_cat, Value.category])) rfl (fun E M9 h9 => h9.elim) (fun v9 M9 h9 => ?_)
          obtain ⟨rfl, rfl⟩ := h9
          refine ww_icmp_ge_f (tgt := 97) dX6_recall_32 (by decide) (nI_ge (by omega) (by omega)) ?_
          refine ww_aload_n (i := 0) dX6_recall_35 rfl rfl ?_
          refine ww_getR (f := 280) wf_X6_10 dX6_recall_36 rfl rfl (show ww_is _ _ 7 from hw.1).1 (show ww_is _ _ 7 from hw.1).2 hw.2.1 ?_
          refine ww_iload_n (i := 3) dX6_recall_39 rfl rfl ?_
          refine ww_callV (κ := 0) (r := (RJx4a65c, TJx4a65c, 3)) wk_X6_171 dX6_recall_40 (hgt) rfl rfl (show ww_is _ _ 0 from hw.2.2.1.1).1 (show ww_is _ _ 0 from hw.2.2.1.1).2 rfl rfl (by omega) (by omega) (by omega) (by first | exact Nat.le_of_ble_eq_true rfl | (simp [ww_rf_cat, Value.category])) rfl (fun E M9 h9 => h9.elim) (fun v9 M9 h9 => ?_)
          obtain ⟨rfl, rfl⟩ := h9
          refine ww_cast (nm := "") (κ := 4) (r := (RX3, TX3, 18)) dX6_recall_43 (show ww_is _ _ 4 from hi4).1 (show ww_is _ _ 4 from hi4).2 rfl wm_256 ?_
          first | refine ww_astore (i := 4) (lv2 := [(0, _), (1, _), (2, _), (3, _), (4, _)]) dX6_recall_46 (Nat.le_of_ble_eq_true rfl) rfl ?_ | refine ww_astoreQ (i := 4) (lv2 := [(0, _), (1, _), (2, _), (3, _), (4, _)]) dX6_recall_46 (Nat.le_of_ble_eq_true rfl) rfl ?_
          refine ww_aload (i := 4) dX6_recall_48 rfl ?_
          refine ww_getI (f := 162) wf_X6_255 dX6_recall_50 rfl rfl (show ww_is _ _ 4 from hi4).1 (show ww_is _ _ 4 from hi4).2 ?_
          refine ww_iload_n (i := 1) dX6_recall_53 rfl rfl ?_
          refine ww_icmp_ne_f (tgt := 91) dX6_recall_54 (by decide) (k3.trans c1) ?_
          refine ww_aload (i := 4) dX6_recall_57 rfl ?_
          refine ww_getI (f := 167) wf_X6_106 dX6_recall_59 rfl rfl (show ww_is _ _ 4 from hi4).1 (show ww_is _ _ 4 from hi4).2 ?_
          refine ww_if_ne_f (tgt := 91) dX6_recall_62 (by decide) k167 ?_
          refine ww_aload (i := 4) dX6_recall_65 rfl ?_
          refine ww_getI (f := 172) wf_X6_248 dX6_recall_67 rfl rfl (show ww_is _ _ 4 from hi4).1 (show ww_is _ _ 4 from hi4).2 ?_
          refine ww_if_ne_t (tgt := 91) dX6_recall_70 (by decide) (by rw [k10]; exact c3) ?_
          refine ww_iinc (i := 3) (v := _ + 1) (lv2 := [(0, _), (1, _), (2, _), (3, _), (4, _)]) dX6_recall_91 rfl (by rfl) (Nat.le_of_ble_eq_true rfl) rfl ?_
          refine ww_goto (tgt := 24) dX6_recall_94 (by decide) ?_
          -- at 24, locals [0, 1, 2, 3, 4]
          rw [nI_1]
          exact ww_subk hl ⟨rfl, rfl, rfl, rfl, trivial⟩
    · have c : ¬ q_hit S v i := fun z => c1 z.1
      rw [← q_rc_f c] at h
      have hl := c_recall_l hG m (i + 1) M (by omega) hw h
      rw [q_cnt_n c] at hl
      refine ww_iload_n (i := 3) dX6_recall_24 rfl rfl ?_
      refine ww_aload_n (i := 0) dX6_recall_25 rfl rfl ?_
      refine ww_getR (f := 280) wf_X6_10 dX6_recall_26 rfl rfl (show ww_is _ _ 7 from hw.1).1 (show ww_is _ _ 7 from hw.1).2 hw.2.1 ?_
      refine ww_callV (κ := 0) (r := (RJx4a65c, TJx4a65c, 3)) wk_X6_52 dX6_recall_29 (hsz) rfl rfl (show ww_is _ _ 0 from hw.2.2.1.1).1 (show ww_is _ _ 0 from hw.2.2.1.1).2 rfl rfl (by omega) (by omega) (by omega) (by first | exact Nat.le_of_ble_eq_true rfl | (simp [ww_rf_cat, Value.category])) rfl (fun E M9 h9 => h9.elim) (fun v9 M9 h9 => ?_)
      obtain ⟨rfl, rfl⟩ := h9
      refine ww_icmp_ge_f (tgt := 97) dX6_recall_32 (by decide) (nI_ge (by omega) (by omega)) ?_
      refine ww_aload_n (i := 0) dX6_recall_35 rfl rfl ?_
      refine ww_getR (f := 280) wf_X6_10 dX6_recall_36 rfl rfl (show ww_is _ _ 7 from hw.1).1 (show ww_is _ _ 7 from hw.1).2 hw.2.1 ?_
      refine ww_iload_n (i := 3) dX6_recall_39 rfl rfl ?_
      refine ww_callV (κ := 0) (r := (RJx4a65c, TJx4a65c, 3)) wk_X6_171 dX6_recall_40 (hgt) rfl rfl (show ww_is _ _ 0 from hw.2.2.1.1).1 (show ww_is _ _ 0 from hw.2.2.1.1).2 rfl rfl (by omega) (by omega) (by omega) (by first | exact Nat.le_of_ble_eq_true rfl | (simp [ww_rf_cat, Value.category])) rfl (fun E M9 h9 => h9.elim) (fun v9 M9 h9 => ?_)
      obtain ⟨rfl, rfl⟩ := h9
      refine ww_cast (nm := "") (κ := 4) (r := (RX3, TX3, 18)) dX6_recall_43 (show ww_is _ _ 4 from hi4).1 (show ww_is _ _ 4 from hi4).2 rfl wm_256 ?_
      first | refine ww_astore (i := 4) (lv2 := [(0, _), (1, _), (2, _), (3, _), (4, _)]) dX6_recall_46 (Nat.le_of_ble_eq_true rfl) rfl ?_ | refine ww_astoreQ (i := 4) (lv2 := [(0, _), (1, _), (2, _), (3, _), (4, _)]) dX6_recall_46 (Nat.le_of_ble_eq_true rfl) rfl ?_
      refine ww_aload (i := 4) dX6_recall_48 rfl ?_
      refine ww_getI (f := 162) wf_X6_255 dX6_recall_50 rfl rfl (show ww_is _ _ 4 from hi4).1 (show ww_is _ _ 4 from hi4).2 ?_
      refine ww_iload_n (i := 1) dX6_recall_53 rfl rfl ?_
      refine ww_icmp_ne_t (tgt := 91) dX6_recall_54 (by decide) (by rw [k3]; exact c1) ?_
      refine ww_iinc (i := 3) (v := _ + 1) (lv2 := [(0, _), (1, _), (2, _), (3, _), (4, _)]) dX6_recall_91 rfl (by rfl) (Nat.le_of_ble_eq_true rfl) rfl ?_
      refine ww_goto (tgt := 24) dX6_recall_94 (by decide) ?_
      -- at 24, locals [0, 1, 2, 3, 4]
      rw [nI_1]
      exact ww_subk hl ⟨rfl, rfl, rfl, rfl, trivial⟩
set_option maxRecDepth 20000 in
theorem c_recall_0 (hw : ww_wo g M0 M x pl pe n P) (h : ww_pf M P W kl n S) (hG : q_G S n) (hc : q_rg 0 9 v) : ww_C g wy_X6_recall 5 0 0 [.ref x, .int v] M (ww_cq g M0 (some (.int (nI (q_cnt (q_hit S v) n)))) x pl pe n P W kl (q_rc S v n)) ww_no := by
  refine ww_ent (by decide +kernel) (Nat.le_of_ble_eq_true rfl) ⟨rfl, rfl, trivial⟩ ?_
  have hl := c_recall_l (g := g) (v := v) hG n 0 M (by omega) hw (by rw [q_rc_0]; exact h)
  rw [show q_cnt (q_hit S v) 0 = 0 from rfl, nI_0] at hl
  refine ww_iload_n (i := 1) dX6_recall_0 rfl rfl ?_
  refine ww_iconst (v := 0) dX6_recall_1 (by decide) ?_
  refine ww_bipush (v := 9) dX6_recall_2 (by decide) ?_
  refine ww_callS wk_X6_41 rfl dX6_recall_4 (c_out_f hc) rfl rfl (by omega) (by omega) (by omega) (by first | exact Nat.le_of_ble_eq_true rfl | (simp [ww_rf_cat, Value.category])) rfl (fun E M9 h9 => h9.elim) (fun v9 M9 h9 => ?_)
  obtain ⟨rfl, rfl⟩ := h9
  refine ww_if_eq_t (tgt := 20) dX6_recall_7 (by decide) (by decide) ?_
  refine ww_iconst (v := 0) dX6_recall_20 (by decide) ?_
  refine ww_istore_n (i := 2) (lv2 := [(0, _), (1, _), (2, _)]) dX6_recall_21 rfl (Nat.le_of_ble_eq_true rfl) rfl ?_
  refine ww_iconst (v := 0) dX6_recall_22 (by decide) ?_
  refine ww_istore_n (i := 3) (lv2 := [(0, _), (1, _), (2, _), (3, _)]) dX6_recall_23 rfl (Nat.le_of_ble_eq_true rfl) rfl ?_
  -- at 24, locals [0, 1, 2, 3]
  exact hl
end WWO1
