section WWW
variable {g : ww_G} {M M1 : ww_M} {x : Nat} {ar : Nat → Nat} {n w : Nat} {S1 : Nat → Nat → Int32}
/-! host, head, lifeAnew, ofPart, trace, wheel -/
set_option maxRecDepth 20000 in
set_option maxHeartbeats 4000000 in
theorem m_host_1 (hM : ww_mo x ar M.1 M.2.2.1) (hG : q_G (q_S M x ar) n) {p : Int32} (hc : q_noP n p) : ww_C g wy_X7_host 3 0 0 [.ref x, .int p] M (ww_ru x ar M (some (.int 0)) (q_us (q_S M x ar) 0 1)) ww_no := by
  refine ww_ent (by decide +kernel) (Nat.le_of_ble_eq_true rfl) ⟨rfl, rfl, trivial⟩ ?_
  have hu : ww_up x ar M (q_S M x ar) M := ww_up_rf
  refine ww_aload_n (i := 0) dX7_host_0 rfl rfl ?_
  refine ww_aload_n (i := 0) dX7_host_1 rfl rfl ?_
  refine ww_iload_n (i := 1) dX7_host_2 rfl rfl ?_
  refine ww_callV (κ := 8) (r := (RX7, TX7, 33)) wk_X7_109 dX7_host_3 (u_isPart_f hM hu hG hc) rfl rfl (show ww_is _ _ 8 from (ww_up_mo hM hu).1).1 (show ww_is _ _ 8 from (ww_up_mo hM hu).1).2 rfl rfl (by omega) (by omega) (by omega) (by first | exact Nat.le_of_ble_eq_true rfl | (simp [ww_rf_cat, Value.category])) rfl (fun E M9 h9 => h9.elim) (fun v9 M9 h9 => ?_)
  obtain ⟨rfl, rfl⟩ := h9
  refine ww_if_eq_t (tgt := 13) dX7_host_6 (by decide) (by decide) ?_
  refine ww_iconst (v := 1) dX7_host_13 (by decide) ?_
  refine ww_pputI (k := 0) hM hu dX7_host_14 wf_X7_98 wt_8_0 rfl rfl rfl rfl (fun M1 hu => ?_)
  refine ww_aload_n (i := 0) dX7_host_17 rfl rfl ?_
  refine ww_pgetI (k := 0) hM hu dX7_host_18 wf_X7_98 rfl rfl (q_us_s) ?_
  refine ww_if_le_f (tgt := 28) dX7_host_21 (by decide) (by decide) ?_
  refine ww_iconst (v := 0) dX7_host_24 (by decide) ?_
  refine ww_goto (tgt := 34) dX7_host_25 (by decide) ?_
  exact ww_ireturn dX7_host_34 rfl (by first | rfl | exact ww_b_nar) ⟨rfl, hu⟩
set_option maxRecDepth 20000 in
set_option maxHeartbeats 4000000 in
theorem m_host_0 (hM : ww_mo x ar M.1 M.2.2.1) (hG : q_G (q_S M x ar) n) {p : Nat} (hp : p < n) : ww_C g wy_X7_host 3 0 0 [.ref x, .int (nI p)] M (ww_ru x ar M (some (.int ((q_S M x ar) 5 p))) (q_us (q_S M x ar) 0 0)) ww_no := by
  refine ww_ent (by decide +kernel) (Nat.le_of_ble_eq_true rfl) ⟨rfl, rfl, trivial⟩ ?_
  have hu : ww_up x ar M (q_S M x ar) M := ww_up_rf
  have h6 := hG.2.1
  refine ww_aload_n (i := 0) dX7_host_0 rfl rfl ?_
  refine ww_aload_n (i := 0) dX7_host_1 rfl rfl ?_
  refine ww_iload_n (i := 1) dX7_host_2 rfl rfl ?_
  refine ww_callV (κ := 8) (r := (RX7, TX7, 33)) wk_X7_109 dX7_host_3 (u_isPart_t hM hu hG hp) rfl rfl (show ww_is _ _ 8 from (ww_up_mo hM hu).1).1 (show ww_is _ _ 8 from (ww_up_mo hM hu).1).2 rfl rfl (by omega) (by omega) (by omega) (by first | exact Nat.le_of_ble_eq_true rfl | (simp [ww_rf_cat, Value.category])) rfl (fun E M9 h9 => h9.elim) (fun v9 M9 h9 => ?_)
  obtain ⟨rfl, rfl⟩ := h9
  refine ww_if_eq_f (tgt := 13) dX7_host_6 (by decide) (by decide) ?_
  refine ww_iconst (v := 0) dX7_host_9 (by decide) ?_
  refine ww_goto (tgt := 14) dX7_host_10 (by decide) ?_
  refine ww_pputI (k := 0) hM hu dX7_host_14 wf_X7_98 wt_8_0 rfl rfl rfl rfl (fun M1 hu => ?_)
  refine ww_aload_n (i := 0) dX7_host_17 rfl rfl ?_
  refine ww_pgetI (k := 0) hM hu dX7_host_18 wf_X7_98 rfl rfl (q_us_s) ?_
  refine ww_if_le_t (tgt := 28) dX7_host_21 (by decide) (by decide) ?_
  refine ww_aload_n (i := 0) dX7_host_28 rfl rfl ?_
  refine ww_getR (f := 325) wf_X7_19 dX7_host_29 rfl rfl (ww_up_mo hM hu).1.1 (ww_up_mo hM hu).1.2 ((ww_up_mo hM hu).2.1 5 rfl) ?_
  refine ww_iload_n (i := 1) dX7_host_32 rfl rfl ?_
  refine ww_pald (k := 5) hM hu dX7_host_33 rfl rfl rfl (show _ < 60 by omega) ((q_us_n (by decide)).trans (rfl)) ?_
  exact ww_ireturn dX7_host_34 rfl (by first | rfl | exact ww_b_nar) ⟨rfl, hu⟩
set_option maxRecDepth 20000 in
set_option maxHeartbeats 4000000 in
theorem m_head_1 (hM : ww_mo x ar M.1 M.2.2.1) (hG : q_G (q_S M x ar) n) {p : Int32} (hc : q_noP n p) : ww_C g wy_X7_head 3 0 0 [.ref x, .int p] M (ww_ru x ar M (some (.int 0)) (q_us (q_S M x ar) 0 1)) ww_no := by
  refine ww_ent (by decide +kernel) (Nat.le_of_ble_eq_true rfl) ⟨rfl, rfl, trivial⟩ ?_
  have hu : ww_up x ar M (q_S M x ar) M := ww_up_rf
  refine ww_aload_n (i := 0) dX7_head_0 rfl rfl ?_
  refine ww_aload_n (i := 0) dX7_head_1 rfl rfl ?_
  refine ww_iload_n (i := 1) dX7_head_2 rfl rfl ?_
  refine ww_callV (κ := 8) (r := (RX7, TX7, 33)) wk_X7_109 dX7_head_3 (u_isPart_f hM hu hG hc) rfl rfl (show ww_is _ _ 8 from (ww_up_mo hM hu).1).1 (show ww_is _ _ 8 from (ww_up_mo hM hu).1).2 rfl rfl (by omega) (by omega) (by omega) (by first | exact Nat.le_of_ble_eq_true rfl | (simp [ww_rf_cat, Value.category])) rfl (fun E M9 h9 => h9.elim) (fun v9 M9 h9 => ?_)
  obtain ⟨rfl, rfl⟩ := h9
  refine ww_if_eq_t (tgt := 13) dX7_head_6 (by decide) (by decide) ?_
  refine ww_iconst (v := 1) dX7_head_13 (by decide) ?_
  refine ww_pputI (k := 0) hM hu dX7_head_14 wf_X7_98 wt_8_0 rfl rfl rfl rfl (fun M1 hu => ?_)
  refine ww_aload_n (i := 0) dX7_head_17 rfl rfl ?_
  refine ww_pgetI (k := 0) hM hu dX7_head_18 wf_X7_98 rfl rfl (q_us_s) ?_
  refine ww_if_le_f (tgt := 28) dX7_head_21 (by decide) (by decide) ?_
  refine ww_iconst (v := 0) dX7_head_24 (by decide) ?_
  refine ww_goto (tgt := 33) dX7_head_25 (by decide) ?_
  exact ww_ireturn dX7_head_33 rfl (by first | rfl | exact ww_b_nar) ⟨rfl, hu⟩
set_option maxRecDepth 20000 in
set_option maxHeartbeats 4000000 in
theorem m_head_0 (hM : ww_mo x ar M.1 M.2.2.1) (hG : q_G (q_S M x ar) n) {p : Nat} (hp : p < n) : ww_C g wy_X7_head 3 0 0 [.ref x, .int (nI p)] M (ww_ru x ar M (some (.int (nI (q_hd ((q_S M x ar) 5) 5 p)))) (q_us (q_S M x ar) 0 0)) ww_no := by
  refine ww_ent (by decide +kernel) (Nat.le_of_ble_eq_true rfl) ⟨rfl, rfl, trivial⟩ ?_
  have hu : ww_up x ar M (q_S M x ar) M := ww_up_rf
  refine ww_aload_n (i := 0) dX7_head_0 rfl rfl ?_
  refine ww_aload_n (i := 0) dX7_head_1 rfl rfl ?_
  refine ww_iload_n (i := 1) dX7_head_2 rfl rfl ?_
  refine ww_callV (κ := 8) (r := (RX7, TX7, 33)) wk_X7_109 dX7_head_3 (u_isPart_t hM hu hG hp) rfl rfl (show ww_is _ _ 8 from (ww_up_mo hM hu).1).1 (show ww_is _ _ 8 from (ww_up_mo hM hu).1).2 rfl rfl (by omega) (by omega) (by omega) (by first | exact Nat.le_of_ble_eq_true rfl | (simp [ww_rf_cat, Value.category])) rfl (fun E M9 h9 => h9.elim) (fun v9 M9 h9 => ?_)
  obtain ⟨rfl, rfl⟩ := h9
  refine ww_if_eq_f (tgt := 13) dX7_head_6 (by decide) (by decide) ?_
  refine ww_iconst (v := 0) dX7_head_9 (by decide) ?_
  refine ww_goto (tgt := 14) dX7_head_10 (by decide) ?_
  refine ww_pputI (k := 0) hM hu dX7_head_14 wf_X7_98 wt_8_0 rfl rfl rfl rfl (fun M1 hu => ?_)
  refine ww_aload_n (i := 0) dX7_head_17 rfl rfl ?_
  refine ww_pgetI (k := 0) hM hu dX7_head_18 wf_X7_98 rfl rfl (q_us_s) ?_
  refine ww_if_le_t (tgt := 28) dX7_head_21 (by decide) (by decide) ?_
  refine ww_aload_n (i := 0) dX7_head_28 rfl rfl ?_
  refine ww_iload_n (i := 1) dX7_head_29 rfl rfl ?_
  refine ww_callV (κ := 8) (r := (RX7, TX7, 33)) wk_X7_114 dX7_head_30 (u_headOf hM hu (q_G_c hG) hp) rfl rfl (show ww_is _ _ 8 from (ww_up_mo hM hu).1).1 (show ww_is _ _ 8 from (ww_up_mo hM hu).1).2 rfl rfl (by omega) (by omega) (by omega) (by first | exact Nat.le_of_ble_eq_true rfl | (simp [ww_rf_cat, Value.category])) rfl (fun E M9 h9 => h9.elim) (fun v9 M9 h9 => ?_)
  obtain ⟨rfl, rfl⟩ := h9
  exact ww_ireturn dX7_head_33 rfl (by first | rfl | exact ww_b_nar) ⟨rfl, hu⟩
set_option maxRecDepth 20000 in
set_option maxHeartbeats 4000000 in
theorem m_lifeAnew_1 (hM : ww_mo x ar M.1 M.2.2.1) (hG : q_G (q_S M x ar) n) {p : Int32} (hc : q_noP n p) : ww_C g wy_X7_lifeAnew 3 0 0 [.ref x, .int p] M (ww_ru x ar M (some (.int 0)) (q_us (q_S M x ar) 0 1)) ww_no := by
  refine ww_ent (by decide +kernel) (Nat.le_of_ble_eq_true rfl) ⟨rfl, rfl, trivial⟩ ?_
  have hu : ww_up x ar M (q_S M x ar) M := ww_up_rf
  refine ww_aload_n (i := 0) dX7_lifeAnew_0 rfl rfl ?_
  refine ww_aload_n (i := 0) dX7_lifeAnew_1 rfl rfl ?_
  refine ww_iload_n (i := 1) dX7_lifeAnew_2 rfl rfl ?_
  refine ww_callV (κ := 8) (r := (RX7, TX7, 33)) wk_X7_109 dX7_lifeAnew_3 (u_isPart_f hM hu hG hc) rfl rfl (show ww_is _ _ 8 from (ww_up_mo hM hu).1).1 (show ww_is _ _ 8 from (ww_up_mo hM hu).1).2 rfl rfl (by omega) (by omega) (by omega) (by first | exact Nat.le_of_ble_eq_true rfl | (simp [ww_rf_cat, Value.category])) rfl (fun E M9 h9 => h9.elim) (fun v9 M9 h9 => ?_)
  obtain ⟨rfl, rfl⟩ := h9
  refine ww_if_eq_t (tgt := 13) dX7_lifeAnew_6 (by decide) (by decide) ?_
  refine ww_iconst (v := 1) dX7_lifeAnew_13 (by decide) ?_
  refine ww_pputI (k := 0) hM hu dX7_lifeAnew_14 wf_X7_98 wt_8_0 rfl rfl rfl rfl (fun M1 hu => ?_)
  refine ww_aload_n (i := 0) dX7_lifeAnew_17 rfl rfl ?_
  refine ww_pgetI (k := 0) hM hu dX7_lifeAnew_18 wf_X7_98 rfl rfl (q_us_s) ?_
  refine ww_if_le_f (tgt := 28) dX7_lifeAnew_21 (by decide) (by decide) ?_
  refine ww_iconst (v := 0) dX7_lifeAnew_24 (by decide) ?_
  refine ww_goto (tgt := 34) dX7_lifeAnew_25 (by decide) ?_
  exact ww_ireturn dX7_lifeAnew_34 rfl (by first | rfl | exact ww_b_nar) ⟨rfl, hu⟩
set_option maxRecDepth 20000 in
set_option maxHeartbeats 4000000 in
theorem m_lifeAnew_0 (hM : ww_mo x ar M.1 M.2.2.1) (hG : q_G (q_S M x ar) n) {p : Nat} (hp : p < n) : ww_C g wy_X7_lifeAnew 3 0 0 [.ref x, .int (nI p)] M (ww_ru x ar M (some (.int ((q_S M x ar) 6 p))) (q_us (q_S M x ar) 0 0)) ww_no := by
  refine ww_ent (by decide +kernel) (Nat.le_of_ble_eq_true rfl) ⟨rfl, rfl, trivial⟩ ?_
  have hu : ww_up x ar M (q_S M x ar) M := ww_up_rf
  have h6 := hG.2.1
  refine ww_aload_n (i := 0) dX7_lifeAnew_0 rfl rfl ?_
  refine ww_aload_n (i := 0) dX7_lifeAnew_1 rfl rfl ?_
  refine ww_iload_n (i := 1) dX7_lifeAnew_2 rfl rfl ?_
  refine ww_callV (κ := 8) (r := (RX7, TX7, 33)) wk_X7_109 dX7_lifeAnew_3 (u_isPart_t hM hu hG hp) rfl rfl (show ww_is _ _ 8 from (ww_up_mo hM hu).1).1 (show ww_is _ _ 8 from (ww_up_mo hM hu).1).2 rfl rfl (by omega) (by omega) (by omega) (by first | exact Nat.le_of_ble_eq_true rfl | (simp [ww_rf_cat, Value.category])) rfl (fun E M9 h9 => h9.elim) (fun v9 M9 h9 => ?_)
  obtain ⟨rfl, rfl⟩ := h9
  refine ww_if_eq_f (tgt := 13) dX7_lifeAnew_6 (by decide) (by decide) ?_
  refine ww_iconst (v := 0) dX7_lifeAnew_9 (by decide) ?_
  refine ww_goto (tgt := 14) dX7_lifeAnew_10 (by decide) ?_
  refine ww_pputI (k := 0) hM hu dX7_lifeAnew_14 wf_X7_98 wt_8_0 rfl rfl rfl rfl (fun M1 hu => ?_)
  refine ww_aload_n (i := 0) dX7_lifeAnew_17 rfl rfl ?_
  refine ww_pgetI (k := 0) hM hu dX7_lifeAnew_18 wf_X7_98 rfl rfl (q_us_s) ?_
  refine ww_if_le_t (tgt := 28) dX7_lifeAnew_21 (by decide) (by decide) ?_
  refine ww_aload_n (i := 0) dX7_lifeAnew_28 rfl rfl ?_
  refine ww_getR (f := 326) wf_X7_22 dX7_lifeAnew_29 rfl rfl (ww_up_mo hM hu).1.1 (ww_up_mo hM hu).1.2 ((ww_up_mo hM hu).2.1 6 rfl) ?_
  refine ww_iload_n (i := 1) dX7_lifeAnew_32 rfl rfl ?_
  refine ww_pald (k := 6) hM hu dX7_lifeAnew_33 rfl rfl rfl (show _ < 60 by omega) ((q_us_n (by decide)).trans (rfl)) ?_
  exact ww_ireturn dX7_lifeAnew_34 rfl (by first | rfl | exact ww_b_nar) ⟨rfl, hu⟩
set_option maxRecDepth 20000 in
set_option maxHeartbeats 4000000 in
theorem m_wheel_1 (hM : ww_mo x ar M.1 M.2.2.1) (hG : q_G (q_S M x ar) n) {p : Int32} (v : Int32) (hc : q_noP n p) : ww_C g wy_X7_wheel 4 0 0 [.ref x, .int p, .int v] M (ww_ru x ar M (some (.int 0)) (q_us (q_S M x ar) 0 1)) ww_no := by
  refine ww_ent (by decide +kernel) (Nat.le_of_ble_eq_true rfl) ⟨rfl, rfl, rfl, trivial⟩ ?_
  have hu : ww_up x ar M (q_S M x ar) M := ww_up_rf
  refine ww_aload_n (i := 0) dX7_wheel_0 rfl rfl ?_
  refine ww_aload_n (i := 0) dX7_wheel_1 rfl rfl ?_
  refine ww_iload_n (i := 1) dX7_wheel_2 rfl rfl ?_
  refine ww_iconst (v := 3) dX7_wheel_3 (by decide) ?_
  refine ww_callV (κ := 8) (r := (RX7, TX7, 33)) wk_X7_148 dX7_wheel_4 (u_kind_1 hM hu hG 3 hc) rfl rfl (show ww_is _ _ 8 from (ww_up_mo hM hu).1).1 (show ww_is _ _ 8 from (ww_up_mo hM hu).1).2 rfl rfl (by omega) (by omega) (by omega) (by first | exact Nat.le_of_ble_eq_true rfl | (simp [ww_rf_cat, Value.category])) rfl (fun E M9 h9 => h9.elim) (fun v9 M9 h9 => ?_)
  obtain ⟨rfl, rfl⟩ := h9
  refine ww_pputI (k := 0) hM hu dX7_wheel_7 wf_X7_98 wt_8_0 rfl rfl rfl rfl (fun M1 hu => ?_)
  refine ww_aload_n (i := 0) dX7_wheel_10 rfl rfl ?_
  refine ww_aload_n (i := 0) dX7_wheel_11 rfl rfl ?_
  refine ww_pgetI (k := 0) hM hu dX7_wheel_12 wf_X7_98 rfl rfl (q_us_s) ?_
  refine ww_if_ne_t (tgt := 31) dX7_wheel_15 (by decide) (by decide) ?_
  refine ww_aload_n (i := 0) dX7_wheel_31 rfl rfl ?_
  refine ww_pgetI (k := 0) hM hu dX7_wheel_32 wf_X7_98 rfl rfl (q_us_s) ?_
  refine ww_pputI (k := 0) hM hu dX7_wheel_35 wf_X7_98 wt_8_0 rfl rfl rfl rfl (fun M1 hu => ?_)
  refine ww_aload_n (i := 0) dX7_wheel_38 rfl rfl ?_
  refine ww_pgetI (k := 0) hM hu dX7_wheel_39 wf_X7_98 rfl rfl (q_us_s) ?_
  refine ww_if_le_f (tgt := 47) dX7_wheel_42 (by decide) (by decide) ?_
  refine ww_iconst (v := 0) dX7_wheel_45 (by decide) ?_
  exact ww_ireturn dX7_wheel_46 rfl (by first | rfl | exact ww_b_nar) ⟨rfl, ww_up_cg hu q_us_us⟩
set_option maxRecDepth 20000 in
set_option maxHeartbeats 4000000 in
theorem m_wheel_2 (hM : ww_mo x ar M.1 M.2.2.1) (hG : q_G (q_S M x ar) n) {p : Nat} {v : Int32} (hp : p < n) (hc : ¬ ((q_S M x ar) 2 p = 3 ∧ q_rg 0 2 v)) : ww_C g wy_X7_wheel 4 0 0 [.ref x, .int (nI p), .int v] M (ww_ru x ar M (some (.int 0)) (q_us (q_S M x ar) 0 2)) ww_no := by
  refine ww_ent (by decide +kernel) (Nat.le_of_ble_eq_true rfl) ⟨rfl, rfl, rfl, trivial⟩ ?_
  have hu : ww_up x ar M (q_S M x ar) M := ww_up_rf
  have h6 := hG.2.1
  by_cases c1 : (q_S M x ar) 2 p = 3
  · have c2 : ¬ q_rg 0 2 v := fun z => hc ⟨c1, z⟩
    refine ww_aload_n (i := 0) dX7_wheel_0 rfl rfl ?_
    refine ww_aload_n (i := 0) dX7_wheel_1 rfl rfl ?_
    refine ww_iload_n (i := 1) dX7_wheel_2 rfl rfl ?_
    refine ww_iconst (v := 3) dX7_wheel_3 (by decide) ?_
    refine ww_callV (κ := 8) (r := (RX7, TX7, 33)) wk_X7_148 dX7_wheel_4 (u_kind_0 hM hu hG hp c1) rfl rfl (show ww_is _ _ 8 from (ww_up_mo hM hu).1).1 (show ww_is _ _ 8 from (ww_up_mo hM hu).1).2 rfl rfl (by omega) (by omega) (by omega) (by first | exact Nat.le_of_ble_eq_true rfl | (simp [ww_rf_cat, Value.category])) rfl (fun E M9 h9 => h9.elim) (fun v9 M9 h9 => ?_)
    obtain ⟨rfl, rfl⟩ := h9
    refine ww_pputI (k := 0) hM hu dX7_wheel_7 wf_X7_98 wt_8_0 rfl rfl rfl rfl (fun M1 hu => ?_)
    refine ww_aload_n (i := 0) dX7_wheel_10 rfl rfl ?_
    refine ww_aload_n (i := 0) dX7_wheel_11 rfl rfl ?_
    refine ww_pgetI (k := 0) hM hu dX7_wheel_12 wf_X7_98 rfl rfl (q_us_s) ?_
    refine ww_if_ne_f (tgt := 31) dX7_wheel_15 (by decide) (by decide) ?_
    refine ww_iload_n (i := 2) dX7_wheel_18 rfl rfl ?_
    refine ww_iconst (v := 0) dX7_wheel_19 (by decide) ?_
    refine ww_iconst (v := 2) dX7_wheel_20 (by decide) ?_
    refine ww_callS wk_X7_105 rfl dX7_wheel_21 (m_in_f c2) rfl rfl (by omega) (by omega) (by omega) (by first | exact Nat.le_of_ble_eq_true rfl | (simp [ww_rf_cat, Value.category])) rfl (fun E M9 h9 => h9.elim) (fun v9 M9 h9 => ?_)
    obtain ⟨rfl, rfl⟩ := h9
    refine ww_if_ne_f (tgt := 31) dX7_wheel_24 (by decide) (by decide) ?_
    refine ww_iconst (v := 2) dX7_wheel_27 (by decide) ?_
    refine ww_goto (tgt := 35) dX7_wheel_28 (by decide) ?_
    refine ww_pputI (k := 0) hM hu dX7_wheel_35 wf_X7_98 wt_8_0 rfl rfl rfl rfl (fun M1 hu => ?_)
    refine ww_aload_n (i := 0) dX7_wheel_38 rfl rfl ?_
    refine ww_pgetI (k := 0) hM hu dX7_wheel_39 wf_X7_98 rfl rfl (q_us_s) ?_
    refine ww_if_le_f (tgt := 47) dX7_wheel_42 (by decide) (by decide) ?_
    refine ww_iconst (v := 0) dX7_wheel_45 (by decide) ?_
    exact ww_ireturn dX7_wheel_46 rfl (by first | rfl | exact ww_b_nar) ⟨rfl, ww_up_cg hu q_us_us⟩
  · refine ww_aload_n (i := 0) dX7_wheel_0 rfl rfl ?_
    refine ww_aload_n (i := 0) dX7_wheel_1 rfl rfl ?_
    refine ww_iload_n (i := 1) dX7_wheel_2 rfl rfl ?_
    refine ww_iconst (v := 3) dX7_wheel_3 (by decide) ?_
    refine ww_callV (κ := 8) (r := (RX7, TX7, 33)) wk_X7_148 dX7_wheel_4 (u_kind_2 hM hu hG hp c1) rfl rfl (show ww_is _ _ 8 from (ww_up_mo hM hu).1).1 (show ww_is _ _ 8 from (ww_up_mo hM hu).1).2 rfl rfl (by omega) (by omega) (by omega) (by first | exact Nat.le_of_ble_eq_true rfl | (simp [ww_rf_cat, Value.category])) rfl (fun E M9 h9 => h9.elim) (fun v9 M9 h9 => ?_)
    obtain ⟨rfl, rfl⟩ := h9
    refine ww_pputI (k := 0) hM hu dX7_wheel_7 wf_X7_98 wt_8_0 rfl rfl rfl rfl (fun M1 hu => ?_)
    refine ww_aload_n (i := 0) dX7_wheel_10 rfl rfl ?_
    refine ww_aload_n (i := 0) dX7_wheel_11 rfl rfl ?_
    refine ww_pgetI (k := 0) hM hu dX7_wheel_12 wf_X7_98 rfl rfl (q_us_s) ?_
    refine ww_if_ne_t (tgt := 31) dX7_wheel_15 (by decide) (by decide) ?_
    refine ww_aload_n (i := 0) dX7_wheel_31 rfl rfl ?_
    refine ww_pgetI (k := 0) hM hu dX7_wheel_32 wf_X7_98 rfl rfl (q_us_s) ?_
    refine ww_pputI (k := 0) hM hu dX7_wheel_35 wf_X7_98 wt_8_0 rfl rfl rfl rfl (fun M1 hu => ?_)
    refine ww_aload_n (i := 0) dX7_wheel_38 rfl rfl ?_
    refine ww_pgetI (k := 0) hM hu dX7_wheel_39 wf_X7_98 rfl rfl (q_us_s) ?_
    refine ww_if_le_f (tgt := 47) dX7_wheel_42 (by decide) (by decide) ?_
    refine ww_iconst (v := 0) dX7_wheel_45 (by decide) ?_
    exact ww_ireturn dX7_wheel_46 rfl (by first | rfl | exact ww_b_nar) ⟨rfl, ww_up_cg hu q_us_us⟩
def q_wheel (S : Nat → Nat → Int32) (p : Nat) (v : Int32) : Int32 := if v = 0 then S 13 p else if v = 1 then S 14 p else if S 17 p = 0 then -1 else S 16 p
set_option maxRecDepth 20000 in
set_option maxHeartbeats 4000000 in
theorem m_wheel_0 (hM : ww_mo x ar M.1 M.2.2.1) (hG : q_G (q_S M x ar) n) {p : Nat} {v : Int32} (hp : p < n) (hc : (q_S M x ar) 2 p = 3 ∧ q_rg 0 2 v) : ww_C g wy_X7_wheel 4 0 0 [.ref x, .int (nI p), .int v] M (ww_ru x ar M (some (.int (q_wheel (q_S M x ar) p v))) (q_us (q_S M x ar) 0 0)) ww_no := by
  refine ww_ent (by decide +kernel) (Nat.le_of_ble_eq_true rfl) ⟨rfl, rfl, rfl, trivial⟩ ?_
  have hu : ww_up x ar M (q_S M x ar) M := ww_up_rf
  have h6 := hG.2.1
  unfold q_wheel
  by_cases c1 : v = 0
  · rw [if_pos c1]
    refine ww_aload_n (i := 0) dX7_wheel_0 rfl rfl ?_
    refine ww_aload_n (i := 0) dX7_wheel_1 rfl rfl ?_
    refine ww_iload_n (i := 1) dX7_wheel_2 rfl rfl ?_
    refine ww_iconst (v := 3) dX7_wheel_3 (by decide) ?_
    refine ww_callV (κ := 8) (r := (RX7, TX7, 33)) wk_X7_148 dX7_wheel_4 (u_kind_0 hM hu hG hp hc.1) rfl rfl (show ww_is _ _ 8 from (ww_up_mo hM hu).1).1 (show ww_is _ _ 8 from (ww_up_mo hM hu).1).2 rfl rfl (by omega) (by omega) (by omega) (by first | exact Nat.le_of_ble_eq_true rfl | (simp [ww_rf_cat, Value.category])) rfl (fun E M9 h9 => h9.elim) (fun v9 M9 h9 => ?_)
    obtain ⟨rfl, rfl⟩ := h9
    refine ww_pputI (k := 0) hM hu dX7_wheel_7 wf_X7_98 wt_8_0 rfl rfl rfl rfl (fun M1 hu => ?_)
    refine ww_aload_n (i := 0) dX7_wheel_10 rfl rfl ?_
    refine ww_aload_n (i := 0) dX7_wheel_11 rfl rfl ?_
    refine ww_pgetI (k := 0) hM hu dX7_wheel_12 wf_X7_98 rfl rfl (q_us_s) ?_
    refine ww_if_ne_f (tgt := 31) dX7_wheel_15 (by decide) (by decide) ?_
    refine ww_iload_n (i := 2) dX7_wheel_18 rfl rfl ?_
    refine ww_iconst (v := 0) dX7_wheel_19 (by decide) ?_
    refine ww_iconst (v := 2) dX7_wheel_20 (by decide) ?_
    refine ww_callS wk_X7_105 rfl dX7_wheel_21 (m_in_t hc.2.1 hc.2.2) rfl rfl (by omega) (by omega) (by omega) (by first | exact Nat.le_of_ble_eq_true rfl | (simp [ww_rf_cat, Value.category])) rfl (fun E M9 h9 => h9.elim) (fun v9 M9 h9 => ?_)
    obtain ⟨rfl, rfl⟩ := h9
    refine ww_if_ne_t (tgt := 31) dX7_wheel_24 (by decide) (by decide) ?_
    refine ww_aload_n (i := 0) dX7_wheel_31 rfl rfl ?_
    refine ww_pgetI (k := 0) hM hu dX7_wheel_32 wf_X7_98 rfl rfl (q_us_s) ?_
    refine ww_pputI (k := 0) hM hu dX7_wheel_35 wf_X7_98 wt_8_0 rfl rfl rfl rfl (fun M1 hu => ?_)
    refine ww_aload_n (i := 0) dX7_wheel_38 rfl rfl ?_
    refine ww_pgetI (k := 0) hM hu dX7_wheel_39 wf_X7_98 rfl rfl (q_us_s) ?_
    refine ww_if_le_t (tgt := 47) dX7_wheel_42 (by decide) (by decide) ?_
    refine ww_iload_n (i := 2) dX7_wheel_47 rfl rfl ?_
    refine ww_if_ne_f (tgt := 60) dX7_wheel_48 (by decide) c1 ?_
    refine ww_aload_n (i := 0) dX7_wheel_51 rfl rfl ?_
    refine ww_getR (f := 333) wf_X7_44 dX7_wheel_52 rfl rfl (ww_up_mo hM hu).1.1 (ww_up_mo hM hu).1.2 ((ww_up_mo hM hu).2.1 13 rfl) ?_
    refine ww_iload_n (i := 1) dX7_wheel_55 rfl rfl ?_
    refine ww_pald (k := 13) hM hu dX7_wheel_56 rfl rfl rfl (show _ < 60 by omega) ((q_us_n (by decide)).trans ((q_us_n (by decide)).trans (rfl))) ?_
    refine ww_goto (tgt := 93) dX7_wheel_57 (by decide) ?_
    exact ww_ireturn dX7_wheel_93 rfl (by first | rfl | exact ww_b_nar) ⟨rfl, ww_up_cg hu q_us_us⟩
  · rw [if_neg c1]
    by_cases c2 : v = 1
    · rw [if_pos c2]
      refine ww_aload_n (i := 0) dX7_wheel_0 rfl rfl ?_
      refine ww_aload_n (i := 0) dX7_wheel_1 rfl rfl ?_
      refine ww_iload_n (i := 1) dX7_wheel_2 rfl rfl ?_
      refine ww_iconst (v := 3) dX7_wheel_3 (by decide) ?_
      refine ww_callV (κ := 8) (r := (RX7, TX7, 33)) wk_X7_148 dX7_wheel_4 (u_kind_0 hM hu hG hp hc.1) rfl rfl (show ww_is _ _ 8 from (ww_up_mo hM hu).1).1 (show ww_is _ _ 8 from (ww_up_mo hM hu).1).2 rfl rfl (by omega) (by omega) (by omega) (by first | exact Nat.le_of_ble_eq_true rfl | (simp [ww_rf_cat, Value.category])) rfl (fun E M9 h9 => h9.elim) (fun v9 M9 h9 => ?_)
      obtain ⟨rfl, rfl⟩ := h9
      refine ww_pputI (k := 0) hM hu dX7_wheel_7 wf_X7_98 wt_8_0 rfl rfl rfl rfl (fun M1 hu => ?_)
      refine ww_aload_n (i := 0) dX7_wheel_10 rfl rfl ?_
      refine ww_aload_n (i := 0) dX7_wheel_11 rfl rfl ?_
      refine ww_pgetI (k := 0) hM hu dX7_wheel_12 wf_X7_98 rfl rfl (q_us_s) ?_
      refine ww_if_ne_f (tgt := 31) dX7_wheel_15 (by decide) (by decide) ?_
      refine ww_iload_n (i := 2) dX7_wheel_18 rfl rfl ?_
      refine ww_iconst (v := 0) dX7_wheel_19 (by decide) ?_
      refine ww_iconst (v := 2) dX7_wheel_20 (by decide) ?_
      refine ww_callS wk_X7_105 rfl dX7_wheel_21 (m_in_t hc.2.1 hc.2.2) rfl rfl (by omega) (by omega) (by omega) (by first | exact Nat.le_of_ble_eq_true rfl | (simp [ww_rf_cat, Value.category])) rfl (fun E M9 h9 => h9.elim) (fun v9 M9 h9 => ?_)
      obtain ⟨rfl, rfl⟩ := h9
      refine ww_if_ne_t (tgt := 31) dX7_wheel_24 (by decide) (by decide) ?_
      refine ww_aload_n (i := 0) dX7_wheel_31 rfl rfl ?_
      refine ww_pgetI (k := 0) hM hu dX7_wheel_32 wf_X7_98 rfl rfl (q_us_s) ?_
      refine ww_pputI (k := 0) hM hu dX7_wheel_35 wf_X7_98 wt_8_0 rfl rfl rfl rfl (fun M1 hu => ?_)
      refine ww_aload_n (i := 0) dX7_wheel_38 rfl rfl ?_
      refine ww_pgetI (k := 0) hM hu dX7_wheel_39 wf_X7_98 rfl rfl (q_us_s) ?_
      refine ww_if_le_t (tgt := 47) dX7_wheel_42 (by decide) (by decide) ?_
      refine ww_iload_n (i := 2) dX7_wheel_47 rfl rfl ?_
      refine ww_if_ne_t (tgt := 60) dX7_wheel_48 (by decide) c1 ?_
      refine ww_iload_n (i := 2) dX7_wheel_60 rfl rfl ?_
      refine ww_iconst (v := 1) dX7_wheel_61 (by decide) ?_
      refine ww_icmp_ne_f (tgt := 74) dX7_wheel_62 (by decide) c2 ?_
      refine ww_aload_n (i := 0) dX7_wheel_65 rfl rfl ?_
      refine ww_getR (f := 334) wf_X7_47 dX7_wheel_66 rfl rfl (ww_up_mo hM hu).1.1 (ww_up_mo hM hu).1.2 ((ww_up_mo hM hu).2.1 14 rfl) ?_
      refine ww_iload_n (i := 1) dX7_wheel_69 rfl rfl ?_
      refine ww_pald (k := 14) hM hu dX7_wheel_70 rfl rfl rfl (show _ < 60 by omega) ((q_us_n (by decide)).trans ((q_us_n (by decide)).trans (rfl))) ?_
      refine ww_goto (tgt := 93) dX7_wheel_71 (by decide) ?_
      exact ww_ireturn dX7_wheel_93 rfl (by first | rfl | exact ww_b_nar) ⟨rfl, ww_up_cg hu q_us_us⟩
    · rw [if_neg c2]
      by_cases c3 : (q_S M x ar) 17 p = 0
      · rw [if_pos c3]
        refine ww_aload_n (i := 0) dX7_wheel_0 rfl rfl ?_
        refine ww_aload_n (i := 0) dX7_wheel_1 rfl rfl ?_
        refine ww_iload_n (i := 1) dX7_wheel_2 rfl rfl ?_
        refine ww_iconst (v := 3) dX7_wheel_3 (by decide) ?_
        refine ww_callV (κ := 8) (r := (RX7, TX7, 33)) wk_X7_148 dX7_wheel_4 (u_kind_0 hM hu hG hp hc.1) rfl rfl (show ww_is _ _ 8 from (ww_up_mo hM hu).1).1 (show ww_is _ _ 8 from (ww_up_mo hM hu).1).2 rfl rfl (by omega) (by omega) (by omega) (by first | exact Nat.le_of_ble_eq_true rfl | (simp [ww_rf_cat, Value.category])) rfl (fun E M9 h9 => h9.elim) (fun v9 M9 h9 => ?_)
        obtain ⟨rfl, rfl⟩ := h9
        refine ww_pputI (k := 0) hM hu dX7_wheel_7 wf_X7_98 wt_8_0 rfl rfl rfl rfl (fun M1 hu => ?_)
        refine ww_aload_n (i := 0) dX7_wheel_10 rfl rfl ?_
        refine ww_aload_n (i := 0) dX7_wheel_11 rfl rfl ?_
        refine ww_pgetI (k := 0) hM hu dX7_wheel_12 wf_X7_98 rfl rfl (q_us_s) ?_
        refine ww_if_ne_f (tgt := 31) dX7_wheel_15 (by decide) (by decide) ?_
        refine ww_iload_n (i := 2) dX7_wheel_18 rfl rfl ?_
        refine ww_iconst (v := 0) dX7_wheel_19 (by decide) ?_
        refine ww_iconst (v := 2) dX7_wheel_20 (by decide) ?_
        refine ww_callS wk_X7_105 rfl dX7_wheel_21 (m_in_t hc.2.1 hc.2.2) rfl rfl (by omega) (by omega) (by omega) (by first | exact Nat.le_of_ble_eq_true rfl | (simp [ww_rf_cat, Value.category])) rfl (fun E M9 h9 => h9.elim) (fun v9 M9 h9 => ?_)
        obtain ⟨rfl, rfl⟩ := h9
        refine ww_if_ne_t (tgt := 31) dX7_wheel_24 (by decide) (by decide) ?_
        refine ww_aload_n (i := 0) dX7_wheel_31 rfl rfl ?_
        refine ww_pgetI (k := 0) hM hu dX7_wheel_32 wf_X7_98 rfl rfl (q_us_s) ?_
        refine ww_pputI (k := 0) hM hu dX7_wheel_35 wf_X7_98 wt_8_0 rfl rfl rfl rfl (fun M1 hu => ?_)
        refine ww_aload_n (i := 0) dX7_wheel_38 rfl rfl ?_
        refine ww_pgetI (k := 0) hM hu dX7_wheel_39 wf_X7_98 rfl rfl (q_us_s) ?_
        refine ww_if_le_t (tgt := 47) dX7_wheel_42 (by decide) (by decide) ?_
        refine ww_iload_n (i := 2) dX7_wheel_47 rfl rfl ?_
        refine ww_if_ne_t (tgt := 60) dX7_wheel_48 (by decide) c1 ?_
        refine ww_iload_n (i := 2) dX7_wheel_60 rfl rfl ?_
        refine ww_iconst (v := 1) dX7_wheel_61 (by decide) ?_
        refine ww_icmp_ne_t (tgt := 74) dX7_wheel_62 (by decide) c2 ?_
        refine ww_aload_n (i := 0) dX7_wheel_74 rfl rfl ?_
        refine ww_getR (f := 337) wf_X7_56 dX7_wheel_75 rfl rfl (ww_up_mo hM hu).1.1 (ww_up_mo hM hu).1.2 ((ww_up_mo hM hu).2.1 17 rfl) ?_
        refine ww_iload_n (i := 1) dX7_wheel_78 rfl rfl ?_
        refine ww_pzld (k := 17) hM hu dX7_wheel_79 rfl rfl rfl (show _ < 60 by omega) ((q_us_n (by decide)).trans ((q_us_n (by decide)).trans (rfl))) ?_
        refine ww_if_eq_t (tgt := 92) dX7_wheel_80 (by decide) c3 ?_
        refine ww_iconst (v := (-1)) dX7_wheel_92 (by decide) ?_
        exact ww_ireturn dX7_wheel_93 rfl (by first | rfl | exact ww_b_nar) ⟨rfl, ww_up_cg hu q_us_us⟩
      · rw [if_neg c3]
        refine ww_aload_n (i := 0) dX7_wheel_0 rfl rfl ?_
        refine ww_aload_n (i := 0) dX7_wheel_1 rfl rfl ?_
        refine ww_iload_n (i := 1) dX7_wheel_2 rfl rfl ?_
        refine ww_iconst (v := 3) dX7_wheel_3 (by decide) ?_
        refine ww_callV (κ := 8) (r := (RX7, TX7, 33)) wk_X7_148 dX7_wheel_4 (u_kind_0 hM hu hG hp hc.1) rfl rfl (show ww_is _ _ 8 from (ww_up_mo hM hu).1).1 (show ww_is _ _ 8 from (ww_up_mo hM hu).1).2 rfl rfl (by omega) (by omega) (by omega) (by first | exact Nat.le_of_ble_eq_true rfl | (simp [ww_rf_cat, Value.category])) rfl (fun E M9 h9 => h9.elim) (fun v9 M9 h9 => ?_)
        obtain ⟨rfl, rfl⟩ := h9
        refine ww_pputI (k := 0) hM hu dX7_wheel_7 wf_X7_98 wt_8_0 rfl rfl rfl rfl (fun M1 hu => ?_)
        refine ww_aload_n (i := 0) dX7_wheel_10 rfl rfl ?_
        refine ww_aload_n (i := 0) dX7_wheel_11 rfl rfl ?_
        refine ww_pgetI (k := 0) hM hu dX7_wheel_12 wf_X7_98 rfl rfl (q_us_s) ?_
        refine ww_if_ne_f (tgt := 31) dX7_wheel_15 (by decide) (by decide) ?_
        refine ww_iload_n (i := 2) dX7_wheel_18 rfl rfl ?_
        refine ww_iconst (v := 0) dX7_wheel_19 (by decide) ?_
        refine ww_iconst (v := 2) dX7_wheel_20 (by decide) ?_
        refine ww_callS wk_X7_105 rfl dX7_wheel_21 (m_in_t hc.2.1 hc.2.2) rfl rfl (by omega) (by omega) (by omega) (by first | exact Nat.le_of_ble_eq_true rfl | (simp [ww_rf_cat, Value.category])) rfl (fun E M9 h9 => h9.elim) (fun v9 M9 h9 => ?_)
        obtain ⟨rfl, rfl⟩ := h9
        refine ww_if_ne_t (tgt := 31) dX7_wheel_24 (by decide) (by decide) ?_
        refine ww_aload_n (i := 0) dX7_wheel_31 rfl rfl ?_
        refine ww_pgetI (k := 0) hM hu dX7_wheel_32 wf_X7_98 rfl rfl (q_us_s) ?_
        refine ww_pputI (k := 0) hM hu dX7_wheel_35 wf_X7_98 wt_8_0 rfl rfl rfl rfl (fun M1 hu => ?_)
        refine ww_aload_n (i := 0) dX7_wheel_38 rfl rfl ?_
        refine ww_pgetI (k := 0) hM hu dX7_wheel_39 wf_X7_98 rfl rfl (q_us_s) ?_
        refine ww_if_le_t (tgt := 47) dX7_wheel_42 (by decide) (by decide) ?_
        refine ww_iload_n (i := 2) dX7_wheel_47 rfl rfl ?_
        refine ww_if_ne_t (tgt := 60) dX7_wheel_48 (by decide) c1 ?_
        refine ww_iload_n (i := 2) dX7_wheel_60 rfl rfl ?_
        refine ww_iconst (v := 1) dX7_wheel_61 (by decide) ?_
        refine ww_icmp_ne_t (tgt := 74) dX7_wheel_62 (by decide) c2 ?_
        refine ww_aload_n (i := 0) dX7_wheel_74 rfl rfl ?_
        refine ww_getR (f := 337) wf_X7_56 dX7_wheel_75 rfl rfl (ww_up_mo hM hu).1.1 (ww_up_mo hM hu).1.2 ((ww_up_mo hM hu).2.1 17 rfl) ?_
        refine ww_iload_n (i := 1) dX7_wheel_78 rfl rfl ?_
        refine ww_pzld (k := 17) hM hu dX7_wheel_79 rfl rfl rfl (show _ < 60 by omega) ((q_us_n (by decide)).trans ((q_us_n (by decide)).trans (rfl))) ?_
        refine ww_if_eq_f (tgt := 92) dX7_wheel_80 (by decide) c3 ?_
        refine ww_aload_n (i := 0) dX7_wheel_83 rfl rfl ?_
        refine ww_getR (f := 336) wf_X7_53 dX7_wheel_84 rfl rfl (ww_up_mo hM hu).1.1 (ww_up_mo hM hu).1.2 ((ww_up_mo hM hu).2.1 16 rfl) ?_
        refine ww_iload_n (i := 1) dX7_wheel_87 rfl rfl ?_
        refine ww_pald (k := 16) hM hu dX7_wheel_88 rfl rfl rfl (show _ < 60 by omega) ((q_us_n (by decide)).trans ((q_us_n (by decide)).trans (rfl))) ?_
        refine ww_goto (tgt := 93) dX7_wheel_89 (by decide) ?_
        exact ww_ireturn dX7_wheel_93 rfl (by first | rfl | exact ww_b_nar) ⟨rfl, ww_up_cg hu q_us_us⟩
set_option maxRecDepth 20000 in
set_option maxHeartbeats 4000000 in
theorem m_ofPart_1 (hM : ww_mo x ar M.1 M.2.2.1) (hG : q_G (q_S M x ar) n) {p : Int32} (v : Int32) (hc : q_noP n p) : ww_C g wy_X7_ofPart 3 0 0 [.ref x, .int p, .int v] M (ww_ru x ar M (some (.int 0)) (q_us (q_S M x ar) 0 1)) ww_no := by
  refine ww_ent (by decide +kernel) (Nat.le_of_ble_eq_true rfl) ⟨rfl, rfl, rfl, trivial⟩ ?_
  have hu : ww_up x ar M (q_S M x ar) M := ww_up_rf
  refine ww_aload_n (i := 0) dX7_ofPart_0 rfl rfl ?_
  refine ww_aload_n (i := 0) dX7_ofPart_1 rfl rfl ?_
  refine ww_iload_n (i := 1) dX7_ofPart_2 rfl rfl ?_
  refine ww_callV (κ := 8) (r := (RX7, TX7, 33)) wk_X7_109 dX7_ofPart_3 (u_isPart_f hM hu hG hc) rfl rfl (show ww_is _ _ 8 from (ww_up_mo hM hu).1).1 (show ww_is _ _ 8 from (ww_up_mo hM hu).1).2 rfl rfl (by omega) (by omega) (by omega) (by first | exact Nat.le_of_ble_eq_true rfl | (simp [ww_rf_cat, Value.category])) rfl (fun E M9 h9 => h9.elim) (fun v9 M9 h9 => ?_)
  obtain ⟨rfl, rfl⟩ := h9
  refine ww_if_ne_f (tgt := 13) dX7_ofPart_6 (by decide) (by decide) ?_
  refine ww_iconst (v := 1) dX7_ofPart_9 (by decide) ?_
  refine ww_goto (tgt := 28) dX7_ofPart_10 (by decide) ?_
  refine ww_pputI (k := 0) hM hu dX7_ofPart_28 wf_X7_98 wt_8_0 rfl rfl rfl rfl (fun M1 hu => ?_)
  refine ww_aload_n (i := 0) dX7_ofPart_31 rfl rfl ?_
  refine ww_pgetI (k := 0) hM hu dX7_ofPart_32 wf_X7_98 rfl rfl (q_us_s) ?_
  refine ww_if_le_f (tgt := 40) dX7_ofPart_35 (by decide) (by decide) ?_
  refine ww_iconst (v := 0) dX7_ofPart_38 (by decide) ?_
  exact ww_ireturn dX7_ofPart_39 rfl (by first | rfl | exact ww_b_nar) ⟨rfl, hu⟩
set_option maxRecDepth 20000 in
set_option maxHeartbeats 4000000 in
theorem m_ofPart_2 (hM : ww_mo x ar M.1 M.2.2.1) (hG : q_G (q_S M x ar) n) {p : Nat} {v : Int32} (hp : p < n) (hc : ¬ q_rg 0 8 v) : ww_C g wy_X7_ofPart 3 0 0 [.ref x, .int (nI p), .int v] M (ww_ru x ar M (some (.int 0)) (q_us (q_S M x ar) 0 2)) ww_no := by
  refine ww_ent (by decide +kernel) (Nat.le_of_ble_eq_true rfl) ⟨rfl, rfl, rfl, trivial⟩ ?_
  have hu : ww_up x ar M (q_S M x ar) M := ww_up_rf
  refine ww_aload_n (i := 0) dX7_ofPart_0 rfl rfl ?_
  refine ww_aload_n (i := 0) dX7_ofPart_1 rfl rfl ?_
  refine ww_iload_n (i := 1) dX7_ofPart_2 rfl rfl ?_
  refine ww_callV (κ := 8) (r := (RX7, TX7, 33)) wk_X7_109 dX7_ofPart_3 (u_isPart_t hM hu hG hp) rfl rfl (show ww_is _ _ 8 from (ww_up_mo hM hu).1).1 (show ww_is _ _ 8 from (ww_up_mo hM hu).1).2 rfl rfl (by omega) (by omega) (by omega) (by first | exact Nat.le_of_ble_eq_true rfl | (simp [ww_rf_cat, Value.category])) rfl (fun E M9 h9 => h9.elim) (fun v9 M9 h9 => ?_)
  obtain ⟨rfl, rfl⟩ := h9
  refine ww_if_ne_t (tgt := 13) dX7_ofPart_6 (by decide) (by decide) ?_
  refine ww_iload_n (i := 2) dX7_ofPart_13 rfl rfl ?_
  refine ww_iconst (v := 0) dX7_ofPart_14 (by decide) ?_
  refine ww_bipush (v := 8) dX7_ofPart_15 (by decide) ?_
  refine ww_callS wk_X7_105 rfl dX7_ofPart_17 (m_in_f hc) rfl rfl (by omega) (by omega) (by omega) (by first | exact Nat.le_of_ble_eq_true rfl | (simp [ww_rf_cat, Value.category])) rfl (fun E M9 h9 => h9.elim) (fun v9 M9 h9 => ?_)
  obtain ⟨rfl, rfl⟩ := h9
  refine ww_if_eq_t (tgt := 27) dX7_ofPart_20 (by decide) (by decide) ?_
  refine ww_iconst (v := 2) dX7_ofPart_27 (by decide) ?_
  refine ww_pputI (k := 0) hM hu dX7_ofPart_28 wf_X7_98 wt_8_0 rfl rfl rfl rfl (fun M1 hu => ?_)
  refine ww_aload_n (i := 0) dX7_ofPart_31 rfl rfl ?_
  refine ww_pgetI (k := 0) hM hu dX7_ofPart_32 wf_X7_98 rfl rfl (q_us_s) ?_
  refine ww_if_le_f (tgt := 40) dX7_ofPart_35 (by decide) (by decide) ?_
  refine ww_iconst (v := 0) dX7_ofPart_38 (by decide) ?_
  exact ww_ireturn dX7_ofPart_39 rfl (by first | rfl | exact ww_b_nar) ⟨rfl, hu⟩
/-- the moves of p -/
noncomputable def q_mv (S : Nat → Nat → Int32) (w p : Nat) : Nat := q_cnt (fun k => S 24 k = nI p) w
noncomputable def q_ofP (S : Nat → Nat → Int32) (w p : Nat) : Nat → Int32
  | 0 => S 2 p | 1 => S 3 p | 2 => S 4 p | 3 => S 6 p | 4 => S 7 p | 5 => S 8 p | 6 => S 9 p | 7 => S 10 p | _ => nI (q_mv S w p)
set_option maxRecDepth 20000 in
set_option maxHeartbeats 4000000 in
theorem m_ofPart_0 (hM : ww_mo x ar M.1 M.2.2.1) (hG : q_G (q_S M x ar) n) (hw : (q_S M x ar) 23 0 = nI w) (h4 : w ≤ 4000) {p : Nat} (hp : p < n) : ∀ v : Nat, v ≤ 8 → ww_C g wy_X7_ofPart 3 0 0 [.ref x, .int (nI p), .int (nI v)] M (ww_ru x ar M (some (.int (q_ofP (q_S M x ar) w p v))) (q_us (q_S M x ar) 0 0)) ww_no := by
  have h6 := hG.2.1
  have hu : ww_up x ar M (q_S M x ar) M := ww_up_rf
  intro v hv
  have h1 : (0 : Int32) ≤ nI v := nI_pos' (by omega)
  have h2 : nI v ≤ 8 := nI_le (b := 8) hv (by decide)
  refine ww_ent (by decide +kernel) (Nat.le_of_ble_eq_true rfl) ⟨rfl, rfl, rfl, trivial⟩ ?_
  refine ww_aload_n (i := 0) dX7_ofPart_0 rfl rfl ?_
  refine ww_aload_n (i := 0) dX7_ofPart_1 rfl rfl ?_
  refine ww_iload_n (i := 1) dX7_ofPart_2 rfl rfl ?_
  refine ww_callV (κ := 8) (r := (RX7, TX7, 33)) wk_X7_109 dX7_ofPart_3 (u_isPart_t hM hu hG hp) rfl rfl (show ww_is _ _ 8 from (ww_up_mo hM hu).1).1 (show ww_is _ _ 8 from (ww_up_mo hM hu).1).2 rfl rfl (by omega) (by omega) (by omega) (by first | exact Nat.le_of_ble_eq_true rfl | (simp [ww_rf_cat, Value.category])) rfl (fun E M9 h9 => h9.elim) (fun v9 M9 h9 => ?_)
  obtain ⟨rfl, rfl⟩ := h9
  refine ww_if_ne_t (tgt := 13) dX7_ofPart_6 (by decide) (by decide) ?_
  refine ww_iload_n (i := 2) dX7_ofPart_13 rfl rfl ?_
  refine ww_iconst (v := 0) dX7_ofPart_14 (by decide) ?_
  refine ww_bipush (v := 8) dX7_ofPart_15 (by decide) ?_
  refine ww_callS wk_X7_105 rfl dX7_ofPart_17 (m_in_t h1 h2) rfl rfl (by omega) (by omega) (by omega) (by first | exact Nat.le_of_ble_eq_true rfl | (simp [ww_rf_cat, Value.category])) rfl (fun E M9 h9 => h9.elim) (fun v9 M9 h9 => ?_)
  obtain ⟨rfl, rfl⟩ := h9
  refine ww_if_eq_f (tgt := 27) dX7_ofPart_20 (by decide) (by decide) ?_
  refine ww_iconst (v := 0) dX7_ofPart_23 (by decide) ?_
  refine ww_goto (tgt := 28) dX7_ofPart_24 (by decide) ?_
  refine ww_pputI (k := 0) hM hu dX7_ofPart_28 wf_X7_98 wt_8_0 rfl rfl rfl rfl (fun M1 hu => ?_)
  refine ww_aload_n (i := 0) dX7_ofPart_31 rfl rfl ?_
  refine ww_pgetI (k := 0) hM hu dX7_ofPart_32 wf_X7_98 rfl rfl (q_us_s) ?_
  refine ww_if_le_t (tgt := 40) dX7_ofPart_35 (by decide) (by decide) ?_
  -- at 40, locals [0, 1, 2]
  have hv : v = 0 ∨ v = 1 ∨ v = 2 ∨ v = 3 ∨ v = 4 ∨ v = 5 ∨ v = 6 ∨ v = 7 ∨ v = 8 := by omega
  rcases hv with rfl | rfl | rfl | rfl | rfl | rfl | rfl | rfl | rfl
  · refine ww_iload_n (i := 2) dX7_ofPart_40 rfl rfl ?_
    refine ww_iconst (v := 3) dX7_ofPart_41 (by decide) ?_
    refine ww_icmp_ge_f (tgt := 79) dX7_ofPart_42 (by decide) (by decide) ?_
    refine ww_iload_n (i := 2) dX7_ofPart_45 rfl rfl ?_
    refine ww_if_ne_f (tgt := 58) dX7_ofPart_46 (by decide) (by decide) ?_
    refine ww_aload_n (i := 0) dX7_ofPart_49 rfl rfl ?_
    refine ww_getR (f := 322) wf_X7_7 dX7_ofPart_50 rfl rfl (ww_up_mo hM hu).1.1 (ww_up_mo hM hu).1.2 ((ww_up_mo hM hu).2.1 2 rfl) ?_
    refine ww_iload_n (i := 1) dX7_ofPart_53 rfl rfl ?_
    refine ww_pald (k := 2) hM hu dX7_ofPart_54 rfl rfl rfl (show _ < 60 by omega) ((q_us_n (by decide)).trans (rfl)) ?_
    refine ww_goto (tgt := 78) dX7_ofPart_55 (by decide) ?_
    exact ww_ireturn dX7_ofPart_78 rfl (by first | rfl | exact ww_b_nar) ⟨rfl, hu⟩
  · refine ww_iload_n (i := 2) dX7_ofPart_40 rfl rfl ?_
    refine ww_iconst (v := 3) dX7_ofPart_41 (by decide) ?_
    refine ww_icmp_ge_f (tgt := 79) dX7_ofPart_42 (by decide) (by decide) ?_
    refine ww_iload_n (i := 2) dX7_ofPart_45 rfl rfl ?_
    refine ww_if_ne_t (tgt := 58) dX7_ofPart_46 (by decide) (by decide) ?_
    refine ww_iload_n (i := 2) dX7_ofPart_58 rfl rfl ?_
    refine ww_iconst (v := 1) dX7_ofPart_59 (by decide) ?_
    refine ww_icmp_ne_f (tgt := 72) dX7_ofPart_60 (by decide) (by decide) ?_
    refine ww_aload_n (i := 0) dX7_ofPart_63 rfl rfl ?_
    refine ww_getR (f := 323) wf_X7_13 dX7_ofPart_64 rfl rfl (ww_up_mo hM hu).1.1 (ww_up_mo hM hu).1.2 ((ww_up_mo hM hu).2.1 3 rfl) ?_
    refine ww_iload_n (i := 1) dX7_ofPart_67 rfl rfl ?_
    refine ww_pald (k := 3) hM hu dX7_ofPart_68 rfl rfl rfl (show _ < 60 by omega) ((q_us_n (by decide)).trans (rfl)) ?_
    refine ww_goto (tgt := 78) dX7_ofPart_69 (by decide) ?_
    exact ww_ireturn dX7_ofPart_78 rfl (by first | rfl | exact ww_b_nar) ⟨rfl, hu⟩
  · refine ww_iload_n (i := 2) dX7_ofPart_40 rfl rfl ?_
    refine ww_iconst (v := 3) dX7_ofPart_41 (by decide) ?_
    refine ww_icmp_ge_f (tgt := 79) dX7_ofPart_42 (by decide) (by decide) ?_
    refine ww_iload_n (i := 2) dX7_ofPart_45 rfl rfl ?_
    refine ww_if_ne_t (tgt := 58) dX7_ofPart_46 (by decide) (by decide) ?_
    refine ww_iload_n (i := 2) dX7_ofPart_58 rfl rfl ?_
    refine ww_iconst (v := 1) dX7_ofPart_59 (by decide) ?_
    refine ww_icmp_ne_t (tgt := 72) dX7_ofPart_60 (by decide) (by decide) ?_
    refine ww_aload_n (i := 0) dX7_ofPart_72 rfl rfl ?_
    refine ww_getR (f := 324) wf_X7_16 dX7_ofPart_73 rfl rfl (ww_up_mo hM hu).1.1 (ww_up_mo hM hu).1.2 ((ww_up_mo hM hu).2.1 4 rfl) ?_
    refine ww_iload_n (i := 1) dX7_ofPart_76 rfl rfl ?_
    refine ww_pald (k := 4) hM hu dX7_ofPart_77 rfl rfl rfl (show _ < 60 by omega) ((q_us_n (by decide)).trans (rfl)) ?_
    exact ww_ireturn dX7_ofPart_78 rfl (by first | rfl | exact ww_b_nar) ⟨rfl, hu⟩
  · refine ww_iload_n (i := 2) dX7_ofPart_40 rfl rfl ?_
    refine ww_iconst (v := 3) dX7_ofPart_41 (by decide) ?_
    refine ww_icmp_ge_t (tgt := 79) dX7_ofPart_42 (by decide) (by decide) ?_
    refine ww_iload_n (i := 2) dX7_ofPart_79 rfl rfl ?_
    refine ww_bipush (v := 6) dX7_ofPart_80 (by decide) ?_
    refine ww_icmp_ge_f (tgt := 120) dX7_ofPart_82 (by decide) (by decide) ?_
    refine ww_iload_n (i := 2) dX7_ofPart_85 rfl rfl ?_
    refine ww_iconst (v := 3) dX7_ofPart_86 (by decide) ?_
    refine ww_icmp_ne_f (tgt := 99) dX7_ofPart_87 (by decide) (by decide) ?_
    refine ww_aload_n (i := 0) dX7_ofPart_90 rfl rfl ?_
    refine ww_getR (f := 326) wf_X7_22 dX7_ofPart_91 rfl rfl (ww_up_mo hM hu).1.1 (ww_up_mo hM hu).1.2 ((ww_up_mo hM hu).2.1 6 rfl) ?_
    refine ww_iload_n (i := 1) dX7_ofPart_94 rfl rfl ?_
    refine ww_pald (k := 6) hM hu dX7_ofPart_95 rfl rfl rfl (show _ < 60 by omega) ((q_us_n (by decide)).trans (rfl)) ?_
    refine ww_goto (tgt := 119) dX7_ofPart_96 (by decide) ?_
    exact ww_ireturn dX7_ofPart_119 rfl (by first | rfl | exact ww_b_nar) ⟨rfl, hu⟩
  · refine ww_iload_n (i := 2) dX7_ofPart_40 rfl rfl ?_
    refine ww_iconst (v := 3) dX7_ofPart_41 (by decide) ?_
    refine ww_icmp_ge_t (tgt := 79) dX7_ofPart_42 (by decide) (by decide) ?_
    refine ww_iload_n (i := 2) dX7_ofPart_79 rfl rfl ?_
    refine ww_bipush (v := 6) dX7_ofPart_80 (by decide) ?_
    refine ww_icmp_ge_f (tgt := 120) dX7_ofPart_82 (by decide) (by decide) ?_
    refine ww_iload_n (i := 2) dX7_ofPart_85 rfl rfl ?_
    refine ww_iconst (v := 3) dX7_ofPart_86 (by decide) ?_
    refine ww_icmp_ne_t (tgt := 99) dX7_ofPart_87 (by decide) (by decide) ?_
    refine ww_iload_n (i := 2) dX7_ofPart_99 rfl rfl ?_
    refine ww_iconst (v := 4) dX7_ofPart_100 (by decide) ?_
    refine ww_icmp_ne_f (tgt := 113) dX7_ofPart_101 (by decide) (by decide) ?_
    refine ww_aload_n (i := 0) dX7_ofPart_104 rfl rfl ?_
    refine ww_getR (f := 327) wf_X7_25 dX7_ofPart_105 rfl rfl (ww_up_mo hM hu).1.1 (ww_up_mo hM hu).1.2 ((ww_up_mo hM hu).2.1 7 rfl) ?_
    refine ww_iload_n (i := 1) dX7_ofPart_108 rfl rfl ?_
    refine ww_pald (k := 7) hM hu dX7_ofPart_109 rfl rfl rfl (show _ < 60 by omega) ((q_us_n (by decide)).trans (rfl)) ?_
    refine ww_goto (tgt := 119) dX7_ofPart_110 (by decide) ?_
    exact ww_ireturn dX7_ofPart_119 rfl (by first | rfl | exact ww_b_nar) ⟨rfl, hu⟩
  · refine ww_iload_n (i := 2) dX7_ofPart_40 rfl rfl ?_
    refine ww_iconst (v := 3) dX7_ofPart_41 (by decide) ?_
    refine ww_icmp_ge_t (tgt := 79) dX7_ofPart_42 (by decide) (by decide) ?_
    refine ww_iload_n (i := 2) dX7_ofPart_79 rfl rfl ?_
    refine ww_bipush (v := 6) dX7_ofPart_80 (by decide) ?_
    refine ww_icmp_ge_f (tgt := 120) dX7_ofPart_82 (by decide) (by decide) ?_
    refine ww_iload_n (i := 2) dX7_ofPart_85 rfl rfl ?_
    refine ww_iconst (v := 3) dX7_ofPart_86 (by decide) ?_
    refine ww_icmp_ne_t (tgt := 99) dX7_ofPart_87 (by decide) (by decide) ?_
    refine ww_iload_n (i := 2) dX7_ofPart_99 rfl rfl ?_
    refine ww_iconst (v := 4) dX7_ofPart_100 (by decide) ?_
    refine ww_icmp_ne_t (tgt := 113) dX7_ofPart_101 (by decide) (by decide) ?_
    refine ww_aload_n (i := 0) dX7_ofPart_113 rfl rfl ?_
    refine ww_getR (f := 328) wf_X7_28 dX7_ofPart_114 rfl rfl (ww_up_mo hM hu).1.1 (ww_up_mo hM hu).1.2 ((ww_up_mo hM hu).2.1 8 rfl) ?_
    refine ww_iload_n (i := 1) dX7_ofPart_117 rfl rfl ?_
    refine ww_pald (k := 8) hM hu dX7_ofPart_118 rfl rfl rfl (show _ < 60 by omega) ((q_us_n (by decide)).trans (rfl)) ?_
    exact ww_ireturn dX7_ofPart_119 rfl (by first | rfl | exact ww_b_nar) ⟨rfl, hu⟩
  · by_cases c1 : (q_S M x ar) 9 p = 0
    · refine ww_iload_n (i := 2) dX7_ofPart_40 rfl rfl ?_
      refine ww_iconst (v := 3) dX7_ofPart_41 (by decide) ?_
      refine ww_icmp_ge_t (tgt := 79) dX7_ofPart_42 (by decide) (by decide) ?_
      refine ww_iload_n (i := 2) dX7_ofPart_79 rfl rfl ?_
      refine ww_bipush (v := 6) dX7_ofPart_80 (by decide) ?_
      refine ww_icmp_ge_t (tgt := 120) dX7_ofPart_82 (by decide) (by decide) ?_
      refine ww_iload_n (i := 2) dX7_ofPart_120 rfl rfl ?_
      refine ww_bipush (v := 6) dX7_ofPart_121 (by decide) ?_
      refine ww_icmp_ne_f (tgt := 143) dX7_ofPart_123 (by decide) (by decide) ?_
      refine ww_aload_n (i := 0) dX7_ofPart_126 rfl rfl ?_
      refine ww_getR (f := 329) wf_X7_31 dX7_ofPart_127 rfl rfl (ww_up_mo hM hu).1.1 (ww_up_mo hM hu).1.2 ((ww_up_mo hM hu).2.1 9 rfl) ?_
      refine ww_iload_n (i := 1) dX7_ofPart_130 rfl rfl ?_
      refine ww_pzld (k := 9) hM hu dX7_ofPart_131 rfl rfl rfl (show _ < 60 by omega) ((q_us_n (by decide)).trans (rfl)) ?_
      refine ww_if_eq_t (tgt := 139) dX7_ofPart_132 (by decide) c1 ?_
      refine ww_iconst (v := 0) dX7_ofPart_139 (by decide) ?_
      refine ww_goto (tgt := 171) dX7_ofPart_140 (by decide) ?_
      exact ww_ireturn dX7_ofPart_171 rfl (by first | rfl | exact ww_b_nar) ⟨congrArg (fun z => some (Value.int z)) c1.symm, hu⟩
    · have c2 := (hG.2.2.2.1 p).resolve_left c1
      refine ww_iload_n (i := 2) dX7_ofPart_40 rfl rfl ?_
      refine ww_iconst (v := 3) dX7_ofPart_41 (by decide) ?_
      refine ww_icmp_ge_t (tgt := 79) dX7_ofPart_42 (by decide) (by decide) ?_
      refine ww_iload_n (i := 2) dX7_ofPart_79 rfl rfl ?_
      refine ww_bipush (v := 6) dX7_ofPart_80 (by decide) ?_
      refine ww_icmp_ge_t (tgt := 120) dX7_ofPart_82 (by decide) (by decide) ?_
      refine ww_iload_n (i := 2) dX7_ofPart_120 rfl rfl ?_
      refine ww_bipush (v := 6) dX7_ofPart_121 (by decide) ?_
      refine ww_icmp_ne_f (tgt := 143) dX7_ofPart_123 (by decide) (by decide) ?_
      refine ww_aload_n (i := 0) dX7_ofPart_126 rfl rfl ?_
      refine ww_getR (f := 329) wf_X7_31 dX7_ofPart_127 rfl rfl (ww_up_mo hM hu).1.1 (ww_up_mo hM hu).1.2 ((ww_up_mo hM hu).2.1 9 rfl) ?_
      refine ww_iload_n (i := 1) dX7_ofPart_130 rfl rfl ?_
      refine ww_pzld (k := 9) hM hu dX7_ofPart_131 rfl rfl rfl (show _ < 60 by omega) ((q_us_n (by decide)).trans (rfl)) ?_
      refine ww_if_eq_f (tgt := 139) dX7_ofPart_132 (by decide) c1 ?_
      refine ww_iconst (v := 1) dX7_ofPart_135 (by decide) ?_
      refine ww_goto (tgt := 171) dX7_ofPart_136 (by decide) ?_
      exact ww_ireturn dX7_ofPart_171 rfl (by first | rfl | exact ww_b_nar) ⟨congrArg (fun z => some (Value.int z)) c2.symm, hu⟩
  · by_cases c1 : (q_S M x ar) 10 p = 0
    · refine ww_iload_n (i := 2) dX7_ofPart_40 rfl rfl ?_
      refine ww_iconst (v := 3) dX7_ofPart_41 (by decide) ?_
      refine ww_icmp_ge_t (tgt := 79) dX7_ofPart_42 (by decide) (by decide) ?_
      refine ww_iload_n (i := 2) dX7_ofPart_79 rfl rfl ?_
      refine ww_bipush (v := 6) dX7_ofPart_80 (by decide) ?_
      refine ww_icmp_ge_t (tgt := 120) dX7_ofPart_82 (by decide) (by decide) ?_
      refine ww_iload_n (i := 2) dX7_ofPart_120 rfl rfl ?_
      refine ww_bipush (v := 6) dX7_ofPart_121 (by decide) ?_
      refine ww_icmp_ne_t (tgt := 143) dX7_ofPart_123 (by decide) (by decide) ?_
      refine ww_iload_n (i := 2) dX7_ofPart_143 rfl rfl ?_
      refine ww_bipush (v := 7) dX7_ofPart_144 (by decide) ?_
      refine ww_icmp_ne_f (tgt := 166) dX7_ofPart_146 (by decide) (by decide) ?_
      refine ww_aload_n (i := 0) dX7_ofPart_149 rfl rfl ?_
      refine ww_getR (f := 330) wf_X7_35 dX7_ofPart_150 rfl rfl (ww_up_mo hM hu).1.1 (ww_up_mo hM hu).1.2 ((ww_up_mo hM hu).2.1 10 rfl) ?_
      refine ww_iload_n (i := 1) dX7_ofPart_153 rfl rfl ?_
      refine ww_pzld (k := 10) hM hu dX7_ofPart_154 rfl rfl rfl (show _ < 60 by omega) ((q_us_n (by decide)).trans (rfl)) ?_
      refine ww_if_eq_t (tgt := 162) dX7_ofPart_155 (by decide) c1 ?_
      refine ww_iconst (v := 0) dX7_ofPart_162 (by decide) ?_
      refine ww_goto (tgt := 171) dX7_ofPart_163 (by decide) ?_
      exact ww_ireturn dX7_ofPart_171 rfl (by first | rfl | exact ww_b_nar) ⟨congrArg (fun z => some (Value.int z)) c1.symm, hu⟩
    · have c2 := (hG.2.2.2.2.1 p).resolve_left c1
      refine ww_iload_n (i := 2) dX7_ofPart_40 rfl rfl ?_
      refine ww_iconst (v := 3) dX7_ofPart_41 (by decide) ?_
      refine ww_icmp_ge_t (tgt := 79) dX7_ofPart_42 (by decide) (by decide) ?_
      refine ww_iload_n (i := 2) dX7_ofPart_79 rfl rfl ?_
      refine ww_bipush (v := 6) dX7_ofPart_80 (by decide) ?_
      refine ww_icmp_ge_t (tgt := 120) dX7_ofPart_82 (by decide) (by decide) ?_
      refine ww_iload_n (i := 2) dX7_ofPart_120 rfl rfl ?_
      refine ww_bipush (v := 6) dX7_ofPart_121 (by decide) ?_
      refine ww_icmp_ne_t (tgt := 143) dX7_ofPart_123 (by decide) (by decide) ?_
      refine ww_iload_n (i := 2) dX7_ofPart_143 rfl rfl ?_
      refine ww_bipush (v := 7) dX7_ofPart_144 (by decide) ?_
      refine ww_icmp_ne_f (tgt := 166) dX7_ofPart_146 (by decide) (by decide) ?_
      refine ww_aload_n (i := 0) dX7_ofPart_149 rfl rfl ?_
      refine ww_getR (f := 330) wf_X7_35 dX7_ofPart_150 rfl rfl (ww_up_mo hM hu).1.1 (ww_up_mo hM hu).1.2 ((ww_up_mo hM hu).2.1 10 rfl) ?_
      refine ww_iload_n (i := 1) dX7_ofPart_153 rfl rfl ?_
      refine ww_pzld (k := 10) hM hu dX7_ofPart_154 rfl rfl rfl (show _ < 60 by omega) ((q_us_n (by decide)).trans (rfl)) ?_
      refine ww_if_eq_f (tgt := 162) dX7_ofPart_155 (by decide) c1 ?_
      refine ww_iconst (v := 1) dX7_ofPart_158 (by decide) ?_
      refine ww_goto (tgt := 171) dX7_ofPart_159 (by decide) ?_
      exact ww_ireturn dX7_ofPart_171 rfl (by first | rfl | exact ww_b_nar) ⟨congrArg (fun z => some (Value.int z)) c2.symm, hu⟩
  · refine ww_iload_n (i := 2) dX7_ofPart_40 rfl rfl ?_
    refine ww_iconst (v := 3) dX7_ofPart_41 (by decide) ?_
    refine ww_icmp_ge_t (tgt := 79) dX7_ofPart_42 (by decide) (by decide) ?_
    refine ww_iload_n (i := 2) dX7_ofPart_79 rfl rfl ?_
    refine ww_bipush (v := 6) dX7_ofPart_80 (by decide) ?_
    refine ww_icmp_ge_t (tgt := 120) dX7_ofPart_82 (by decide) (by decide) ?_
    refine ww_iload_n (i := 2) dX7_ofPart_120 rfl rfl ?_
    refine ww_bipush (v := 6) dX7_ofPart_121 (by decide) ?_
    refine ww_icmp_ne_t (tgt := 143) dX7_ofPart_123 (by decide) (by decide) ?_
    refine ww_iload_n (i := 2) dX7_ofPart_143 rfl rfl ?_
    refine ww_bipush (v := 7) dX7_ofPart_144 (by decide) ?_
    refine ww_icmp_ne_t (tgt := 166) dX7_ofPart_146 (by decide) (by decide) ?_
    refine ww_aload_n (i := 0) dX7_ofPart_166 rfl rfl ?_
    refine ww_iload_n (i := 1) dX7_ofPart_167 rfl rfl ?_
    refine ww_callV (κ := 8) (r := (RX7, TX7, 33)) wk_X7_196 dX7_ofPart_168 (u_movesOfPart hM hu hw h4 (nI p)) rfl rfl (show ww_is _ _ 8 from (ww_up_mo hM hu).1).1 (show ww_is _ _ 8 from (ww_up_mo hM hu).1).2 rfl rfl (by omega) (by omega) (by omega) (by first | exact Nat.le_of_ble_eq_true rfl | (simp [ww_rf_cat, Value.category])) rfl (fun E M9 h9 => h9.elim) (fun v9 M9 h9 => ?_)
    obtain ⟨rfl, rfl⟩ := h9
    exact ww_ireturn dX7_ofPart_171 rfl (by first | rfl | exact ww_b_nar) ⟨rfl, hu⟩
/-! trace: the k-th move of p -/
set_option maxRecDepth 20000 in
set_option maxHeartbeats 4000000 in
theorem m_trace_1 (hM : ww_mo x ar M.1 M.2.2.1) (hG : q_G (q_S M x ar) n) (hw : (q_S M x ar) 23 0 = nI w) (h4 : w ≤ 4000) {p : Int32} (v : Int32) (hc : q_noP n p) : ww_C g wy_X7_trace 3 0 0 [.ref x, .int p, .int v] M (ww_ru x ar M (some (.int 0)) (q_us (q_S M x ar) 0 1)) ww_no := by
  refine ww_ent (by decide +kernel) (Nat.le_of_ble_eq_true rfl) ⟨rfl, rfl, rfl, trivial⟩ ?_
  have hu : ww_up x ar M (q_S M x ar) M := ww_up_rf
  refine ww_aload_n (i := 0) dX7_trace_0 rfl rfl ?_
  refine ww_aload_n (i := 0) dX7_trace_1 rfl rfl ?_
  refine ww_iload_n (i := 1) dX7_trace_2 rfl rfl ?_
  refine ww_callV (κ := 8) (r := (RX7, TX7, 33)) wk_X7_109 dX7_trace_3 (u_isPart_f hM hu hG hc) rfl rfl (show ww_is _ _ 8 from (ww_up_mo hM hu).1).1 (show ww_is _ _ 8 from (ww_up_mo hM hu).1).2 rfl rfl (by omega) (by omega) (by omega) (by first | exact Nat.le_of_ble_eq_true rfl | (simp [ww_rf_cat, Value.category])) rfl (fun E M9 h9 => h9.elim) (fun v9 M9 h9 => ?_)
  obtain ⟨rfl, rfl⟩ := h9
  refine ww_if_eq_t (tgt := 28) dX7_trace_6 (by decide) (by decide) ?_
  refine ww_iconst (v := 1) dX7_trace_28 (by decide) ?_
  refine ww_pputI (k := 0) hM hu dX7_trace_29 wf_X7_98 wt_8_0 rfl rfl rfl rfl (fun M1 hu => ?_)
  refine ww_aload_n (i := 0) dX7_trace_32 rfl rfl ?_
  refine ww_pgetI (k := 0) hM hu dX7_trace_33 wf_X7_98 rfl rfl (q_us_s) ?_
  refine ww_if_le_f (tgt := 41) dX7_trace_36 (by decide) (by decide) ?_
  refine ww_iconst (v := 0) dX7_trace_39 (by decide) ?_
  exact ww_ireturn dX7_trace_40 rfl (by first | rfl | exact ww_b_nar) ⟨rfl, hu⟩
set_option maxRecDepth 20000 in
set_option maxHeartbeats 4000000 in
theorem m_trace_2 (hM : ww_mo x ar M.1 M.2.2.1) (hG : q_G (q_S M x ar) n) (hw : (q_S M x ar) 23 0 = nI w) (h4 : w ≤ 4000) {p : Nat} {v : Int32} (hp : p < n) (hc : ¬ (0 ≤ v.toInt ∧ v.toInt < (q_mv (q_S M x ar) w p : Int))) : ww_C g wy_X7_trace 3 0 0 [.ref x, .int (nI p), .int v] M (ww_ru x ar M (some (.int 0)) (q_us (q_S M x ar) 0 1)) ww_no := by
  refine ww_ent (by decide +kernel) (Nat.le_of_ble_eq_true rfl) ⟨rfl, rfl, rfl, trivial⟩ ?_
  have hu : ww_up x ar M (q_S M x ar) M := ww_up_rf
  have hle : q_mv (q_S M x ar) w p ≤ w := q_cnt_le _ w
  have hc : ¬ q_rg 0 (nI (q_mv (q_S M x ar) w p) - 1) v := fun z => hc (by
    obtain ⟨z1, z2⟩ := z
    rw [ww_le'] at z1 z2
    rw [ww_sub1 (by omega)] at z2
    exact ⟨z1, by omega⟩)
  refine ww_aload_n (i := 0) dX7_trace_0 rfl rfl ?_
  refine ww_aload_n (i := 0) dX7_trace_1 rfl rfl ?_
  refine ww_iload_n (i := 1) dX7_trace_2 rfl rfl ?_
  refine ww_callV (κ := 8) (r := (RX7, TX7, 33)) wk_X7_109 dX7_trace_3 (u_isPart_t hM hu hG hp) rfl rfl (show ww_is _ _ 8 from (ww_up_mo hM hu).1).1 (show ww_is _ _ 8 from (ww_up_mo hM hu).1).2 rfl rfl (by omega) (by omega) (by omega) (by first | exact Nat.le_of_ble_eq_true rfl | (simp [ww_rf_cat, Value.category])) rfl (fun E M9 h9 => h9.elim) (fun v9 M9 h9 => ?_)
  obtain ⟨rfl, rfl⟩ := h9
  refine ww_if_eq_f (tgt := 28) dX7_trace_6 (by decide) (by decide) ?_
  refine ww_iload_n (i := 2) dX7_trace_9 rfl rfl ?_
  refine ww_iconst (v := 0) dX7_trace_10 (by decide) ?_
  refine ww_aload_n (i := 0) dX7_trace_11 rfl rfl ?_
  refine ww_iload_n (i := 1) dX7_trace_12 rfl rfl ?_
  refine ww_callV (κ := 8) (r := (RX7, TX7, 33)) wk_X7_196 dX7_trace_13 (u_movesOfPart hM hu hw h4 (nI p)) rfl rfl (show ww_is _ _ 8 from (ww_up_mo hM hu).1).1 (show ww_is _ _ 8 from (ww_up_mo hM hu).1).2 rfl rfl (by omega) (by omega) (by omega) (by first | exact Nat.le_of_ble_eq_true rfl | (simp [ww_rf_cat, Value.category])) rfl (fun E M9 h9 => h9.elim) (fun v9 M9 h9 => ?_)
  obtain ⟨rfl, rfl⟩ := h9
  refine ww_iconst (v := 1) dX7_trace_16 (by decide) ?_
  refine ww_isub dX7_trace_17 ?_
  refine ww_callS wk_X7_105 rfl dX7_trace_18 (m_in_f hc) rfl rfl (by omega) (by omega) (by omega) (by first | exact Nat.le_of_ble_eq_true rfl | (simp [ww_rf_cat, Value.category])) rfl (fun E M9 h9 => h9.elim) (fun v9 M9 h9 => ?_)
  obtain ⟨rfl, rfl⟩ := h9
  refine ww_if_eq_t (tgt := 28) dX7_trace_21 (by decide) (by decide) ?_
  refine ww_iconst (v := 1) dX7_trace_28 (by decide) ?_
  refine ww_pputI (k := 0) hM hu dX7_trace_29 wf_X7_98 wt_8_0 rfl rfl rfl rfl (fun M1 hu => ?_)
  refine ww_aload_n (i := 0) dX7_trace_32 rfl rfl ?_
  refine ww_pgetI (k := 0) hM hu dX7_trace_33 wf_X7_98 rfl rfl (q_us_s) ?_
  refine ww_if_le_f (tgt := 41) dX7_trace_36 (by decide) (by decide) ?_
  refine ww_iconst (v := 0) dX7_trace_39 (by decide) ?_
  exact ww_ireturn dX7_trace_40 rfl (by first | rfl | exact ww_b_nar) ⟨rfl, hu⟩
/-- where the j-th of the rows that are so stands, from i on, of m -/
noncomputable def q_nth (P : Nat → Prop) : Nat → Nat → Nat → Nat
  | 0, _, i => i
  | m + 1, j, i => q_if (P i) (if j = 0 then i else q_nth P m (j - 1) (i + 1)) (q_nth P m j (i + 1))
theorem q_nth_t0 {P : Nat → Prop} {m i : Nat} (h : P i) : q_nth P (m + 1) 0 i = i := q_if_t h
theorem q_nth_t {P : Nat → Prop} {m j i : Nat} (h : P i) : q_nth P (m + 1) (j + 1) i = q_nth P m j (i + 1) := q_if_t h
theorem q_nth_f {P : Nat → Prop} {m j i : Nat} (h : ¬ P i) : q_nth P (m + 1) j i = q_nth P m j (i + 1) := q_if_f h
set_option maxRecDepth 20000 in
theorem m_trace_l (hM : ww_mo x ar M.1 M.2.2.1) {p : Nat} (hp : p < n) (h4 : w ≤ 4000) (hu : ww_up x ar M S1 M1) : ∀ (m i j : Nat), i + m = w → q_cnt (fun k => S1 24 k = nI p) i + j < q_cnt (fun k => S1 24 k = nI p) w → ww_A g wy_X7_trace 3 0 0 M1 46 [(0, .ref x), (1, .int (nI p)), (3, .int (nI j)), (4, .int (nI i))] [] (ww_ru x ar M (some (.int (S1 25 (q_nth (fun k => S1 24 k = nI p) m j i)))) S1) ww_no
  | 0, i, j, hm, he => by
    have hi : i = w := by omega
    rw [hi] at he
    omega
  | m + 1, i, j, hm, he => by
    have hj : j < 4000 := by have := q_cnt_le (fun k => S1 24 k = nI p) w; omega
    by_cases c1 : S1 24 i = nI p
    · have e1 : q_cnt (fun k => S1 24 k = nI p) (i + 1) = q_cnt (fun k => S1 24 k = nI p) i + 1 := q_cnt_s c1
      match j, he, hj with
      | 0, he, hj =>
        rw [q_nth_t0 (P := fun k => S1 24 k = nI p) c1]
        refine ww_aload_n (i := 0) dX7_trace_46 rfl rfl ?_
        refine ww_getR (f := 344) wf_X7_74 dX7_trace_47 rfl rfl (ww_up_mo hM hu).1.1 (ww_up_mo hM hu).1.2 ((ww_up_mo hM hu).2.1 24 rfl) ?_
        refine ww_iload (i := 4) dX7_trace_50 rfl ?_
        refine ww_pald (k := 24) hM hu dX7_trace_52 rfl rfl rfl (show _ < 4000 by omega) (rfl) ?_
        refine ww_iload_n (i := 1) dX7_trace_53 rfl rfl ?_
        refine ww_icmp_ne_f (tgt := 61) dX7_trace_54 (by decide) c1 ?_
        refine ww_iload_n (i := 3) dX7_trace_57 rfl rfl ?_
        refine ww_if_le_t (tgt := 86) dX7_trace_58 (by decide) (by decide) ?_
        refine ww_aload_n (i := 0) dX7_trace_86 rfl rfl ?_
        refine ww_getR (f := 345) wf_X7_77 dX7_trace_87 rfl rfl (ww_up_mo hM hu).1.1 (ww_up_mo hM hu).1.2 ((ww_up_mo hM hu).2.1 25 rfl) ?_
        refine ww_iload (i := 4) dX7_trace_90 rfl ?_
        refine ww_pald (k := 25) hM hu dX7_trace_92 rfl rfl rfl (show _ < 4000 by omega) (rfl) ?_
        exact ww_ireturn dX7_trace_93 rfl (by first | rfl | exact ww_b_nar) ⟨rfl, hu⟩
      | j + 1, he, hj =>
        rw [q_nth_t (P := fun k => S1 24 k = nI p) c1]
        have c2 : ¬ nI (j + 1) ≤ 0 := nI_ge (a := 0) (by omega) (by omega)
        refine ww_aload_n (i := 0) dX7_trace_46 rfl rfl ?_
        refine ww_getR (f := 344) wf_X7_74 dX7_trace_47 rfl rfl (ww_up_mo hM hu).1.1 (ww_up_mo hM hu).1.2 ((ww_up_mo hM hu).2.1 24 rfl) ?_
        refine ww_iload (i := 4) dX7_trace_50 rfl ?_
        refine ww_pald (k := 24) hM hu dX7_trace_52 rfl rfl rfl (show _ < 4000 by omega) (rfl) ?_
        refine ww_iload_n (i := 1) dX7_trace_53 rfl rfl ?_
        refine ww_icmp_ne_f (tgt := 61) dX7_trace_54 (by decide) c1 ?_
        refine ww_iload_n (i := 3) dX7_trace_57 rfl rfl ?_
        refine ww_if_le_f (tgt := 86) dX7_trace_58 (by decide) c2 ?_
        refine ww_iload_n (i := 3) dX7_trace_61 rfl rfl ?_
        refine ww_aload_n (i := 0) dX7_trace_62 rfl rfl ?_
        refine ww_getR (f := 344) wf_X7_74 dX7_trace_63 rfl rfl (ww_up_mo hM hu).1.1 (ww_up_mo hM hu).1.2 ((ww_up_mo hM hu).2.1 24 rfl) ?_
        refine ww_iload (i := 4) dX7_trace_66 rfl ?_
        refine ww_pald (k := 24) hM hu dX7_trace_68 rfl rfl rfl (show _ < 4000 by omega) (rfl) ?_
        refine ww_iload_n (i := 1) dX7_trace_69 rfl rfl ?_
        refine ww_icmp_ne_f (tgt := 77) dX7_trace_70 (by decide) c1 ?_
        refine ww_iconst (v := 1) dX7_trace_73 (by decide) ?_
        refine ww_goto (tgt := 78) dX7_trace_74 (by decide) ?_
        refine ww_isub dX7_trace_78 ?_
        refine ww_istore_n (i := 3) (lv2 := [(0, _), (1, _), (3, _), (4, _)]) dX7_trace_79 rfl (Nat.le_of_ble_eq_true rfl) rfl ?_
        refine ww_iinc (i := 4) (v := _ + 1) (lv2 := [(0, _), (1, _), (3, _), (4, _)]) dX7_trace_80 rfl (by rfl) (Nat.le_of_ble_eq_true rfl) rfl ?_
        refine ww_goto (tgt := 46) dX7_trace_83 (by decide) ?_
        -- at 46, locals [0, 1, 3, 4]
        rw [nI_1, nI_succ, show nI j + 1 - 1 = nI j by rw [Int32.add_sub_cancel]]
        exact m_trace_l hM hp h4 hu m (i + 1) j (by omega) (by omega)
    · have e1 : q_cnt (fun k => S1 24 k = nI p) (i + 1) = q_cnt (fun k => S1 24 k = nI p) i := q_cnt_n c1
      rw [q_nth_f (P := fun k => S1 24 k = nI p) c1]
      refine ww_aload_n (i := 0) dX7_trace_46 rfl rfl ?_
      refine ww_getR (f := 344) wf_X7_74 dX7_trace_47 rfl rfl (ww_up_mo hM hu).1.1 (ww_up_mo hM hu).1.2 ((ww_up_mo hM hu).2.1 24 rfl) ?_
      refine ww_iload (i := 4) dX7_trace_50 rfl ?_
      refine ww_pald (k := 24) hM hu dX7_trace_52 rfl rfl rfl (show _ < 4000 by omega) (rfl) ?_
      refine ww_iload_n (i := 1) dX7_trace_53 rfl rfl ?_
      refine ww_icmp_ne_t (tgt := 61) dX7_trace_54 (by decide) c1 ?_
      refine ww_iload_n (i := 3) dX7_trace_61 rfl rfl ?_
      refine ww_aload_n (i := 0) dX7_trace_62 rfl rfl ?_
      refine ww_getR (f := 344) wf_X7_74 dX7_trace_63 rfl rfl (ww_up_mo hM hu).1.1 (ww_up_mo hM hu).1.2 ((ww_up_mo hM hu).2.1 24 rfl) ?_
      refine ww_iload (i := 4) dX7_trace_66 rfl ?_
      refine ww_pald (k := 24) hM hu dX7_trace_68 rfl rfl rfl (show _ < 4000 by omega) (rfl) ?_
      refine ww_iload_n (i := 1) dX7_trace_69 rfl rfl ?_
      refine ww_icmp_ne_t (tgt := 77) dX7_trace_70 (by decide) c1 ?_
      refine ww_iconst (v := 0) dX7_trace_77 (by decide) ?_
      refine ww_isub dX7_trace_78 ?_
      refine ww_istore_n (i := 3) (lv2 := [(0, _), (1, _), (3, _), (4, _)]) dX7_trace_79 rfl (Nat.le_of_ble_eq_true rfl) rfl ?_
      refine ww_iinc (i := 4) (v := _ + 1) (lv2 := [(0, _), (1, _), (3, _), (4, _)]) dX7_trace_80 rfl (by rfl) (Nat.le_of_ble_eq_true rfl) rfl ?_
      refine ww_goto (tgt := 46) dX7_trace_83 (by decide) ?_
      -- at 46, locals [0, 1, 3, 4]
      rw [nI_1, Int32.sub_zero]
      exact m_trace_l hM hp h4 hu m (i + 1) j (by omega) (by omega)
set_option maxRecDepth 20000 in
set_option maxHeartbeats 4000000 in
theorem m_trace_0 (hM : ww_mo x ar M.1 M.2.2.1) (hG : q_G (q_S M x ar) n) (hw : (q_S M x ar) 23 0 = nI w) (h4 : w ≤ 4000) {p v : Nat} (hp : p < n) (hc : v < q_mv (q_S M x ar) w p) : ww_C g wy_X7_trace 3 0 0 [.ref x, .int (nI p), .int (nI v)] M (ww_ru x ar M (some (.int ((q_S M x ar) 25 (q_nth (fun k => (q_S M x ar) 24 k = nI p) w v 0)))) (q_us (q_S M x ar) 0 0)) ww_no := by
  refine ww_ent (by decide +kernel) (Nat.le_of_ble_eq_true rfl) ⟨rfl, rfl, rfl, trivial⟩ ?_
  have hu : ww_up x ar M (q_S M x ar) M := ww_up_rf
  have hle : q_mv (q_S M x ar) w p ≤ w := q_cnt_le _ w
  have h1 : (0 : Int32) ≤ nI v := nI_pos' (by omega)
  have h2 : nI v ≤ nI (q_mv (q_S M x ar) w p) - 1 := by rw [ww_le', ww_sub1 (by omega), nI_toInt (by omega)]; omega
  refine ww_aload_n (i := 0) dX7_trace_0 rfl rfl ?_
  refine ww_aload_n (i := 0) dX7_trace_1 rfl rfl ?_
  refine ww_iload_n (i := 1) dX7_trace_2 rfl rfl ?_
  refine ww_callV (κ := 8) (r := (RX7, TX7, 33)) wk_X7_109 dX7_trace_3 (u_isPart_t hM hu hG hp) rfl rfl (show ww_is _ _ 8 from (ww_up_mo hM hu).1).1 (show ww_is _ _ 8 from (ww_up_mo hM hu).1).2 rfl rfl (by omega) (by omega) (by omega) (by first | exact Nat.le_of_ble_eq_true rfl | (simp [ww_rf_cat, Value.category])) rfl (fun E M9 h9 => h9.elim) (fun v9 M9 h9 => ?_)
  obtain ⟨rfl, rfl⟩ := h9
  refine ww_if_eq_f (tgt := 28) dX7_trace_6 (by decide) (by decide) ?_
  refine ww_iload_n (i := 2) dX7_trace_9 rfl rfl ?_
  refine ww_iconst (v := 0) dX7_trace_10 (by decide) ?_
  refine ww_aload_n (i := 0) dX7_trace_11 rfl rfl ?_
  refine ww_iload_n (i := 1) dX7_trace_12 rfl rfl ?_
  refine ww_callV (κ := 8) (r := (RX7, TX7, 33)) wk_X7_196 dX7_trace_13 (u_movesOfPart hM hu hw h4 (nI p)) rfl rfl (show ww_is _ _ 8 from (ww_up_mo hM hu).1).1 (show ww_is _ _ 8 from (ww_up_mo hM hu).1).2 rfl rfl (by omega) (by omega) (by omega) (by first | exact Nat.le_of_ble_eq_true rfl | (simp [ww_rf_cat, Value.category])) rfl (fun E M9 h9 => h9.elim) (fun v9 M9 h9 => ?_)
  obtain ⟨rfl, rfl⟩ := h9
  refine ww_iconst (v := 1) dX7_trace_16 (by decide) ?_
  refine ww_isub dX7_trace_17 ?_
  refine ww_callS wk_X7_105 rfl dX7_trace_18 (m_in_t h1 h2) rfl rfl (by omega) (by omega) (by omega) (by first | exact Nat.le_of_ble_eq_true rfl | (simp [ww_rf_cat, Value.category])) rfl (fun E M9 h9 => h9.elim) (fun v9 M9 h9 => ?_)
  obtain ⟨rfl, rfl⟩ := h9
  refine ww_if_eq_f (tgt := 28) dX7_trace_21 (by decide) (by decide) ?_
  refine ww_iconst (v := 0) dX7_trace_24 (by decide) ?_
  refine ww_goto (tgt := 29) dX7_trace_25 (by decide) ?_
  refine ww_pputI (k := 0) hM hu dX7_trace_29 wf_X7_98 wt_8_0 rfl rfl rfl rfl (fun M1 hu => ?_)
  refine ww_aload_n (i := 0) dX7_trace_32 rfl rfl ?_
  refine ww_pgetI (k := 0) hM hu dX7_trace_33 wf_X7_98 rfl rfl (q_us_s) ?_
  refine ww_if_le_t (tgt := 41) dX7_trace_36 (by decide) (by decide) ?_
  refine ww_iload_n (i := 2) dX7_trace_41 rfl rfl ?_
  refine ww_istore_n (i := 3) (lv2 := [(0, _), (1, _), (2, _), (3, _)]) dX7_trace_42 rfl (Nat.le_of_ble_eq_true rfl) rfl ?_
  refine ww_iconst (v := 0) dX7_trace_43 (by decide) ?_
  refine ww_istore (i := 4) (lv2 := [(0, _), (1, _), (2, _), (3, _), (4, _)]) dX7_trace_44 (Nat.le_of_ble_eq_true rfl) rfl ?_
  -- at 46, locals [0, 1, 2, 3, 4]
  have hl := m_trace_l (g := g) hM hp h4 hu w 0 v (by omega) (by show 0 + v < _; rw [Nat.zero_add]; exact hc)
  rw [nI_0] at hl
  exact ww_subk hl ⟨rfl, rfl, rfl, rfl, trivial⟩
end WWW
