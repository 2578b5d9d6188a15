/-! ===== plan, road, night, out ===== -/
theorem q_mul {a b : Nat} (h : a * b < 2 ^ 30) (ha : a < 2 ^ 30) (hb : b < 2 ^ 30) : nI a * nI b = nI (a * b) := by
  rw [ww_eq, Int32.toInt_mul, nI_toInt (by omega), nI_toInt (by omega), nI_toInt (by omega), ← Int.natCast_mul, Int.bmod_eq_of_le (by omega) (by omega)]
theorem q_4 {d k : Nat} (hd : d < 1000) (hk : k < 1000) : 4 * nI d + nI k = nI (4 * d + k) := by
  rw [show (4 : Int32) = nI 4 from by decide, q_mul (by omega) (by omega) (by omega), nI_add]
def q_rn (S : Nat → Nat → Int32) (r : Nat) : Nat := (S 31 r).toNatClampNeg
def q_rq (S : Nat → Nat → Int32) (r k : Nat) : Nat := (S 32 (4 * r + k)).toNatClampNeg
/-- the roads hold trains -/
def q_Rd (S : Nat → Nat → Int32) (n : Nat) : Prop := ∀ r, r < 3 → q_rn S r ≤ 4 ∧ S 31 r = nI (q_rn S r) ∧ ∀ k, k < q_rn S r → q_rq S r k < n ∧ S 32 (4 * r + k) = nI (q_rq S r k)
section WWC
variable {g : ww_G} {M M1 : ww_M} {x : Nat} {ar : Nat → Nat} {n w t : Nat} {S S1 : Nat → Nat → Int32} {v : Int32} {Q : Option Value → ww_M → Prop}
set_option maxRecDepth 20000 in
set_option maxHeartbeats 4000000 in
theorem m_plan_e (hM : ww_mo x ar M.1 M.2.2.1) (hG : q_G (q_S M x ar) n) (hW : q_W (q_S M x ar) n 0) : ww_C g wy_X7_plan 4 0 0 [.ref x] M (ww_ru x ar M (some (.int 0)) (q_us (q_S M x ar) 0 0)) ww_no := by
  refine ww_ent (by decide +kernel) (Nat.le_of_ble_eq_true rfl) ⟨rfl, trivial⟩ ?_
  have hu : ww_up x ar M (q_S M x ar) M := ww_up_rf
  refine ww_aload_n (i := 0) dX7_plan_0 rfl rfl ?_
  refine ww_iconst (v := 0) dX7_plan_1 (by decide) ?_
  refine ww_pputI (k := 0) hM hu dX7_plan_2 wf_X7_98 wt_8_0 rfl rfl rfl rfl (fun M1 hu => ?_)
  refine ww_aload_n (i := 0) dX7_plan_5 rfl rfl ?_
  refine ww_pgetI (k := 26) hM hu dX7_plan_6 wf_X7_139 rfl rfl ((q_us_n (by decide)).trans (rfl)) ?_
  refine ww_if_ne_f (tgt := 16) dX7_plan_9 (by decide) hW.1 ?_
  refine ww_iconst (v := 0) dX7_plan_12 (by decide) ?_
  refine ww_goto (tgt := 20) dX7_plan_13 (by decide) ?_
  exact ww_ireturn dX7_plan_20 rfl (by first | rfl | exact ww_b_nar) ⟨rfl, hu⟩
set_option maxRecDepth 20000 in
set_option maxHeartbeats 4000000 in
theorem m_planAnew_e (hM : ww_mo x ar M.1 M.2.2.1) (hG : q_G (q_S M x ar) n) (hW : q_W (q_S M x ar) n 0) : ww_C g wy_X7_planAnew 4 0 0 [.ref x] M (ww_ru x ar M (some (.int 0)) (q_us (q_S M x ar) 0 0)) ww_no := by
  refine ww_ent (by decide +kernel) (Nat.le_of_ble_eq_true rfl) ⟨rfl, trivial⟩ ?_
  have hu : ww_up x ar M (q_S M x ar) M := ww_up_rf
  refine ww_aload_n (i := 0) dX7_planAnew_0 rfl rfl ?_
  refine ww_iconst (v := 0) dX7_planAnew_1 (by decide) ?_
  refine ww_pputI (k := 0) hM hu dX7_planAnew_2 wf_X7_98 wt_8_0 rfl rfl rfl rfl (fun M1 hu => ?_)
  refine ww_aload_n (i := 0) dX7_planAnew_5 rfl rfl ?_
  refine ww_pgetI (k := 26) hM hu dX7_planAnew_6 wf_X7_139 rfl rfl ((q_us_n (by decide)).trans (rfl)) ?_
  refine ww_if_ne_f (tgt := 16) dX7_planAnew_9 (by decide) hW.1 ?_
  refine ww_iconst (v := 0) dX7_planAnew_12 (by decide) ?_
  refine ww_goto (tgt := 20) dX7_planAnew_13 (by decide) ?_
  exact ww_ireturn dX7_planAnew_20 rfl (by first | rfl | exact ww_b_nar) ⟨rfl, hu⟩
set_option maxRecDepth 20000 in
set_option maxHeartbeats 4000000 in
theorem m_plan_0 (hM : ww_mo x ar M.1 M.2.2.1) (hG : q_G (q_S M x ar) n) (hW : q_W (q_S M x ar) n w) (h0 : 0 < w) : ww_C g wy_X7_plan 4 0 0 [.ref x] M (ww_ru x ar M (some (.int (q_pb (q_us (q_S M x ar) 0 0) w))) (q_plans (q_us (q_S M x ar) 0 0) w)) ww_no := by
  refine ww_ent (by decide +kernel) (Nat.le_of_ble_eq_true rfl) ⟨rfl, trivial⟩ ?_
  have hu : ww_up x ar M (q_S M x ar) M := ww_up_rf
  have h8 := hW.2.1
  have hn : ¬ (q_S M x ar) 26 0 = 0 := by rw [hW.1]; exact nI_ne0 h0 (by omega)
  refine ww_aload_n (i := 0) dX7_plan_0 rfl rfl ?_
  refine ww_iconst (v := 0) dX7_plan_1 (by decide) ?_
  refine ww_pputI (k := 0) hM hu dX7_plan_2 wf_X7_98 wt_8_0 rfl rfl rfl rfl (fun M1 hu => ?_)
  refine ww_aload_n (i := 0) dX7_plan_5 rfl rfl ?_
  refine ww_pgetI (k := 26) hM hu dX7_plan_6 wf_X7_139 rfl rfl ((q_us_n (by decide)).trans (rfl)) ?_
  refine ww_if_ne_t (tgt := 16) dX7_plan_9 (by decide) hn ?_
  refine ww_aload_n (i := 0) dX7_plan_16 rfl rfl ?_
  refine ww_callV (κ := 8) (r := (RX7, TX7, 33)) wk_X7_193 dX7_plan_17 (u_plans hM hu (S := q_us (q_S M x ar) 0 0) hW hG.2.1) rfl rfl (show ww_is _ _ 8 from (ww_up_mo hM hu).1).1 (show ww_is _ _ 8 from (ww_up_mo hM hu).1).2 rfl rfl (by omega) (by omega) (by omega) (by first | exact Nat.le_of_ble_eq_true rfl | (simp [ww_rf_cat, Value.category])) rfl (fun E M9 h9 => h9.elim) (fun v9 M9 h9 => ?_)
  obtain ⟨rfl, hu⟩ := h9
  exact ww_ireturn dX7_plan_20 rfl (by first | rfl | exact ww_b_nar) ⟨rfl, hu⟩
set_option maxRecDepth 20000 in
set_option maxHeartbeats 4000000 in
theorem m_planAnew_0 (hM : ww_mo x ar M.1 M.2.2.1) (hG : q_G (q_S M x ar) n) (hW : q_W (q_S M x ar) n w) (h0 : 0 < w) : ww_C g wy_X7_planAnew 4 0 0 [.ref x] M (ww_ru x ar M (some (.int (q_pb (q_us (q_S M x ar) 0 0) w))) (q_plans (q_us (q_S M x ar) 0 0) w)) ww_no := by
  refine ww_ent (by decide +kernel) (Nat.le_of_ble_eq_true rfl) ⟨rfl, trivial⟩ ?_
  have hu : ww_up x ar M (q_S M x ar) M := ww_up_rf
  have h8 := hW.2.1
  have hn : ¬ (q_S M x ar) 26 0 = 0 := by rw [hW.1]; exact nI_ne0 h0 (by omega)
  refine ww_aload_n (i := 0) dX7_planAnew_0 rfl rfl ?_
  refine ww_iconst (v := 0) dX7_planAnew_1 (by decide) ?_
  refine ww_pputI (k := 0) hM hu dX7_planAnew_2 wf_X7_98 wt_8_0 rfl rfl rfl rfl (fun M1 hu => ?_)
  refine ww_aload_n (i := 0) dX7_planAnew_5 rfl rfl ?_
  refine ww_pgetI (k := 26) hM hu dX7_planAnew_6 wf_X7_139 rfl rfl ((q_us_n (by decide)).trans (rfl)) ?_
  refine ww_if_ne_t (tgt := 16) dX7_planAnew_9 (by decide) hn ?_
  refine ww_aload_n (i := 0) dX7_planAnew_16 rfl rfl ?_
  refine ww_callV (κ := 8) (r := (RX7, TX7, 33)) wk_X7_193 dX7_planAnew_17 (u_plans hM hu (S := q_us (q_S M x ar) 0 0) hW hG.2.1) rfl rfl (show ww_is _ _ 8 from (ww_up_mo hM hu).1).1 (show ww_is _ _ 8 from (ww_up_mo hM hu).1).2 rfl rfl (by omega) (by omega) (by omega) (by first | exact Nat.le_of_ble_eq_true rfl | (simp [ww_rf_cat, Value.category])) rfl (fun E M9 h9 => h9.elim) (fun v9 M9 h9 => ?_)
  obtain ⟨rfl, hu⟩ := h9
  exact ww_ireturn dX7_planAnew_20 rfl (by first | rfl | exact ww_b_nar) ⟨rfl, hu⟩
set_option maxRecDepth 20000 in
set_option maxHeartbeats 4000000 in
theorem m_thrown (hM : ww_mo x ar M.1 M.2.2.1) (hG : q_G (q_S M x ar) n)  : ww_C g wy_X7_thrown 1 0 0 [.ref x] M (ww_ru x ar M (some (.int ((q_S M x ar) 0 0))) ((q_S M x ar))) ww_no := by
  refine ww_ent (by decide +kernel) (Nat.le_of_ble_eq_true rfl) ⟨rfl, trivial⟩ ?_
  have hu : ww_up x ar M (q_S M x ar) M := ww_up_rf
  refine ww_aload_n (i := 0) dX7_thrown_0 rfl rfl ?_
  refine ww_pgetI (k := 0) hM hu dX7_thrown_1 wf_X7_98 rfl rfl (rfl) ?_
  exact ww_ireturn dX7_thrown_4 rfl (by first | rfl | exact ww_b_nar) ⟨rfl, hu⟩
set_option maxRecDepth 20000 in
set_option maxHeartbeats 4000000 in
theorem m_road_1 (hM : ww_mo x ar M.1 M.2.2.1) (hG : q_G (q_S M x ar) n) {r k : Int32} (hc : ¬ (q_rg 0 2 r ∧ 0 ≤ k)) : ww_C g wy_X7_road 2 0 0 [.ref x, .int r, .int k] M (ww_ru x ar M (some (.int 0)) (q_us (q_S M x ar) 0 1)) ww_no := by
  refine ww_ent (by decide +kernel) (Nat.le_of_ble_eq_true rfl) ⟨rfl, rfl, rfl, trivial⟩ ?_
  have hu : ww_up x ar M (q_S M x ar) M := ww_up_rf
  by_cases c1 : q_rg 0 2 r
  · have c2 : k < 0 := by rw [ww_lt]; have : ¬ (0 : Int32) ≤ k := fun z => hc ⟨c1, z⟩; rw [ww_le'] at this; omega
    refine ww_aload_n (i := 0) dX7_road_0 rfl rfl ?_
    refine ww_iload_n (i := 1) dX7_road_1 rfl rfl ?_
    refine ww_iconst (v := 0) dX7_road_2 (by decide) ?_
    refine ww_iconst (v := 2) dX7_road_3 (by decide) ?_
    refine ww_callS wk_X7_105 rfl dX7_road_4 (m_in_t c1.1 c1.2) rfl rfl (by omega) (by omega) (by omega) (by first | exact Nat.le_of_ble_eq_true rfl | (simp [ww_rf_cat, Value.category])) rfl (fun E M9 h9 => h9.elim) (fun v9 M9 h9 => ?_)
    obtain ⟨rfl, rfl⟩ := h9
    refine ww_if_eq_f (tgt := 18) dX7_road_7 (by decide) (by decide) ?_
    refine ww_iload_n (i := 2) dX7_road_10 rfl rfl ?_
    refine ww_if_lt_t (tgt := 18) dX7_road_11 (by decide) c2 ?_
    refine ww_iconst (v := 1) dX7_road_18 (by decide) ?_
    refine ww_pputI (k := 0) hM hu dX7_road_19 wf_X7_98 wt_8_0 rfl rfl rfl rfl (fun M1 hu => ?_)
    refine ww_aload_n (i := 0) dX7_road_22 rfl rfl ?_
    refine ww_pgetI (k := 0) hM hu dX7_road_23 wf_X7_98 rfl rfl (q_us_s) ?_
    refine ww_if_le_f (tgt := 31) dX7_road_26 (by decide) (by decide) ?_
    refine ww_iconst (v := 0) dX7_road_29 (by decide) ?_
    exact ww_ireturn dX7_road_30 rfl (by first | rfl | exact ww_b_nar) ⟨rfl, hu⟩
  · refine ww_aload_n (i := 0) dX7_road_0 rfl rfl ?_
    refine ww_iload_n (i := 1) dX7_road_1 rfl rfl ?_
    refine ww_iconst (v := 0) dX7_road_2 (by decide) ?_
    refine ww_iconst (v := 2) dX7_road_3 (by decide) ?_
    refine ww_callS wk_X7_105 rfl dX7_road_4 (m_in_f c1) rfl rfl (by omega) (by omega) (by omega) (by first | exact Nat.le_of_ble_eq_true rfl | (simp [ww_rf_cat, Value.category])) rfl (fun E M9 h9 => h9.elim) (fun v9 M9 h9 => ?_)
    obtain ⟨rfl, rfl⟩ := h9
    refine ww_if_eq_t (tgt := 18) dX7_road_7 (by decide) (by decide) ?_
    refine ww_iconst (v := 1) dX7_road_18 (by decide) ?_
    refine ww_pputI (k := 0) hM hu dX7_road_19 wf_X7_98 wt_8_0 rfl rfl rfl rfl (fun M1 hu => ?_)
    refine ww_aload_n (i := 0) dX7_road_22 rfl rfl ?_
    refine ww_pgetI (k := 0) hM hu dX7_road_23 wf_X7_98 rfl rfl (q_us_s) ?_
    refine ww_if_le_f (tgt := 31) dX7_road_26 (by decide) (by decide) ?_
    refine ww_iconst (v := 0) dX7_road_29 (by decide) ?_
    exact ww_ireturn dX7_road_30 rfl (by first | rfl | exact ww_b_nar) ⟨rfl, hu⟩
set_option maxRecDepth 20000 in
theorem m_road_0 (hM : ww_mo x ar M.1 M.2.2.1) (hR : q_Rd (q_S M x ar) n) {r k : Nat} (hr : r < 3) (hk : k < 2 ^ 31) : ww_C g wy_X7_road 2 0 0 [.ref x, .int (nI r), .int (nI k)] M (ww_ru x ar M (some (.int (if k < q_rn (q_S M x ar) r then (q_S M x ar) 32 (4 * r + k) else -1))) (q_us (q_S M x ar) 0 0)) ww_no := by
  refine ww_ent (by decide +kernel) (Nat.le_of_ble_eq_true rfl) ⟨rfl, rfl, rfl, trivial⟩ ?_
  have hu : ww_up x ar M (q_S M x ar) M := ww_up_rf
  have hRr := hR r hr
  have h1 : (0 : Int32) ≤ nI r := nI_pos' (by omega)
  have h2 : nI r ≤ 2 := nI_le (b := 2) (by omega) (by decide)
  by_cases c1 : k < q_rn (q_S M x ar) r
  · rw [if_pos c1]
    refine ww_aload_n (i := 0) dX7_road_0 rfl rfl ?_
    refine ww_iload_n (i := 1) dX7_road_1 rfl rfl ?_
    refine ww_iconst (v := 0) dX7_road_2 (by decide) ?_
    refine ww_iconst (v := 2) dX7_road_3 (by decide) ?_
    refine ww_callS wk_X7_105 rfl dX7_road_4 (m_in_t h1 h2) rfl rfl (by omega) (by omega) (by omega) (by first | exact Nat.le_of_ble_eq_true rfl | (simp [ww_rf_cat, Value.category])) rfl (fun E M9 h9 => h9.elim) (fun v9 M9 h9 => ?_)
    obtain ⟨rfl, rfl⟩ := h9
    refine ww_if_eq_f (tgt := 18) dX7_road_7 (by decide) (by decide) ?_
    refine ww_iload_n (i := 2) dX7_road_10 rfl rfl ?_
    refine ww_if_lt_f (tgt := 18) dX7_road_11 (by decide) (nI_pos (by omega)) ?_
    refine ww_iconst (v := 0) dX7_road_14 (by decide) ?_
    refine ww_goto (tgt := 19) dX7_road_15 (by decide) ?_
    refine ww_pputI (k := 0) hM hu dX7_road_19 wf_X7_98 wt_8_0 rfl rfl rfl rfl (fun M1 hu => ?_)
    refine ww_aload_n (i := 0) dX7_road_22 rfl rfl ?_
    refine ww_pgetI (k := 0) hM hu dX7_road_23 wf_X7_98 rfl rfl (q_us_s) ?_
    refine ww_if_le_t (tgt := 31) dX7_road_26 (by decide) (by decide) ?_
    -- at 31, locals [0, 1, 2]
    refine ww_iload_n (i := 2) dX7_road_31 rfl rfl ?_
    refine ww_aload_n (i := 0) dX7_road_32 rfl rfl ?_
    refine ww_getR (f := 351) wf_X7_92 dX7_road_33 rfl rfl (ww_up_mo hM hu).1.1 (ww_up_mo hM hu).1.2 ((ww_up_mo hM hu).2.1 31 rfl) ?_
    refine ww_iload_n (i := 1) dX7_road_36 rfl rfl ?_
    refine ww_pald (k := 31) hM hu dX7_road_37 rfl rfl rfl (show _ < 3 by omega) hRr.2.1 ?_
    refine ww_icmp_ge_f (tgt := 54) dX7_road_38 (by decide) (nI_ge (by omega) (by omega)) ?_
    refine ww_aload_n (i := 0) dX7_road_41 rfl rfl ?_
    refine ww_getR (f := 352) wf_X7_95 dX7_road_42 rfl rfl (ww_up_mo hM hu).1.1 (ww_up_mo hM hu).1.2 ((ww_up_mo hM hu).2.1 32 rfl) ?_
    refine ww_iconst (v := 4) dX7_road_45 (by decide) ?_
    refine ww_iload_n (i := 1) dX7_road_46 rfl rfl ?_
    refine ww_imul dX7_road_47 ?_
    refine ww_iload_n (i := 2) dX7_road_48 rfl rfl ?_
    refine ww_iadd dX7_road_49 ?_
    refine ww_pald (k := 32) hM hu dX7_road_50 rfl rfl (q_4 (by omega) (by omega)) (show _ < 12 by omega) ((q_us_n (by decide)).trans (rfl)) ?_
    refine ww_goto (tgt := 55) dX7_road_51 (by decide) ?_
    exact ww_ireturn dX7_road_55 rfl (by first | rfl | exact ww_b_nar) ⟨rfl, hu⟩
  · rw [if_neg c1]
    refine ww_aload_n (i := 0) dX7_road_0 rfl rfl ?_
    refine ww_iload_n (i := 1) dX7_road_1 rfl rfl ?_
    refine ww_iconst (v := 0) dX7_road_2 (by decide) ?_
    refine ww_iconst (v := 2) dX7_road_3 (by decide) ?_
    refine ww_callS wk_X7_105 rfl dX7_road_4 (m_in_t h1 h2) rfl rfl (by omega) (by omega) (by omega) (by first | exact Nat.le_of_ble_eq_true rfl | (simp [ww_rf_cat, Value.category])) rfl (fun E M9 h9 => h9.elim) (fun v9 M9 h9 => ?_)
    obtain ⟨rfl, rfl⟩ := h9
    refine ww_if_eq_f (tgt := 18) dX7_road_7 (by decide) (by decide) ?_
    refine ww_iload_n (i := 2) dX7_road_10 rfl rfl ?_
    refine ww_if_lt_f (tgt := 18) dX7_road_11 (by decide) (nI_pos (by omega)) ?_
    refine ww_iconst (v := 0) dX7_road_14 (by decide) ?_
    refine ww_goto (tgt := 19) dX7_road_15 (by decide) ?_
    refine ww_pputI (k := 0) hM hu dX7_road_19 wf_X7_98 wt_8_0 rfl rfl rfl rfl (fun M1 hu => ?_)
    refine ww_aload_n (i := 0) dX7_road_22 rfl rfl ?_
    refine ww_pgetI (k := 0) hM hu dX7_road_23 wf_X7_98 rfl rfl (q_us_s) ?_
    refine ww_if_le_t (tgt := 31) dX7_road_26 (by decide) (by decide) ?_
    -- at 31, locals [0, 1, 2]
    refine ww_iload_n (i := 2) dX7_road_31 rfl rfl ?_
    refine ww_aload_n (i := 0) dX7_road_32 rfl rfl ?_
    refine ww_getR (f := 351) wf_X7_92 dX7_road_33 rfl rfl (ww_up_mo hM hu).1.1 (ww_up_mo hM hu).1.2 ((ww_up_mo hM hu).2.1 31 rfl) ?_
    refine ww_iload_n (i := 1) dX7_road_36 rfl rfl ?_
    refine ww_pald (k := 31) hM hu dX7_road_37 rfl rfl rfl (show _ < 3 by omega) hRr.2.1 ?_
    refine ww_icmp_ge_t (tgt := 54) dX7_road_38 (by decide) (nI_le (by omega) (by omega)) ?_
    refine ww_iconst (v := (-1)) dX7_road_54 (by decide) ?_
    exact ww_ireturn dX7_road_55 rfl (by first | rfl | exact ww_b_nar) ⟨rfl, hu⟩
/-! night -/
/-- the first i trains stand, by d -/
noncomputable def q_ns (S : Nat → Nat → Int32) (d : Nat → Nat) : Nat → Nat → Nat → Int32
  | 0 => S
  | i + 1 => ww_u2 (ww_u2 (ww_u2 (q_ns S d i) 32 (4 * d i + q_cnt (fun j => d j = d i) i) (S 27 i)) 31 (d i) (nI (q_cnt (fun j => d j = d i) i + 1))) 12 (q_wq S i) 1
theorem q_ns_k {S : Nat → Nat → Int32} {d : Nat → Nat} {k : Nat} (h : k ≠ 32 ∧ k ≠ 31 ∧ k ≠ 12) : ∀ i, q_ns S d i k = S k
  | 0 => rfl
  | i + 1 => by
    funext j
    show ww_u2 (ww_u2 (ww_u2 (q_ns S d i) 32 _ _) 31 _ _) 12 _ _ k j = _
    rw [ww_u2n (fun z => h.2.2 z.1), ww_u2n (fun z => h.2.1 z.1), ww_u2n (fun z => h.1 z.1), q_ns_k h i]
theorem q_ns_31 {S : Nat → Nat → Int32} {d : Nat → Nat} {r : Nat} (h : S 31 r = 0) : ∀ i, q_ns S d i 31 r = nI (q_cnt (fun j => d j = r) i)
  | 0 => h
  | i + 1 => by
    show ww_u2 (ww_u2 (ww_u2 (q_ns S d i) 32 _ _) 31 _ _) 12 _ _ 31 r = _
    rw [ww_u2n (fun z => absurd z.1 (by decide))]
    by_cases c : d i = r
    · subst c
      rw [ww_u2s, q_cnt_s (P := fun j => d j = d i) rfl]
    · rw [ww_u2n (fun z => c z.2.symm), ww_u2n (fun z => absurd z.1 (by decide)), q_ns_31 h i, q_cnt_n (P := fun j => d j = r) c]
set_option maxRecDepth 20000 in
set_option maxHeartbeats 4000000 in
theorem m_night_l (hM : ww_mo x ar M.1 M.2.2.1) (hW : q_W S n w) (h6 : n ≤ 60) {d : Nat → Nat} (h31 : ∀ r, r < 3 → S 31 r = 0) (h29 : ∀ i, i < w → S 29 i = nI (d i)) (hd : ∀ i, i < w → d i < 3 ∧ q_cnt (fun j => d j = d i) w ≤ 4) {c : Int32} : ∀ (m i : Nat) (M1 : ww_M), i + m = w → ww_up x ar M (q_ns S d i) M1 → ww_A g wy_X7_night 4 0 0 M1 55 [(0, .ref x), (1, .int c), (2, .int (nI i))] [] (ww_ru x ar M (some (.int c)) (q_us (q_ns S d w) 26 0)) ww_no
  | 0, i, M1, hm, hu => by
    have e : i = w := by omega
    subst e
    have h8 := hW.2.1
    have hw1 : q_ns S d i 26 0 = nI i := (congrFun (q_ns_k (by decide) i) 0).trans hW.1
    refine ww_iload_n (i := 2) dX7_night_55 rfl rfl ?_
    refine ww_aload_n (i := 0) dX7_night_56 rfl rfl ?_
    refine ww_pgetI (k := 26) hM hu dX7_night_57 wf_X7_139 rfl rfl hw1 ?_
    refine ww_icmp_ge_t (tgt := 127) dX7_night_60 (by decide) (nI_le (Nat.le_refl _) (by omega)) ?_
    refine ww_aload_n (i := 0) dX7_night_127 rfl rfl ?_
    refine ww_iconst (v := 0) dX7_night_128 (by decide) ?_
    refine ww_pputI (k := 26) hM hu dX7_night_129 wf_X7_139 wt_8_26 rfl rfl rfl rfl (fun M1 hu => ?_)
    refine ww_iload_n (i := 1) dX7_night_132 rfl rfl ?_
    exact ww_ireturn dX7_night_133 rfl (by first | rfl | exact ww_b_nar) ⟨rfl, hu⟩
  | m + 1, i, M1, hm, hu => by
    have h8 := hW.2.1
    have hwi := hW.2.2 i (by omega)
    have hdi := hd i (by omega)
    have hw1 : q_ns S d i 26 0 = nI w := (congrFun (q_ns_k (by decide) i) 0).trans hW.1
    have e29 : q_ns S d i 29 i = nI (d i) := (congrFun (q_ns_k (by decide) i) i).trans (h29 i (by omega))
    have e27 : q_ns S d i 27 i = S 27 i := congrFun (q_ns_k (by decide) i) i
    have e31 := q_ns_31 (S := S) (d := d) (h31 (d i) hdi.1) i
    have hcnt : q_cnt (fun j => d j = d i) i + 1 ≤ 4 := by
      have e := q_cnt_s (P := fun j => d j = d i) (n := i) rfl
      have h1 : ∀ a b, a ≤ b → q_cnt (fun j => d j = d i) a ≤ q_cnt (fun j => d j = d i) b := by
        intro a b hab
        induction hab with
        | refl => exact Nat.le_refl _
        | step h ih => exact Nat.le_trans ih (by show _ ≤ q_cnt _ _ + q_if _ 1 0; omega)
      have := h1 (i + 1) w (by omega)
      omega
    refine ww_iload_n (i := 2) dX7_night_55 rfl rfl ?_
    refine ww_aload_n (i := 0) dX7_night_56 rfl rfl ?_
    refine ww_pgetI (k := 26) hM hu dX7_night_57 wf_X7_139 rfl rfl hw1 ?_
    refine ww_icmp_ge_f (tgt := 127) dX7_night_60 (by decide) (nI_ge (by omega) (by omega)) ?_
    refine ww_aload_n (i := 0) dX7_night_63 rfl rfl ?_
    refine ww_getR (f := 352) wf_X7_95 dX7_night_64 rfl rfl (ww_up_mo hM hu).1.1 (ww_up_mo hM hu).1.2 ((ww_up_mo hM hu).2.1 32 rfl) ?_
    refine ww_iconst (v := 4) dX7_night_67 (by decide) ?_
    refine ww_aload_n (i := 0) dX7_night_68 rfl rfl ?_
    refine ww_getR (f := 349) wf_X7_86 dX7_night_69 rfl rfl (ww_up_mo hM hu).1.1 (ww_up_mo hM hu).1.2 ((ww_up_mo hM hu).2.1 29 rfl) ?_
    refine ww_iload_n (i := 2) dX7_night_72 rfl rfl ?_
    refine ww_pald (k := 29) hM hu dX7_night_73 rfl rfl rfl (show _ < 8 by omega) e29 ?_
    refine ww_imul dX7_night_74 ?_
    refine ww_aload_n (i := 0) dX7_night_75 rfl rfl ?_
    refine ww_getR (f := 351) wf_X7_92 dX7_night_76 rfl rfl (ww_up_mo hM hu).1.1 (ww_up_mo hM hu).1.2 ((ww_up_mo hM hu).2.1 31 rfl) ?_
    refine ww_aload_n (i := 0) dX7_night_79 rfl rfl ?_
    refine ww_getR (f := 349) wf_X7_86 dX7_night_80 rfl rfl (ww_up_mo hM hu).1.1 (ww_up_mo hM hu).1.2 ((ww_up_mo hM hu).2.1 29 rfl) ?_
    refine ww_iload_n (i := 2) dX7_night_83 rfl rfl ?_
    refine ww_pald (k := 29) hM hu dX7_night_84 rfl rfl rfl (show _ < 8 by omega) e29 ?_
    refine ww_pald (k := 31) hM hu dX7_night_85 rfl rfl rfl (show _ < 3 by omega) e31 ?_
    refine ww_iadd dX7_night_86 ?_
    refine ww_aload_n (i := 0) dX7_night_87 rfl rfl ?_
    refine ww_getR (f := 347) wf_X7_80 dX7_night_88 rfl rfl (ww_up_mo hM hu).1.1 (ww_up_mo hM hu).1.2 ((ww_up_mo hM hu).2.1 27 rfl) ?_
    refine ww_iload_n (i := 2) dX7_night_91 rfl rfl ?_
    refine ww_pald (k := 27) hM hu dX7_night_92 rfl rfl rfl (show _ < 8 by omega) e27 ?_
    refine ww_past (k := 32) hM hu dX7_night_93 rfl rfl (q_4 (by omega) (by omega)) (show _ < 12 by omega) (fun M1 hu => ?_)
    refine ww_aload_n (i := 0) dX7_night_94 rfl rfl ?_
    refine ww_getR (f := 351) wf_X7_92 dX7_night_95 rfl rfl (ww_up_mo hM hu).1.1 (ww_up_mo hM hu).1.2 ((ww_up_mo hM hu).2.1 31 rfl) ?_
    refine ww_aload_n (i := 0) dX7_night_98 rfl rfl ?_
    refine ww_getR (f := 349) wf_X7_86 dX7_night_99 rfl rfl (ww_up_mo hM hu).1.1 (ww_up_mo hM hu).1.2 ((ww_up_mo hM hu).2.1 29 rfl) ?_
    refine ww_iload_n (i := 2) dX7_night_102 rfl rfl ?_
    refine ww_pald (k := 29) hM hu dX7_night_103 rfl rfl rfl (show _ < 8 by omega) ((ww_u2n (fun z => absurd z.1 (by decide))).trans e29) ?_
    refine ww_dup2 dX7_night_104 (by first | rfl | exact ww_rf_cat _) (by first | rfl | exact ww_rf_cat _) ?_
    refine ww_pald (k := 31) hM hu dX7_night_105 rfl rfl rfl (show _ < 3 by omega) ((ww_u2n (fun z => absurd z.1 (by decide))).trans e31) ?_
    refine ww_iconst (v := 1) dX7_night_106 (by decide) ?_
    refine ww_iadd dX7_night_107 ?_
    refine ww_past (k := 31) hM hu dX7_night_108 rfl rfl rfl (show _ < 3 by omega) (fun M1 hu => ?_)
    refine ww_aload_n (i := 0) dX7_night_109 rfl rfl ?_
    refine ww_getR (f := 332) wf_X7_41 dX7_night_110 rfl rfl (ww_up_mo hM hu).1.1 (ww_up_mo hM hu).1.2 ((ww_up_mo hM hu).2.1 12 rfl) ?_
    refine ww_aload_n (i := 0) dX7_night_113 rfl rfl ?_
    refine ww_getR (f := 347) wf_X7_80 dX7_night_114 rfl rfl (ww_up_mo hM hu).1.1 (ww_up_mo hM hu).1.2 ((ww_up_mo hM hu).2.1 27 rfl) ?_
    refine ww_iload_n (i := 2) dX7_night_117 rfl rfl ?_
    refine ww_pald (k := 27) hM hu dX7_night_118 rfl rfl rfl (show _ < 8 by omega) ((ww_u2n (fun z => absurd z.1 (by decide))).trans ((ww_u2n (fun z => absurd z.1 (by decide))).trans e27)) ?_
    refine ww_iconst (v := 1) dX7_night_119 (by decide) ?_
    refine ww_pzst (k := 12) hM hu dX7_night_120 rfl rfl hwi.2 (show _ < 60 by omega) (by first | rfl | exact ww_b_vn) (fun M1 hu => ?_)
    refine ww_iinc (i := 2) (v := _ + 1) (lv2 := [(0, _), (1, _), (2, _)]) dX7_night_121 rfl (by rfl) (Nat.le_of_ble_eq_true rfl) rfl ?_
    refine ww_goto (tgt := 55) dX7_night_124 (by decide) ?_
    -- at 55, locals [0, 1, 2]
    rw [nI_1 i]
    refine m_night_l hM hW h6 h31 h29 hd m (i + 1) _ (by omega) ?_
    have e : q_ns S d (i + 1) = ww_u2 (ww_u2 (ww_u2 (q_ns S d i) 32 (4 * d i + q_cnt (fun j => d j = d i) i) (S 27 i)) 31 (d i) (nI (q_cnt (fun j => d j = d i) i + 1))) 12 (q_wq S i) 1 := rfl
    rw [e, ← nI_1]
    exact hu
def q_free (S : Nat → Nat → Int32) : Prop := q_rn S 0 + q_rn S 1 + q_rn S 2 = 0
set_option maxRecDepth 20000 in
set_option maxHeartbeats 4000000 in
theorem m_night_1 (hM : ww_mo x ar M.1 M.2.2.1) (hW : q_W (q_S M x ar) n w) (hR : q_Rd (q_S M x ar) n) (hc : ¬ (0 < w ∧ q_free (q_S M x ar))) : ww_C g wy_X7_night 4 0 0 [.ref x] M (ww_ru x ar M (some (.int 0)) (q_us (q_S M x ar) 0 1)) ww_no := by
  refine ww_ent (by decide +kernel) (Nat.le_of_ble_eq_true rfl) ⟨rfl, trivial⟩ ?_
  have hu : ww_up x ar M (q_S M x ar) M := ww_up_rf
  have h8 := hW.2.1
  obtain ⟨a0, b0, _⟩ := hR 0 (by omega)
  obtain ⟨a1, b1, _⟩ := hR 1 (by omega)
  obtain ⟨a2, b2, _⟩ := hR 2 (by omega)
  by_cases c1 : w = 0
  · subst c1
    refine ww_aload_n (i := 0) dX7_night_0 rfl rfl ?_
    refine ww_aload_n (i := 0) dX7_night_1 rfl rfl ?_
    refine ww_pgetI (k := 26) hM hu dX7_night_2 wf_X7_139 rfl rfl (rfl) ?_
    refine ww_if_eq_t (tgt := 31) dX7_night_5 (by decide) hW.1 ?_
    refine ww_iconst (v := 1) dX7_night_31 (by decide) ?_
    refine ww_goto (tgt := 36) dX7_night_32 (by decide) ?_
    refine ww_pputI (k := 0) hM hu dX7_night_36 wf_X7_98 wt_8_0 rfl rfl rfl rfl (fun M1 hu => ?_)
    refine ww_aload_n (i := 0) dX7_night_39 rfl rfl ?_
    refine ww_pgetI (k := 0) hM hu dX7_night_40 wf_X7_98 rfl rfl (q_us_s) ?_
    refine ww_if_le_f (tgt := 48) dX7_night_43 (by decide) (by decide) ?_
    refine ww_iconst (v := 0) dX7_night_46 (by decide) ?_
    exact ww_ireturn dX7_night_47 rfl (by first | rfl | exact ww_b_nar) ⟨rfl, hu⟩
  · have hn : ¬ (q_S M x ar) 26 0 = 0 := by rw [hW.1]; exact nI_ne0 (by omega) (by omega)
    have c2 : ¬ q_rn (q_S M x ar) 0 + q_rn (q_S M x ar) 1 + q_rn (q_S M x ar) 2 = 0 := fun z => hc ⟨by omega, z⟩
    refine ww_aload_n (i := 0) dX7_night_0 rfl rfl ?_
    refine ww_aload_n (i := 0) dX7_night_1 rfl rfl ?_
    refine ww_pgetI (k := 26) hM hu dX7_night_2 wf_X7_139 rfl rfl (rfl) ?_
    refine ww_if_eq_f (tgt := 31) dX7_night_5 (by decide) hn ?_
    refine ww_aload_n (i := 0) dX7_night_8 rfl rfl ?_
    refine ww_getR (f := 351) wf_X7_92 dX7_night_9 rfl rfl (ww_up_mo hM hu).1.1 (ww_up_mo hM hu).1.2 ((ww_up_mo hM hu).2.1 31 rfl) ?_
    refine ww_iconst (v := 0) dX7_night_12 (by decide) ?_
    refine ww_pald (k := 31) hM hu dX7_night_13 rfl rfl (show (0 : Int32) = nI 0 from rfl) (by decide) b0 ?_
    refine ww_aload_n (i := 0) dX7_night_14 rfl rfl ?_
    refine ww_getR (f := 351) wf_X7_92 dX7_night_15 rfl rfl (ww_up_mo hM hu).1.1 (ww_up_mo hM hu).1.2 ((ww_up_mo hM hu).2.1 31 rfl) ?_
    refine ww_iconst (v := 1) dX7_night_18 (by decide) ?_
    refine ww_pald (k := 31) hM hu dX7_night_19 rfl rfl (show (1 : Int32) = nI 1 from rfl) (by decide) b1 ?_
    refine ww_iadd dX7_night_20 ?_
    refine ww_aload_n (i := 0) dX7_night_21 rfl rfl ?_
    refine ww_getR (f := 351) wf_X7_92 dX7_night_22 rfl rfl (ww_up_mo hM hu).1.1 (ww_up_mo hM hu).1.2 ((ww_up_mo hM hu).2.1 31 rfl) ?_
    refine ww_iconst (v := 2) dX7_night_25 (by decide) ?_
    refine ww_pald (k := 31) hM hu dX7_night_26 rfl rfl (show (2 : Int32) = nI 2 from rfl) (by decide) b2 ?_
    refine ww_iadd dX7_night_27 ?_
    refine ww_if_le_f (tgt := 35) dX7_night_28 (by decide) (by rw [nI_add, nI_add]; exact nI_ge (a := 0) (by omega) (by omega)) ?_
    refine ww_iconst (v := 1) dX7_night_31 (by decide) ?_
    refine ww_goto (tgt := 36) dX7_night_32 (by decide) ?_
    refine ww_pputI (k := 0) hM hu dX7_night_36 wf_X7_98 wt_8_0 rfl rfl rfl rfl (fun M1 hu => ?_)
    refine ww_aload_n (i := 0) dX7_night_39 rfl rfl ?_
    refine ww_pgetI (k := 0) hM hu dX7_night_40 wf_X7_98 rfl rfl (q_us_s) ?_
    refine ww_if_le_f (tgt := 48) dX7_night_43 (by decide) (by decide) ?_
    refine ww_iconst (v := 0) dX7_night_46 (by decide) ?_
    exact ww_ireturn dX7_night_47 rfl (by first | rfl | exact ww_b_nar) ⟨rfl, hu⟩
end WWC
