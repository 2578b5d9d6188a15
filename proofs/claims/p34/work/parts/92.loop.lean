/-! ===== the end of a step; the law's loop and its start ===== -/
section WWN5
variable {g : ww_G} {M : ww_M} {c : Nat → Nat} {b w m p d kc ks : Nat} {S : Nat → Nat → Int32} {mo wa ti v : Int32} {Q : Option Value → ww_M → Prop} {X : String → ww_M → Prop} {t : Nat}
set_option maxRecDepth 20000 in
set_option maxHeartbeats 4000000 in
theorem law_e2 (h : ww_mx g c b 23 w m S M) (hL : q_LI S w m wa) (hp : p < 23) (hd : 24 ≤ d) {i : Nat} (hi : i < 23) {x : Int32} (kk : ww_A g wy_L_law d kc ks M 1578 [(0, .ref (ww_gb g)), (1, .ref (c 0)), (2, .int 1), (3, .int mo), (4, .int wa), (5, .int ti), (6, .int v), (8, .int (nI p)), (11, .int (nI (i + 1))), (12, .int (x))] [] Q X) : ww_A g wy_L_law d kc ks M 1627 [(0, .ref (ww_gb g)), (1, .ref (c 0)), (2, .int 1), (3, .int mo), (4, .int wa), (5, .int ti), (6, .int v), (8, .int (nI p)), (11, .int (nI i)), (12, .int (x))] [] Q X := by
  have hx := x_is h
  have oh := x_host h hi
  rcases q_gh_cases (x_G h).2.2.1 (by decide) hi with c1 | ⟨q, hq, e, -⟩
  · refine ww_aload_n (i := 1) dL_law_1627 rfl rfl ?_
    refine ww_iload (i := 11) dL_law_1628 rfl ?_
    refine ww_callV (κ := 7) (r := (RX6, TX6, 4)) wk_L_18 dL_law_1630 (oh) rfl rfl (show ww_is _ _ 7 from hx).1 (show ww_is _ _ 7 from hx).2 rfl rfl (by omega) (by omega) (by omega) (by first | exact Nat.le_of_ble_eq_true rfl | (simp [ww_rf_cat, Value.category])) rfl (fun E M9 h9 => h9.elim) (fun v9 M9 h9 => ?_)
    obtain ⟨rfl, rfl⟩ := h9
    refine ww_if_lt_t (tgt := 1677) dL_law_1633 (by decide) c1 ?_
    refine ww_iconst (v := 1) dL_law_1677 (by decide) ?_
    refine ww_goto (tgt := 1682) dL_law_1678 (by decide) ?_
    refine ww_istore_n (i := 2) (lv2 := [(0, _), (1, _), (2, _), (3, _), (4, _), (5, _), (6, _), (8, _), (11, _), (12, _)]) dL_law_1682 rfl (Nat.le_of_ble_eq_true rfl) rfl ?_
    refine ww_iinc (i := 11) (v := _ + 1) (lv2 := [(0, _), (1, _), (2, _), (3, _), (4, _), (5, _), (6, _), (8, _), (11, _), (12, _)]) dL_law_1683 rfl (by rfl) (Nat.le_of_ble_eq_true rfl) rfl ?_
    refine ww_goto (tgt := 1578) dL_law_1686 (by decide) ?_
    -- at 1578, locals [0, 1, 2, 3, 4, 5, 6, 8, 11, 12]
    rw [nI_1 i]
    exact kk
  · rw [e] at oh
    have k1 := hL.1 q hq
    have k2 := hL.1 i hi
    have o0 := x_of0 h hq
    have oi := x_of0 h hi
    have hin := l_inside h (nI q) (S 2 i)
    have hro : ww_C g wy_L_room 1 0 0 [.int (S 2 q), .int (S 2 i)] M (ww_ret (some (.int (q_places (S 2 q) (S 2 i)))) M) ww_no := by
      rw [k1, k2]
      exact l_room q_KD_lt q_KD_lt
    have hle : q_inK S 23 (nI q) (S 2 i) ≤ 23 := q_cnt_le _ 23
    have hC := x_C h q hq (q_KD i) q_KD_lt
    have hnl : ¬ q_places (S 2 q) (S 2 i) < nI (q_inK S 23 (nI q) (S 2 i)) := fun y => by
      rw [ww_lt, nI_toInt (by omega)] at y
      rw [← k2] at hC
      have hC : ((q_inK S 23 (nI q) (S 2 i) : Nat) : Int) ≤ (q_places (S 2 q) (S 2 i)).toInt := hC
      omega
    refine ww_aload_n (i := 1) dL_law_1627 rfl rfl ?_
    refine ww_iload (i := 11) dL_law_1628 rfl ?_
    refine ww_callV (κ := 7) (r := (RX6, TX6, 4)) wk_L_18 dL_law_1630 (oh) rfl rfl (show ww_is _ _ 7 from hx).1 (show ww_is _ _ 7 from hx).2 rfl rfl (by omega) (by omega) (by omega) (by first | exact Nat.le_of_ble_eq_true rfl | (simp [ww_rf_cat, Value.category])) rfl (fun E M9 h9 => h9.elim) (fun v9 M9 h9 => ?_)
    obtain ⟨rfl, rfl⟩ := h9
    refine ww_if_lt_f (tgt := 1677) dL_law_1633 (by decide) (nI_pos (by omega)) ?_
    refine ww_aload_n (i := 1) dL_law_1636 rfl rfl ?_
    refine ww_aload_n (i := 1) dL_law_1637 rfl rfl ?_
    refine ww_iload (i := 11) dL_law_1638 rfl ?_
    refine ww_callV (κ := 7) (r := (RX6, TX6, 4)) wk_L_18 dL_law_1640 (oh) rfl rfl (show ww_is _ _ 7 from hx).1 (show ww_is _ _ 7 from hx).2 rfl rfl (by omega) (by omega) (by omega) (by first | exact Nat.le_of_ble_eq_true rfl | (simp [ww_rf_cat, Value.category])) rfl (fun E M9 h9 => h9.elim) (fun v9 M9 h9 => ?_)
    obtain ⟨rfl, rfl⟩ := h9
    refine ww_iconst (v := 0) dL_law_1643 (by decide) ?_
    refine ww_callV (κ := 7) (r := (RX6, TX6, 4)) wk_L_22 dL_law_1644 (o0) rfl rfl (show ww_is _ _ 7 from hx).1 (show ww_is _ _ 7 from hx).2 rfl rfl (by omega) (by omega) (by omega) (by first | exact Nat.le_of_ble_eq_true rfl | (simp [ww_rf_cat, Value.category])) rfl (fun E M9 h9 => h9.elim) (fun v9 M9 h9 => ?_)
    obtain ⟨rfl, rfl⟩ := h9
    refine ww_aload_n (i := 1) dL_law_1647 rfl rfl ?_
    refine ww_iload (i := 11) dL_law_1648 rfl ?_
    refine ww_iconst (v := 0) dL_law_1650 (by decide) ?_
    refine ww_callV (κ := 7) (r := (RX6, TX6, 4)) wk_L_22 dL_law_1651 (oi) rfl rfl (show ww_is _ _ 7 from hx).1 (show ww_is _ _ 7 from hx).2 rfl rfl (by omega) (by omega) (by omega) (by first | exact Nat.le_of_ble_eq_true rfl | (simp [ww_rf_cat, Value.category])) rfl (fun E M9 h9 => h9.elim) (fun v9 M9 h9 => ?_)
    obtain ⟨rfl, rfl⟩ := h9
    refine ww_callS wk_L_80 rfl dL_law_1654 (hro) rfl rfl (by omega) (by omega) (by omega) (by first | exact Nat.le_of_ble_eq_true rfl | (simp [ww_rf_cat, Value.category])) rfl (fun E M9 h9 => h9.elim) (fun v9 M9 h9 => ?_)
    obtain ⟨rfl, rfl⟩ := h9
    refine ww_aload_n (i := 1) dL_law_1657 rfl rfl ?_
    refine ww_aload_n (i := 1) dL_law_1658 rfl rfl ?_
    refine ww_iload (i := 11) dL_law_1659 rfl ?_
    refine ww_callV (κ := 7) (r := (RX6, TX6, 4)) wk_L_18 dL_law_1661 (oh) rfl rfl (show ww_is _ _ 7 from hx).1 (show ww_is _ _ 7 from hx).2 rfl rfl (by omega) (by omega) (by omega) (by first | exact Nat.le_of_ble_eq_true rfl | (simp [ww_rf_cat, Value.category])) rfl (fun E M9 h9 => h9.elim) (fun v9 M9 h9 => ?_)
    obtain ⟨rfl, rfl⟩ := h9
    refine ww_aload_n (i := 1) dL_law_1664 rfl rfl ?_
    refine ww_iload (i := 11) dL_law_1665 rfl ?_
    refine ww_iconst (v := 0) dL_law_1667 (by decide) ?_
    refine ww_callV (κ := 7) (r := (RX6, TX6, 4)) wk_L_22 dL_law_1668 (oi) rfl rfl (show ww_is _ _ 7 from hx).1 (show ww_is _ _ 7 from hx).2 rfl rfl (by omega) (by omega) (by omega) (by first | exact Nat.le_of_ble_eq_true rfl | (simp [ww_rf_cat, Value.category])) rfl (fun E M9 h9 => h9.elim) (fun v9 M9 h9 => ?_)
    obtain ⟨rfl, rfl⟩ := h9
    refine ww_callS wk_L_76 rfl dL_law_1671 (hin) rfl rfl (by omega) (by omega) (by omega) (by first | exact Nat.le_of_ble_eq_true rfl | (simp [ww_rf_cat, Value.category])) rfl (fun E M9 h9 => h9.elim) (fun v9 M9 h9 => ?_)
    obtain ⟨rfl, rfl⟩ := h9
    refine ww_icmp_lt_f (tgt := 1681) dL_law_1674 (by decide) hnl ?_
    refine ww_iconst (v := 1) dL_law_1677 (by decide) ?_
    refine ww_goto (tgt := 1682) dL_law_1678 (by decide) ?_
    refine ww_istore_n (i := 2) (lv2 := [(0, _), (1, _), (2, _), (3, _), (4, _), (5, _), (6, _), (8, _), (11, _), (12, _)]) dL_law_1682 rfl (Nat.le_of_ble_eq_true rfl) rfl ?_
    refine ww_iinc (i := 11) (v := _ + 1) (lv2 := [(0, _), (1, _), (2, _), (3, _), (4, _), (5, _), (6, _), (8, _), (11, _), (12, _)]) dL_law_1683 rfl (by rfl) (Nat.le_of_ble_eq_true rfl) rfl ?_
    refine ww_goto (tgt := 1578) dL_law_1686 (by decide) ?_
    -- at 1578, locals [0, 1, 2, 3, 4, 5, 6, 8, 11, 12]
    rw [nI_1 i]
    exact kk
set_option maxRecDepth 20000 in
set_option maxHeartbeats 4000000 in
theorem law_e1 (h : ww_mx g c b 23 w m S M) (hL : q_LI S w m wa) (hp : p < 23) (hd : 24 ≤ d) (kk : ww_A g wy_L_law d kc ks M 1689 [(0, .ref (ww_gb g)), (1, .ref (c 0)), (2, .int 1), (3, .int mo), (4, .int wa), (5, .int ti), (6, .int v), (8, .int (nI p)), (11, .int (23))] [] Q X) : ∀ r i, i + r = 23 → ww_A g wy_L_law d kc ks M 1578 [(0, .ref (ww_gb g)), (1, .ref (c 0)), (2, .int 1), (3, .int mo), (4, .int wa), (5, .int ti), (6, .int v), (8, .int (nI p)), (11, .int (nI i))] [] Q X
  | 0, i, hi => by
    have e0 : i = 23 := by omega
    subst e0
    refine ww_iload (i := 11) dL_law_1578 rfl ?_
    refine ww_bipush (v := 23) dL_law_1580 (by decide) ?_
    refine ww_icmp_ge_t (tgt := 1689) dL_law_1582 (by decide) (by decide) ?_
    -- at 1689, locals [0, 1, 2, 3, 4, 5, 6, 8, 11]
    exact kk
  | r + 1, i, hi => by
    have hx := x_is h
    have hi' : i < 23 := by omega
    have ih := law_e1 h hL hp hd kk r (i + 1) (by omega)
    have e23 : ¬ (23 : Int32) ≤ nI i := nI_ge (b := 23) hi' (by decide)
    obtain ⟨mv, hmv, hof, h0, htr⟩ := x_moves h hi'
    have oh := x_host h hi'
    by_cases c1 : mv = 0
    · subst c1
      refine ww_iload (i := 11) dL_law_1578 rfl ?_
      refine ww_bipush (v := 23) dL_law_1580 (by decide) ?_
      refine ww_icmp_ge_f (tgt := 1689) dL_law_1582 (by decide) e23 ?_
      refine ww_iload_n (i := 2) dL_law_1585 rfl rfl ?_
      refine ww_if_eq_f (tgt := 1689) dL_law_1586 (by decide) (by decide) ?_
      refine ww_aload_n (i := 1) dL_law_1589 rfl rfl ?_
      refine ww_iload (i := 11) dL_law_1590 rfl ?_
      refine ww_bipush (v := 8) dL_law_1592 (by decide) ?_
      refine ww_callV (κ := 7) (r := (RX6, TX6, 4)) wk_L_22 dL_law_1594 (hof) rfl rfl (show ww_is _ _ 7 from hx).1 (show ww_is _ _ 7 from hx).2 rfl rfl (by omega) (by omega) (by omega) (by first | exact Nat.le_of_ble_eq_true rfl | (simp [ww_rf_cat, Value.category])) rfl (fun E M9 h9 => h9.elim) (fun v9 M9 h9 => ?_)
      obtain ⟨rfl, rfl⟩ := h9
      refine ww_istore (i := 12) (lv2 := [(0, _), (1, _), (2, _), (3, _), (4, _), (5, _), (6, _), (8, _), (11, _), (12, _)]) dL_law_1597 (Nat.le_of_ble_eq_true rfl) rfl ?_
      refine ww_aload_n (i := 1) dL_law_1599 rfl rfl ?_
      refine ww_iload (i := 11) dL_law_1600 rfl ?_
      refine ww_callV (κ := 7) (r := (RX6, TX6, 4)) wk_L_18 dL_law_1602 (oh) rfl rfl (show ww_is _ _ 7 from hx).1 (show ww_is _ _ 7 from hx).2 rfl rfl (by omega) (by omega) (by omega) (by first | exact Nat.le_of_ble_eq_true rfl | (simp [ww_rf_cat, Value.category])) rfl (fun E M9 h9 => h9.elim) (fun v9 M9 h9 => ?_)
      obtain ⟨rfl, rfl⟩ := h9
      refine ww_iload (i := 12) dL_law_1605 rfl ?_
      refine ww_if_ne_f (tgt := 1614) dL_law_1607 (by decide) rfl ?_
      refine ww_iconst (v := (-1)) dL_law_1610 (by decide) ?_
      refine ww_goto (tgt := 1624) dL_law_1611 (by decide) ?_
      refine ww_icmp_ne_f (tgt := 1681) dL_law_1624 (by decide) (h0 rfl) ?_
      -- at 1627, locals [0, 1, 2, 3, 4, 5, 6, 8, 11, 12]
      exact law_e2 h hL hp hd hi' (ww_subk ih ⟨rfl, rfl, rfl, rfl, rfl, rfl, rfl, rfl, rfl, trivial⟩)
    · have htr := htr (by omega)
      refine ww_iload (i := 11) dL_law_1578 rfl ?_
      refine ww_bipush (v := 23) dL_law_1580 (by decide) ?_
      refine ww_icmp_ge_f (tgt := 1689) dL_law_1582 (by decide) e23 ?_
      refine ww_iload_n (i := 2) dL_law_1585 rfl rfl ?_
      refine ww_if_eq_f (tgt := 1689) dL_law_1586 (by decide) (by decide) ?_
      refine ww_aload_n (i := 1) dL_law_1589 rfl rfl ?_
      refine ww_iload (i := 11) dL_law_1590 rfl ?_
      refine ww_bipush (v := 8) dL_law_1592 (by decide) ?_
      refine ww_callV (κ := 7) (r := (RX6, TX6, 4)) wk_L_22 dL_law_1594 (hof) rfl rfl (show ww_is _ _ 7 from hx).1 (show ww_is _ _ 7 from hx).2 rfl rfl (by omega) (by omega) (by omega) (by first | exact Nat.le_of_ble_eq_true rfl | (simp [ww_rf_cat, Value.category])) rfl (fun E M9 h9 => h9.elim) (fun v9 M9 h9 => ?_)
      obtain ⟨rfl, rfl⟩ := h9
      refine ww_istore (i := 12) (lv2 := [(0, _), (1, _), (2, _), (3, _), (4, _), (5, _), (6, _), (8, _), (11, _), (12, _)]) dL_law_1597 (Nat.le_of_ble_eq_true rfl) rfl ?_
      refine ww_aload_n (i := 1) dL_law_1599 rfl rfl ?_
      refine ww_iload (i := 11) dL_law_1600 rfl ?_
      refine ww_callV (κ := 7) (r := (RX6, TX6, 4)) wk_L_18 dL_law_1602 (oh) rfl rfl (show ww_is _ _ 7 from hx).1 (show ww_is _ _ 7 from hx).2 rfl rfl (by omega) (by omega) (by omega) (by first | exact Nat.le_of_ble_eq_true rfl | (simp [ww_rf_cat, Value.category])) rfl (fun E M9 h9 => h9.elim) (fun v9 M9 h9 => ?_)
      obtain ⟨rfl, rfl⟩ := h9
      refine ww_iload (i := 12) dL_law_1605 rfl ?_
      refine ww_if_ne_t (tgt := 1614) dL_law_1607 (by decide) (q_ne (k := 0) (by omega) (by decide) c1) ?_
      refine ww_aload_n (i := 1) dL_law_1614 rfl rfl ?_
      refine ww_iload (i := 11) dL_law_1615 rfl ?_
      refine ww_iload (i := 12) dL_law_1617 rfl ?_
      refine ww_iconst (v := 1) dL_law_1619 (by decide) ?_
      refine ww_isub dL_law_1620 ?_
      -- at 1621, locals [0, 1, 2, 3, 4, 5, 6, 8, 11, 12]
      refine ww_top (nI (mv - 1)) (q_subN (k := 1) (by omega) (by omega)) ?_
      refine ww_callV (κ := 7) (r := (RX6, TX6, 4)) wk_L_128 dL_law_1621 (htr) rfl rfl (show ww_is _ _ 7 from hx).1 (show ww_is _ _ 7 from hx).2 rfl rfl (by omega) (by omega) (by omega) (by first | exact Nat.le_of_ble_eq_true rfl | (simp [ww_rf_cat, Value.category])) rfl (fun E M9 h9 => h9.elim) (fun v9 M9 h9 => ?_)
      obtain ⟨rfl, rfl⟩ := h9
      refine ww_icmp_ne_f (tgt := 1681) dL_law_1624 (by decide) rfl ?_
      -- at 1627, locals [0, 1, 2, 3, 4, 5, 6, 8, 11, 12]
      exact law_e2 h hL hp hd hi' (ww_subk ih ⟨rfl, rfl, rfl, rfl, rfl, rfl, rfl, rfl, rfl, trivial⟩)
set_option maxRecDepth 20000 in
set_option maxHeartbeats 4000000 in
theorem law_e3 (h : ww_mx g c b 23 w m S M) (hL : q_LI S w m wa) (hp : p < 23) (hd : 24 ≤ d) (kk : ∀ M', ww_mx g c b 23 w m S M' → ww_A g wy_L_law d kc ks M' 1756 [(0, .ref (ww_gb g)), (1, .ref (c 0)), (2, .int 1), (3, .int mo), (4, .int wa), (5, .int ti), (6, .int v), (8, .int (nI p))] [] Q X) : ww_A g wy_L_law d kc ks M 1689 [(0, .ref (ww_gb g)), (1, .ref (c 0)), (2, .int 1), (3, .int mo), (4, .int wa), (5, .int ti), (6, .int v), (8, .int (nI p)), (11, .int (23))] [] Q X := by
  have hx := x_is h
  have hk0 := q_k0 hL
  have hla := x_lifeAnew h hp
  refine ww_iload_n (i := 2) dL_law_1689 rfl rfl ?_
  refine ww_if_eq_f (tgt := 1754) dL_law_1690 (by decide) (by decide) ?_
  refine ww_aload_n (i := 1) dL_law_1693 rfl rfl ?_
  refine ww_iload (i := 8) dL_law_1694 rfl ?_
  refine ww_callV (κ := 7) (r := (RX6, TX6, 4)) wk_L_131 dL_law_1696 (hla) rfl rfl (show ww_is _ _ 7 from hx).1 (show ww_is _ _ 7 from hx).2 rfl rfl (by omega) (by omega) (by omega) (by first | exact Nat.le_of_ble_eq_true rfl | (simp [ww_rf_cat, Value.category])) rfl (fun E M9 h9 => h9.elim) (fun v9 M9 h9 => ?_)
  obtain ⟨rfl, h1⟩ := h9
  -- at 1699, locals [0, 1, 2, 3, 4, 5, 6, 8, 11]
  have hx1 := x_is h1
  have o3 := x_of3 h1 hp
  have hba := x_bars h1 (p := 0) (by decide) hk0
  have hby := x_barredBy h1 (p := 0) (by decide) hk0
  have hcb := q_cby_1 (S := S) (n := 23) (t := 0) (by decide)
  have hfn := q_fbar_n (S := S) (n := 23) (t := 0)
  obtain ⟨best, b1, k1, k2, k5, k6⟩ := q_bp (w := w) S (x_W h).2.1
  have hpa := x_planAnew k6 h1
  by_cases c1 : q_fbar S 23 0 7 1 = 0
  · refine ww_aload_n (i := 1) dL_law_1699 rfl rfl ?_
    refine ww_iload (i := 8) dL_law_1700 rfl ?_
    refine ww_iconst (v := 3) dL_law_1702 (by decide) ?_
    refine ww_callV (κ := 7) (r := (RX6, TX6, 4)) wk_L_22 dL_law_1703 (o3) rfl rfl (show ww_is _ _ 7 from hx1).1 (show ww_is _ _ 7 from hx1).2 rfl rfl (by omega) (by omega) (by omega) (by first | exact Nat.le_of_ble_eq_true rfl | (simp [ww_rf_cat, Value.category])) rfl (fun E M9 h9 => h9.elim) (fun v9 M9 h9 => ?_)
    obtain ⟨rfl, rfl⟩ := h9
    refine ww_icmp_ne_f (tgt := 1754) dL_law_1706 (by decide) rfl ?_
    refine ww_aload_n (i := 1) dL_law_1709 rfl rfl ?_
    refine ww_iconst (v := 0) dL_law_1710 (by decide) ?_
    refine ww_callV (κ := 7) (r := (RX6, TX6, 4)) wk_L_53 dL_law_1711 (hba) rfl rfl (show ww_is _ _ 7 from hx1).1 (show ww_is _ _ 7 from hx1).2 rfl rfl (by omega) (by omega) (by omega) (by first | exact Nat.le_of_ble_eq_true rfl | (simp [ww_rf_cat, Value.category])) rfl (fun E M9 h9 => h9.elim) (fun v9 M9 h9 => ?_)
    obtain ⟨rfl, rfl⟩ := h9
    refine ww_if_ne_f (tgt := 1721) dL_law_1714 (by decide) (hfn.mpr c1) ?_
    refine ww_iconst (v := 1) dL_law_1717 (by decide) ?_
    refine ww_goto (tgt := 1722) dL_law_1718 (by decide) ?_
    refine ww_aload_n (i := 1) dL_law_1722 rfl rfl ?_
    refine ww_iconst (v := 0) dL_law_1723 (by decide) ?_
    refine ww_callV (κ := 7) (r := (RX6, TX6, 4)) wk_L_63 dL_law_1724 (hby) rfl rfl (show ww_is _ _ 7 from hx1).1 (show ww_is _ _ 7 from hx1).2 rfl rfl (by omega) (by omega) (by omega) (by first | exact Nat.le_of_ble_eq_true rfl | (simp [ww_rf_cat, Value.category])) rfl (fun E M9 h9 => h9.elim) (fun v9 M9 h9 => ?_)
    obtain ⟨rfl, rfl⟩ := h9
    refine ww_iconst (v := (-1)) dL_law_1727 (by decide) ?_
    refine ww_icmp_ne_f (tgt := 1735) dL_law_1728 (by decide) (hcb.mpr c1) ?_
    refine ww_iconst (v := 1) dL_law_1731 (by decide) ?_
    refine ww_goto (tgt := 1736) dL_law_1732 (by decide) ?_
    refine ww_icmp_ne_f (tgt := 1754) dL_law_1736 (by decide) (by decide) ?_
    refine ww_aload_n (i := 1) dL_law_1739 rfl rfl ?_
    refine ww_callV (κ := 7) (r := (RX6, TX6, 4)) wk_L_134 dL_law_1740 (hpa) rfl rfl (show ww_is _ _ 7 from hx1).1 (show ww_is _ _ 7 from hx1).2 rfl rfl (by omega) (by omega) (by omega) (by first | exact Nat.le_of_ble_eq_true rfl | (simp [ww_rf_cat, Value.category])) rfl (fun E M9 h9 => h9.elim) (fun v9 M9 h9 => ?_)
    obtain ⟨rfl, h2⟩ := h9
    -- at 1743, locals [0, 1, 2, 3, 4, 5, 6, 8, 11]
    have hx2 := x_is h2
    have hpl := x_plan (best := best) (fun bl p0 hbl => ⟨(k5 bl p0 hbl).1, (k5 bl p0 hbl).2.1⟩) h2
    refine ww_aload_n (i := 1) dL_law_1743 rfl rfl ?_
    refine ww_callV (κ := 7) (r := (RX6, TX6, 4)) wk_L_122 dL_law_1744 (hpl) rfl rfl (show ww_is _ _ 7 from hx2).1 (show ww_is _ _ 7 from hx2).2 rfl rfl (by omega) (by omega) (by omega) (by first | exact Nat.le_of_ble_eq_true rfl | (simp [ww_rf_cat, Value.category])) rfl (fun E M9 h9 => h9.elim) (fun v9 M9 h9 => ?_)
    obtain ⟨rfl, h3⟩ := h9
    refine ww_icmp_ne_f (tgt := 1754) dL_law_1747 (by decide) rfl ?_
    refine ww_iconst (v := 1) dL_law_1750 (by decide) ?_
    refine ww_goto (tgt := 1755) dL_law_1751 (by decide) ?_
    refine ww_istore_n (i := 2) (lv2 := [(0, _), (1, _), (2, _), (3, _), (4, _), (5, _), (6, _), (8, _), (11, _)]) dL_law_1755 rfl (Nat.le_of_ble_eq_true rfl) rfl ?_
    -- at 1756, locals [0, 1, 2, 3, 4, 5, 6, 8, 11]
    exact ww_subk (ww_less (by omega) (by omega) (kk _ h3)) ⟨rfl, rfl, rfl, rfl, rfl, rfl, rfl, rfl, trivial⟩
  · refine ww_aload_n (i := 1) dL_law_1699 rfl rfl ?_
    refine ww_iload (i := 8) dL_law_1700 rfl ?_
    refine ww_iconst (v := 3) dL_law_1702 (by decide) ?_
    refine ww_callV (κ := 7) (r := (RX6, TX6, 4)) wk_L_22 dL_law_1703 (o3) rfl rfl (show ww_is _ _ 7 from hx1).1 (show ww_is _ _ 7 from hx1).2 rfl rfl (by omega) (by omega) (by omega) (by first | exact Nat.le_of_ble_eq_true rfl | (simp [ww_rf_cat, Value.category])) rfl (fun E M9 h9 => h9.elim) (fun v9 M9 h9 => ?_)
    obtain ⟨rfl, rfl⟩ := h9
    refine ww_icmp_ne_f (tgt := 1754) dL_law_1706 (by decide) rfl ?_
    refine ww_aload_n (i := 1) dL_law_1709 rfl rfl ?_
    refine ww_iconst (v := 0) dL_law_1710 (by decide) ?_
    refine ww_callV (κ := 7) (r := (RX6, TX6, 4)) wk_L_53 dL_law_1711 (hba) rfl rfl (show ww_is _ _ 7 from hx1).1 (show ww_is _ _ 7 from hx1).2 rfl rfl (by omega) (by omega) (by omega) (by first | exact Nat.le_of_ble_eq_true rfl | (simp [ww_rf_cat, Value.category])) rfl (fun E M9 h9 => h9.elim) (fun v9 M9 h9 => ?_)
    obtain ⟨rfl, rfl⟩ := h9
    refine ww_if_ne_t (tgt := 1721) dL_law_1714 (by decide) (fun y => c1 (hfn.mp y)) ?_
    refine ww_iconst (v := 0) dL_law_1721 (by decide) ?_
    refine ww_aload_n (i := 1) dL_law_1722 rfl rfl ?_
    refine ww_iconst (v := 0) dL_law_1723 (by decide) ?_
    refine ww_callV (κ := 7) (r := (RX6, TX6, 4)) wk_L_63 dL_law_1724 (hby) rfl rfl (show ww_is _ _ 7 from hx1).1 (show ww_is _ _ 7 from hx1).2 rfl rfl (by omega) (by omega) (by omega) (by first | exact Nat.le_of_ble_eq_true rfl | (simp [ww_rf_cat, Value.category])) rfl (fun E M9 h9 => h9.elim) (fun v9 M9 h9 => ?_)
    obtain ⟨rfl, rfl⟩ := h9
    refine ww_iconst (v := (-1)) dL_law_1727 (by decide) ?_
    refine ww_icmp_ne_t (tgt := 1735) dL_law_1728 (by decide) (fun y => c1 (hcb.mp y)) ?_
    refine ww_iconst (v := 0) dL_law_1735 (by decide) ?_
    refine ww_icmp_ne_f (tgt := 1754) dL_law_1736 (by decide) (by decide) ?_
    refine ww_aload_n (i := 1) dL_law_1739 rfl rfl ?_
    refine ww_callV (κ := 7) (r := (RX6, TX6, 4)) wk_L_134 dL_law_1740 (hpa) rfl rfl (show ww_is _ _ 7 from hx1).1 (show ww_is _ _ 7 from hx1).2 rfl rfl (by omega) (by omega) (by omega) (by first | exact Nat.le_of_ble_eq_true rfl | (simp [ww_rf_cat, Value.category])) rfl (fun E M9 h9 => h9.elim) (fun v9 M9 h9 => ?_)
    obtain ⟨rfl, h2⟩ := h9
    -- at 1743, locals [0, 1, 2, 3, 4, 5, 6, 8, 11]
    have hx2 := x_is h2
    have hpl := x_plan (best := best) (fun bl p0 hbl => ⟨(k5 bl p0 hbl).1, (k5 bl p0 hbl).2.1⟩) h2
    refine ww_aload_n (i := 1) dL_law_1743 rfl rfl ?_
    refine ww_callV (κ := 7) (r := (RX6, TX6, 4)) wk_L_122 dL_law_1744 (hpl) rfl rfl (show ww_is _ _ 7 from hx2).1 (show ww_is _ _ 7 from hx2).2 rfl rfl (by omega) (by omega) (by omega) (by first | exact Nat.le_of_ble_eq_true rfl | (simp [ww_rf_cat, Value.category])) rfl (fun E M9 h9 => h9.elim) (fun v9 M9 h9 => ?_)
    obtain ⟨rfl, h3⟩ := h9
    refine ww_icmp_ne_f (tgt := 1754) dL_law_1747 (by decide) rfl ?_
    refine ww_iconst (v := 1) dL_law_1750 (by decide) ?_
    refine ww_goto (tgt := 1755) dL_law_1751 (by decide) ?_
    refine ww_istore_n (i := 2) (lv2 := [(0, _), (1, _), (2, _), (3, _), (4, _), (5, _), (6, _), (8, _), (11, _)]) dL_law_1755 rfl (Nat.le_of_ble_eq_true rfl) rfl ?_
    -- at 1756, locals [0, 1, 2, 3, 4, 5, 6, 8, 11]
    exact ww_subk (ww_less (by omega) (by omega) (kk _ h3)) ⟨rfl, rfl, rfl, rfl, rfl, rfl, rfl, rfl, trivial⟩
set_option maxRecDepth 20000 in
set_option maxHeartbeats 4000000 in
theorem law_loop {L : Nat} (hgl : ww_gl g ≤ 260) (hLg : L ≤ ww_gl g) (h45 : L ≤ 45) (hd : 24 ≤ d) (hQ : ∀ M', Q (some (.int 1)) M') : ∀ r t, t + r = L → ∀ (M : ww_M) (S : Nat → Nat → Int32) (b w m : Nat) (wa : Int32) (kc ks : Nat), b ≤ 45 + 4 * t → ww_mx g c b 23 w m S M → q_LI S w m wa → 20 * r ≤ kc → 8000 * r ≤ ks → ww_A g wy_L_law d kc ks M 108 [(0, .ref (ww_gb g)), (1, .ref (c 0)), (2, .int 1), (3, .int (nI L)), (4, .int wa), (5, .int (nI t))] [] Q X
  | 0, t, ht, M, S, b, w, m, wa, kc, ks, hb, h, hL, hkc, hks => by
    have e0 : t = L := by omega
    subst e0
    refine ww_iload (i := 5) dL_law_108 rfl ?_
    refine ww_iload_n (i := 3) dL_law_110 rfl rfl ?_
    refine ww_icmp_ge_t (tgt := 1762) dL_law_111 (by decide) (nI_le (Nat.le_refl _) (by omega)) ?_
    refine ww_iload_n (i := 2) dL_law_1762 rfl rfl ?_
    exact ww_ireturn dL_law_1763 rfl (by first | rfl | exact ww_b_nar) (hQ _)
  | r + 1, t, ht, M, S, b, w, m, wa, kc, ks, hb, h, hL, hkc, hks => by
    have hx := x_is h
    have ih := law_loop hgl hLg h45 hd hQ r (t + 1) (by omega)
    have htL : t < ww_gl g := by omega
    have hce := l_cell (g := g) (M := M) htL hgl
    generalize ww_gx g t = v at hce
    have h13 := l_low (g := g) (M := M) (v := v) (k := 13) (by decide) (by decide)
    have h13_ := q_lw_lt (v := v) (k := 13) (by decide)
    generalize q_lw v 13 = k at h13 h13_
    have h23 := l_low (g := g) (M := M) (v := v >>> (4 &&& 31)) (k := 23) (by decide) (by decide)
    have hp := q_lw_lt (v := v >>> (4 &&& 31)) (k := 23) (by decide)
    generalize q_lw (v >>> (4 &&& 31)) 23 = p at h23 hp
    have hho := x_host h hp
    have hhd := x_head h hp
    have hst := l_stands h (q_hd_lt (x_G h).2.2.1 (by decide) 5 p hp)
    have hb' : b ≤ 500 := by omega
    have hkc' : 20 ≤ kc := by omega
    have hks' : 8000 ≤ ks := by omega
    refine ww_iload (i := 5) dL_law_108 rfl ?_
    refine ww_iload_n (i := 3) dL_law_110 rfl rfl ?_
    refine ww_icmp_ge_f (tgt := 1762) dL_law_111 (by decide) (nI_ge (by omega) (by omega)) ?_
    refine ww_iload_n (i := 2) dL_law_114 rfl rfl ?_
    refine ww_if_eq_f (tgt := 1762) dL_law_115 (by decide) (by decide) ?_
    first | refine ww_aload_n (i := 0) dL_law_118 rfl rfl ?_ | refine ww_aload_nQ (i := 0) dL_law_118 rfl rfl ?_
    refine ww_iload (i := 5) dL_law_119 rfl ?_
    refine ww_callS wk_L_39 rfl dL_law_121 (hce) rfl rfl (by omega) (by omega) (by omega) (by first | exact Nat.le_of_ble_eq_true rfl | (simp [ww_rf_cat, Value.category])) rfl (fun E M9 h9 => h9.elim) (fun v9 M9 h9 => ?_)
    obtain ⟨rfl, rfl⟩ := h9
    refine ww_istore (i := 6) (lv2 := [(0, _), (1, _), (2, _), (3, _), (4, _), (5, _), (6, _)]) dL_law_124 (Nat.le_of_ble_eq_true rfl) rfl ?_
    refine ww_iload (i := 6) dL_law_126 rfl ?_
    refine ww_bipush (v := 13) dL_law_128 (by decide) ?_
    refine ww_callS wk_L_43 rfl dL_law_130 (h13) rfl rfl (by omega) (by omega) (by omega) (by first | exact Nat.le_of_ble_eq_true rfl | (simp [ww_rf_cat, Value.category])) rfl (fun E M9 h9 => h9.elim) (fun v9 M9 h9 => ?_)
    obtain ⟨rfl, rfl⟩ := h9
    refine ww_istore (i := 7) (lv2 := [(0, _), (1, _), (2, _), (3, _), (4, _), (5, _), (6, _), (7, _)]) dL_law_133 (Nat.le_of_ble_eq_true rfl) rfl ?_
    refine ww_iload (i := 6) dL_law_135 rfl ?_
    refine ww_iconst (v := 4) dL_law_137 (by decide) ?_
    refine ww_ishr dL_law_138 ?_
    refine ww_bipush (v := 23) dL_law_139 (by decide) ?_
    refine ww_callS wk_L_43 rfl dL_law_141 (h23) rfl rfl (by omega) (by omega) (by omega) (by first | exact Nat.le_of_ble_eq_true rfl | (simp [ww_rf_cat, Value.category])) rfl (fun E M9 h9 => h9.elim) (fun v9 M9 h9 => ?_)
    obtain ⟨rfl, rfl⟩ := h9
    refine ww_istore (i := 8) (lv2 := [(0, _), (1, _), (2, _), (3, _), (4, _), (5, _), (6, _), (7, _), (8, _)]) dL_law_144 (Nat.le_of_ble_eq_true rfl) rfl ?_
    refine ww_aload_n (i := 1) dL_law_146 rfl rfl ?_
    refine ww_iload (i := 8) dL_law_147 rfl ?_
    refine ww_callV (κ := 7) (r := (RX6, TX6, 4)) wk_L_18 dL_law_149 (hho) rfl rfl (show ww_is _ _ 7 from hx).1 (show ww_is _ _ 7 from hx).2 rfl rfl (by omega) (by omega) (by omega) (by first | exact Nat.le_of_ble_eq_true rfl | (simp [ww_rf_cat, Value.category])) rfl (fun E M9 h9 => h9.elim) (fun v9 M9 h9 => ?_)
    obtain ⟨rfl, rfl⟩ := h9
    refine ww_istore (i := 9) (lv2 := [(0, _), (1, _), (2, _), (3, _), (4, _), (5, _), (6, _), (7, _), (8, _), (9, _)]) dL_law_152 (Nat.le_of_ble_eq_true rfl) rfl ?_
    refine ww_aload_n (i := 1) dL_law_154 rfl rfl ?_
    refine ww_aload_n (i := 1) dL_law_155 rfl rfl ?_
    refine ww_iload (i := 8) dL_law_156 rfl ?_
    refine ww_callV (κ := 7) (r := (RX6, TX6, 4)) wk_L_46 dL_law_158 (hhd) rfl rfl (show ww_is _ _ 7 from hx).1 (show ww_is _ _ 7 from hx).2 rfl rfl (by omega) (by omega) (by omega) (by first | exact Nat.le_of_ble_eq_true rfl | (simp [ww_rf_cat, Value.category])) rfl (fun E M9 h9 => h9.elim) (fun v9 M9 h9 => ?_)
    obtain ⟨rfl, rfl⟩ := h9
    refine ww_callS wk_L_49 rfl dL_law_161 (hst) rfl rfl (by omega) (by omega) (by omega) (by first | exact Nat.le_of_ble_eq_true rfl | (simp [ww_rf_cat, Value.category])) rfl (fun E M9 h9 => h9.elim) (fun v9 M9 h9 => ?_)
    obtain ⟨rfl, rfl⟩ := h9
    refine ww_istore (i := 10) (lv2 := [(0, _), (1, _), (2, _), (3, _), (4, _), (5, _), (6, _), (7, _), (8, _), (9, _), (10, _)]) dL_law_164 (Nat.le_of_ble_eq_true rfl) rfl ?_
    -- at 166, locals [0, 1, 2, 3, 4, 5, 6, 7, 8, 9, 10]
    refine ww_less (kc2 := kc) (ks2 := ks) (Nat.le_of_eq (by omega)) (Nat.le_of_eq (by omega)) ?_
    have kk : ∀ (M' : ww_M) (S' : Nat → Nat → Int32) (b' w' m' : Nat) (wa' : Int32), b' ≤ b + 4 → ww_mx g c b' 23 w' m' S' M' → q_LI S' w' m' wa' → ww_A g wy_L_law d (kc - 20) (ks - 8000) M' 1575 [(0, .ref (ww_gb g)), (1, .ref (c 0)), (2, .int 1), (3, .int (nI L)), (4, .int wa'), (5, .int (nI t)), (6, .int v), (8, .int (nI p))] [] Q X := fun M' S' b' w' m' wa' hb4 h' hL' => by
      refine ww_iconst (v := 0) dL_law_1575 (by decide) ?_
      refine ww_istore (i := 11) (lv2 := [(0, _), (1, _), (2, _), (3, _), (4, _), (5, _), (6, _), (8, _), (11, _)]) dL_law_1576 (Nat.le_of_ble_eq_true rfl) rfl ?_
      -- at 1578, locals [0, 1, 2, 3, 4, 5, 6, 8, 11]
      refine law_e1 h' hL' hp hd ?_ 23 0 (by decide)
      refine law_e3 h' hL' hp hd (fun M2 h2 => ?_)
      refine ww_iinc (i := 5) (v := _ + 1) (lv2 := [(0, _), (1, _), (2, _), (3, _), (4, _), (5, _), (6, _), (8, _)]) dL_law_1756 rfl (by rfl) (Nat.le_of_ble_eq_true rfl) rfl ?_
      refine ww_goto (tgt := 108) dL_law_1759 (by decide) ?_
      -- at 108, locals [0, 1, 2, 3, 4, 5, 6, 8]
      rw [nI_1 t]
      exact ww_subk (ih M2 S' b' w' m' wa' _ _ (by omega) h2 hL' (by omega) (by omega)) ⟨rfl, rfl, rfl, rfl, rfl, rfl, trivial⟩
    clear ih
    have hk2 : k = 0 ∨ (1 ≤ k ∧ k < 4) ∨ k = 4 ∨ k = 5 ∨ k = 6 ∨ k = 7 ∨ k = 8 ∨ k = 9 ∨ k = 10 ∨ k = 11 ∨ k = 12 := by omega
    rcases hk2 with rfl | hk1 | rfl | rfl | rfl | rfl | rfl | rfl | rfl | rfl | rfl
    · refine ww_iload (i := 7) dL_law_166 rfl ?_
      refine ww_if_ne_f (tgt := 242) dL_law_168 (by decide) (by decide) ?_
      -- at 171, locals [0, 1, 2, 3, 4, 5, 6, 7, 8, 9, 10]
      exact ww_subk (law_b0 h hL hb' hp hd hkc' hks' kk) ⟨rfl, rfl, rfl, rfl, rfl, rfl, rfl, rfl, rfl, rfl, trivial⟩
    · refine ww_iload (i := 7) dL_law_166 rfl ?_
      refine ww_if_ne_t (tgt := 242) dL_law_168 (by decide) (q_ne (k := 0) (by omega) (by decide) (by omega)) ?_
      refine ww_iload (i := 7) dL_law_242 rfl ?_
      refine ww_iconst (v := 4) dL_law_244 (by decide) ?_
      refine ww_icmp_ge_f (tgt := 416) dL_law_245 (by decide) (nI_ge (b := 4) (by omega) (by decide)) ?_
      -- at 248, locals [0, 1, 2, 3, 4, 5, 6, 7, 8, 9, 10]
      exact ww_subk (law_b1 h hL hb' hp hd hkc' hks' kk) ⟨rfl, rfl, rfl, rfl, rfl, rfl, rfl, rfl, rfl, rfl, trivial⟩
    · refine ww_iload (i := 7) dL_law_166 rfl ?_
      refine ww_if_ne_t (tgt := 242) dL_law_168 (by decide) (by decide) ?_
      refine ww_iload (i := 7) dL_law_242 rfl ?_
      refine ww_iconst (v := 4) dL_law_244 (by decide) ?_
      refine ww_icmp_ge_t (tgt := 416) dL_law_245 (by decide) (by decide) ?_
      refine ww_iload (i := 7) dL_law_416 rfl ?_
      refine ww_iconst (v := 4) dL_law_418 (by decide) ?_
      refine ww_icmp_ne_f (tgt := 556) dL_law_419 (by decide) (by decide) ?_
      -- at 422, locals [0, 1, 2, 3, 4, 5, 6, 7, 8, 9, 10]
      exact ww_subk (law_b4 h hL hb' hp hd hkc' hks' kk) ⟨rfl, rfl, rfl, rfl, rfl, rfl, rfl, rfl, rfl, rfl, trivial⟩
    · refine ww_iload (i := 7) dL_law_166 rfl ?_
      refine ww_if_ne_t (tgt := 242) dL_law_168 (by decide) (by decide) ?_
      refine ww_iload (i := 7) dL_law_242 rfl ?_
      refine ww_iconst (v := 4) dL_law_244 (by decide) ?_
      refine ww_icmp_ge_t (tgt := 416) dL_law_245 (by decide) (by decide) ?_
      refine ww_iload (i := 7) dL_law_416 rfl ?_
      refine ww_iconst (v := 4) dL_law_418 (by decide) ?_
      refine ww_icmp_ne_t (tgt := 556) dL_law_419 (by decide) (by decide) ?_
      refine ww_iload (i := 7) dL_law_556 rfl ?_
      refine ww_iconst (v := 5) dL_law_558 (by decide) ?_
      refine ww_icmp_ne_f (tgt := 756) dL_law_559 (by decide) (by decide) ?_
      -- at 562, locals [0, 1, 2, 3, 4, 5, 6, 7, 8, 9, 10]
      exact ww_subk (law_b5 h hL hb' hp hd hkc' hks' kk) ⟨rfl, rfl, rfl, rfl, rfl, rfl, rfl, rfl, rfl, rfl, trivial⟩
    · refine ww_iload (i := 7) dL_law_166 rfl ?_
      refine ww_if_ne_t (tgt := 242) dL_law_168 (by decide) (by decide) ?_
      refine ww_iload (i := 7) dL_law_242 rfl ?_
      refine ww_iconst (v := 4) dL_law_244 (by decide) ?_
      refine ww_icmp_ge_t (tgt := 416) dL_law_245 (by decide) (by decide) ?_
      refine ww_iload (i := 7) dL_law_416 rfl ?_
      refine ww_iconst (v := 4) dL_law_418 (by decide) ?_
      refine ww_icmp_ne_t (tgt := 556) dL_law_419 (by decide) (by decide) ?_
      refine ww_iload (i := 7) dL_law_556 rfl ?_
      refine ww_iconst (v := 5) dL_law_558 (by decide) ?_
      refine ww_icmp_ne_t (tgt := 756) dL_law_559 (by decide) (by decide) ?_
      refine ww_iload (i := 7) dL_law_756 rfl ?_
      refine ww_bipush (v := 6) dL_law_758 (by decide) ?_
      refine ww_icmp_ne_f (tgt := 826) dL_law_760 (by decide) (by decide) ?_
      -- at 763, locals [0, 1, 2, 3, 4, 5, 6, 7, 8, 9, 10]
      exact ww_subk (law_b6 h hL hb' hp hd hkc' hks' kk) ⟨rfl, rfl, rfl, rfl, rfl, rfl, rfl, rfl, rfl, rfl, trivial⟩
    · refine ww_iload (i := 7) dL_law_166 rfl ?_
      refine ww_if_ne_t (tgt := 242) dL_law_168 (by decide) (by decide) ?_
      refine ww_iload (i := 7) dL_law_242 rfl ?_
      refine ww_iconst (v := 4) dL_law_244 (by decide) ?_
      refine ww_icmp_ge_t (tgt := 416) dL_law_245 (by decide) (by decide) ?_
      refine ww_iload (i := 7) dL_law_416 rfl ?_
      refine ww_iconst (v := 4) dL_law_418 (by decide) ?_
      refine ww_icmp_ne_t (tgt := 556) dL_law_419 (by decide) (by decide) ?_
      refine ww_iload (i := 7) dL_law_556 rfl ?_
      refine ww_iconst (v := 5) dL_law_558 (by decide) ?_
      refine ww_icmp_ne_t (tgt := 756) dL_law_559 (by decide) (by decide) ?_
      refine ww_iload (i := 7) dL_law_756 rfl ?_
      refine ww_bipush (v := 6) dL_law_758 (by decide) ?_
      refine ww_icmp_ne_t (tgt := 826) dL_law_760 (by decide) (by decide) ?_
      refine ww_iload (i := 7) dL_law_826 rfl ?_
      refine ww_bipush (v := 7) dL_law_828 (by decide) ?_
      refine ww_icmp_ne_f (tgt := 940) dL_law_830 (by decide) (by decide) ?_
      -- at 833, locals [0, 1, 2, 3, 4, 5, 6, 7, 8, 9, 10]
      exact ww_subk (law_b7 h hL hb' hp hd hkc' hks' kk) ⟨rfl, rfl, rfl, rfl, rfl, rfl, rfl, rfl, rfl, rfl, trivial⟩
    · refine ww_iload (i := 7) dL_law_166 rfl ?_
      refine ww_if_ne_t (tgt := 242) dL_law_168 (by decide) (by decide) ?_
      refine ww_iload (i := 7) dL_law_242 rfl ?_
      refine ww_iconst (v := 4) dL_law_244 (by decide) ?_
      refine ww_icmp_ge_t (tgt := 416) dL_law_245 (by decide) (by decide) ?_
      refine ww_iload (i := 7) dL_law_416 rfl ?_
      refine ww_iconst (v := 4) dL_law_418 (by decide) ?_
      refine ww_icmp_ne_t (tgt := 556) dL_law_419 (by decide) (by decide) ?_
      refine ww_iload (i := 7) dL_law_556 rfl ?_
      refine ww_iconst (v := 5) dL_law_558 (by decide) ?_
      refine ww_icmp_ne_t (tgt := 756) dL_law_559 (by decide) (by decide) ?_
      refine ww_iload (i := 7) dL_law_756 rfl ?_
      refine ww_bipush (v := 6) dL_law_758 (by decide) ?_
      refine ww_icmp_ne_t (tgt := 826) dL_law_760 (by decide) (by decide) ?_
      refine ww_iload (i := 7) dL_law_826 rfl ?_
      refine ww_bipush (v := 7) dL_law_828 (by decide) ?_
      refine ww_icmp_ne_t (tgt := 940) dL_law_830 (by decide) (by decide) ?_
      refine ww_iload (i := 7) dL_law_940 rfl ?_
      refine ww_bipush (v := 8) dL_law_942 (by decide) ?_
      refine ww_icmp_ne_f (tgt := 1067) dL_law_944 (by decide) (by decide) ?_
      -- at 947, locals [0, 1, 2, 3, 4, 5, 6, 7, 8, 9, 10]
      exact ww_subk (law_b8 h hL hb' hp hd hkc' hks' kk) ⟨rfl, rfl, rfl, rfl, rfl, rfl, rfl, rfl, rfl, rfl, trivial⟩
    · refine ww_iload (i := 7) dL_law_166 rfl ?_
      refine ww_if_ne_t (tgt := 242) dL_law_168 (by decide) (by decide) ?_
      refine ww_iload (i := 7) dL_law_242 rfl ?_
      refine ww_iconst (v := 4) dL_law_244 (by decide) ?_
      refine ww_icmp_ge_t (tgt := 416) dL_law_245 (by decide) (by decide) ?_
      refine ww_iload (i := 7) dL_law_416 rfl ?_
      refine ww_iconst (v := 4) dL_law_418 (by decide) ?_
      refine ww_icmp_ne_t (tgt := 556) dL_law_419 (by decide) (by decide) ?_
      refine ww_iload (i := 7) dL_law_556 rfl ?_
      refine ww_iconst (v := 5) dL_law_558 (by decide) ?_
      refine ww_icmp_ne_t (tgt := 756) dL_law_559 (by decide) (by decide) ?_
      refine ww_iload (i := 7) dL_law_756 rfl ?_
      refine ww_bipush (v := 6) dL_law_758 (by decide) ?_
      refine ww_icmp_ne_t (tgt := 826) dL_law_760 (by decide) (by decide) ?_
      refine ww_iload (i := 7) dL_law_826 rfl ?_
      refine ww_bipush (v := 7) dL_law_828 (by decide) ?_
      refine ww_icmp_ne_t (tgt := 940) dL_law_830 (by decide) (by decide) ?_
      refine ww_iload (i := 7) dL_law_940 rfl ?_
      refine ww_bipush (v := 8) dL_law_942 (by decide) ?_
      refine ww_icmp_ne_t (tgt := 1067) dL_law_944 (by decide) (by decide) ?_
      refine ww_iload (i := 7) dL_law_1067 rfl ?_
      refine ww_bipush (v := 9) dL_law_1069 (by decide) ?_
      refine ww_icmp_ne_f (tgt := 1183) dL_law_1071 (by decide) (by decide) ?_
      -- at 1074, locals [0, 1, 2, 3, 4, 5, 6, 7, 8, 9, 10]
      exact ww_subk (law_b9 h hL hb' hp hd hkc' hks' kk) ⟨rfl, rfl, rfl, rfl, rfl, rfl, rfl, rfl, rfl, rfl, trivial⟩
    · refine ww_iload (i := 7) dL_law_166 rfl ?_
      refine ww_if_ne_t (tgt := 242) dL_law_168 (by decide) (by decide) ?_
      refine ww_iload (i := 7) dL_law_242 rfl ?_
      refine ww_iconst (v := 4) dL_law_244 (by decide) ?_
      refine ww_icmp_ge_t (tgt := 416) dL_law_245 (by decide) (by decide) ?_
      refine ww_iload (i := 7) dL_law_416 rfl ?_
      refine ww_iconst (v := 4) dL_law_418 (by decide) ?_
      refine ww_icmp_ne_t (tgt := 556) dL_law_419 (by decide) (by decide) ?_
      refine ww_iload (i := 7) dL_law_556 rfl ?_
      refine ww_iconst (v := 5) dL_law_558 (by decide) ?_
      refine ww_icmp_ne_t (tgt := 756) dL_law_559 (by decide) (by decide) ?_
      refine ww_iload (i := 7) dL_law_756 rfl ?_
      refine ww_bipush (v := 6) dL_law_758 (by decide) ?_
      refine ww_icmp_ne_t (tgt := 826) dL_law_760 (by decide) (by decide) ?_
      refine ww_iload (i := 7) dL_law_826 rfl ?_
      refine ww_bipush (v := 7) dL_law_828 (by decide) ?_
      refine ww_icmp_ne_t (tgt := 940) dL_law_830 (by decide) (by decide) ?_
      refine ww_iload (i := 7) dL_law_940 rfl ?_
      refine ww_bipush (v := 8) dL_law_942 (by decide) ?_
      refine ww_icmp_ne_t (tgt := 1067) dL_law_944 (by decide) (by decide) ?_
      refine ww_iload (i := 7) dL_law_1067 rfl ?_
      refine ww_bipush (v := 9) dL_law_1069 (by decide) ?_
      refine ww_icmp_ne_t (tgt := 1183) dL_law_1071 (by decide) (by decide) ?_
      refine ww_iload (i := 7) dL_law_1183 rfl ?_
      refine ww_bipush (v := 10) dL_law_1185 (by decide) ?_
      refine ww_icmp_ne_f (tgt := 1286) dL_law_1187 (by decide) (by decide) ?_
      -- at 1190, locals [0, 1, 2, 3, 4, 5, 6, 7, 8, 9, 10]
      exact ww_subk (law_b10 h hL hb' hp hd hkc' hks' kk) ⟨rfl, rfl, rfl, rfl, rfl, rfl, rfl, rfl, rfl, rfl, trivial⟩
    · refine ww_iload (i := 7) dL_law_166 rfl ?_
      refine ww_if_ne_t (tgt := 242) dL_law_168 (by decide) (by decide) ?_
      refine ww_iload (i := 7) dL_law_242 rfl ?_
      refine ww_iconst (v := 4) dL_law_244 (by decide) ?_
      refine ww_icmp_ge_t (tgt := 416) dL_law_245 (by decide) (by decide) ?_
      refine ww_iload (i := 7) dL_law_416 rfl ?_
      refine ww_iconst (v := 4) dL_law_418 (by decide) ?_
      refine ww_icmp_ne_t (tgt := 556) dL_law_419 (by decide) (by decide) ?_
      refine ww_iload (i := 7) dL_law_556 rfl ?_
      refine ww_iconst (v := 5) dL_law_558 (by decide) ?_
      refine ww_icmp_ne_t (tgt := 756) dL_law_559 (by decide) (by decide) ?_
      refine ww_iload (i := 7) dL_law_756 rfl ?_
      refine ww_bipush (v := 6) dL_law_758 (by decide) ?_
      refine ww_icmp_ne_t (tgt := 826) dL_law_760 (by decide) (by decide) ?_
      refine ww_iload (i := 7) dL_law_826 rfl ?_
      refine ww_bipush (v := 7) dL_law_828 (by decide) ?_
      refine ww_icmp_ne_t (tgt := 940) dL_law_830 (by decide) (by decide) ?_
      refine ww_iload (i := 7) dL_law_940 rfl ?_
      refine ww_bipush (v := 8) dL_law_942 (by decide) ?_
      refine ww_icmp_ne_t (tgt := 1067) dL_law_944 (by decide) (by decide) ?_
      refine ww_iload (i := 7) dL_law_1067 rfl ?_
      refine ww_bipush (v := 9) dL_law_1069 (by decide) ?_
      refine ww_icmp_ne_t (tgt := 1183) dL_law_1071 (by decide) (by decide) ?_
      refine ww_iload (i := 7) dL_law_1183 rfl ?_
      refine ww_bipush (v := 10) dL_law_1185 (by decide) ?_
      refine ww_icmp_ne_t (tgt := 1286) dL_law_1187 (by decide) (by decide) ?_
      refine ww_iload (i := 7) dL_law_1286 rfl ?_
      refine ww_bipush (v := 11) dL_law_1288 (by decide) ?_
      refine ww_icmp_ne_f (tgt := 1449) dL_law_1290 (by decide) (by decide) ?_
      -- at 1293, locals [0, 1, 2, 3, 4, 5, 6, 7, 8, 9, 10]
      exact ww_subk (law_b11 h hL hb' hp hd hkc' hks' kk) ⟨rfl, rfl, rfl, rfl, rfl, rfl, rfl, rfl, rfl, rfl, trivial⟩
    · refine ww_iload (i := 7) dL_law_166 rfl ?_
      refine ww_if_ne_t (tgt := 242) dL_law_168 (by decide) (by decide) ?_
      refine ww_iload (i := 7) dL_law_242 rfl ?_
      refine ww_iconst (v := 4) dL_law_244 (by decide) ?_
      refine ww_icmp_ge_t (tgt := 416) dL_law_245 (by decide) (by decide) ?_
      refine ww_iload (i := 7) dL_law_416 rfl ?_
      refine ww_iconst (v := 4) dL_law_418 (by decide) ?_
      refine ww_icmp_ne_t (tgt := 556) dL_law_419 (by decide) (by decide) ?_
      refine ww_iload (i := 7) dL_law_556 rfl ?_
      refine ww_iconst (v := 5) dL_law_558 (by decide) ?_
      refine ww_icmp_ne_t (tgt := 756) dL_law_559 (by decide) (by decide) ?_
      refine ww_iload (i := 7) dL_law_756 rfl ?_
      refine ww_bipush (v := 6) dL_law_758 (by decide) ?_
      refine ww_icmp_ne_t (tgt := 826) dL_law_760 (by decide) (by decide) ?_
      refine ww_iload (i := 7) dL_law_826 rfl ?_
      refine ww_bipush (v := 7) dL_law_828 (by decide) ?_
      refine ww_icmp_ne_t (tgt := 940) dL_law_830 (by decide) (by decide) ?_
      refine ww_iload (i := 7) dL_law_940 rfl ?_
      refine ww_bipush (v := 8) dL_law_942 (by decide) ?_
      refine ww_icmp_ne_t (tgt := 1067) dL_law_944 (by decide) (by decide) ?_
      refine ww_iload (i := 7) dL_law_1067 rfl ?_
      refine ww_bipush (v := 9) dL_law_1069 (by decide) ?_
      refine ww_icmp_ne_t (tgt := 1183) dL_law_1071 (by decide) (by decide) ?_
      refine ww_iload (i := 7) dL_law_1183 rfl ?_
      refine ww_bipush (v := 10) dL_law_1185 (by decide) ?_
      refine ww_icmp_ne_t (tgt := 1286) dL_law_1187 (by decide) (by decide) ?_
      refine ww_iload (i := 7) dL_law_1286 rfl ?_
      refine ww_bipush (v := 11) dL_law_1288 (by decide) ?_
      refine ww_icmp_ne_t (tgt := 1449) dL_law_1290 (by decide) (by decide) ?_
      -- at 1449, locals [0, 1, 2, 3, 4, 5, 6, 7, 8, 9, 10]
      exact ww_subk (law_b12 h hL hb' hp hd hkc' hks' kk) ⟨rfl, rfl, rfl, rfl, rfl, rfl, rfl, rfl, rfl, rfl, trivial⟩
/-- the kinds and the trains' hosts as the parts come -/
def q_I1 (S : Nat → Nat → Int32) (n : Nat) : Prop := (∀ q, q < n → S 2 q = nI (q_KD q)) ∧ S 5 0 = -1 ∧ (20 ≤ n → S 5 19 = -1)
theorem q_I1_s {n : Nat} {e i : Int32} (h : q_I1 S n) (hn : 19 ≤ n) : q_I1 (q_part S n (nI (q_KD n)) e i) (n + 1) := by
  obtain ⟨h1, h2, h3⟩ := h
  have e2 : ∀ q, q_part S n (nI (q_KD n)) e i 2 q = ww_u2 S 2 n (nI (q_KD n)) 2 q := fun q => rfl
  have e5 : ∀ q, q_part S n (nI (q_KD n)) e i 5 q = ww_u2 S 5 n (-1) 5 q := fun q => rfl
  refine ⟨fun q hq => ?_, ?_, fun h20 => ?_⟩
  · rw [e2]
    by_cases c : q = n
    · rw [c, ww_u2s]
    · rw [ww_u2n (fun y => c y.2)]
      exact h1 q (by omega)
  · rw [e5, ww_u2n (fun y => by have := y.2; omega)]
    exact h2
  · rw [e5]
    by_cases c : 19 = n
    · rw [← c, ww_u2s]
    · rw [ww_u2n (fun y => c y.2)]
      exact h3 (by omega)
theorem q_I1_0 (h : q_B2 S 0) : q_I1 S 19 := ⟨fun q hq => (h q hq).1, by rw [(h 0 (by decide)).2.2.2]; rfl, fun h20 => by omega⟩
theorem q_I1_L {b : Nat} (hx : ww_mx g c b 23 0 0 (q_limits S 3 9000 1500 400) M) (h : q_I1 S 23) : q_LI (q_limits S 3 9000 1500 400) 0 0 0 := by
  obtain ⟨h1, h2, h3⟩ := h
  refine ⟨h1, ⟨h2, h3 (by decide)⟩, ⟨rfl, rfl⟩, fun q hq e => absurd (x_m0 hx hq e) (by decide), Or.inl ⟨rfl, rfl⟩⟩
set_option maxRecDepth 20000 in
set_option maxHeartbeats 4000000 in
theorem law_go {M : ww_M} (hgl : ww_gl g ≤ 260) (hQ : ∀ M', Q (some (.int 1)) M') : ww_A g wy_L_law 24 600104 7301314 M 0 [(0, .ref (ww_gb g))] [] Q X := by
  refine ww_newO (κ := 7) wn_L_9 dL_law_0 (by decide) (show 4 ≤ 7301314 by decide) (fun x hxn => ?_)
  refine ww_less (kc2 := 600103) (ks2 := 7301310) (Nat.le_of_ble_eq_true rfl) (Nat.le_of_ble_eq_true rfl) ?_
  have hx : ww_is (ww_nw M x 7 0).1 x 7 := ⟨ww_nw_q.1, ww_nw_q.2.1⟩
  generalize ww_nw M x 7 0 = M1 at hx ⊢
  refine ww_dup dL_law_3 rfl ?_
  refine ww_callI wk_L_28 rfl dL_law_4 (c_worksInit hx) rfl rfl (by decide) (by decide) (by decide) (Nat.le_of_ble_eq_true rfl) (fun v9 M2 h9 => ?_)
  obtain ⟨rfl, t2, c, kl, hwi, n7, n8⟩ := h9
  refine ww_less (kc2 := 600089) (ks2 := 7301200) (Nat.le_of_ble_eq_true rfl) (Nat.le_of_ble_eq_true rfl) ?_
  refine ww_astore_n (i := 1) (lv2 := [(0, _), (1, _)]) dL_law_7 rfl (Nat.le_of_ble_eq_true rfl) rfl ?_
  refine ww_geL (fun hge => ?_)
  have hc0 : c 0 = x := hwi.1.1
  subst hc0
  have hrc := ww_wi_rc (ea := fun _ => ww_ge g) (P := fun _ => 0) (W := fun _ => 0) (f := fun _ => 0) (z := fun _ => 0) (D := fun _ => 0) (E := fun _ _ => 0) (S := fun _ _ => 0) hwi (fun _ => rfl) (fun k hk => ⟨rfl, rfl, rfl⟩) hge
  have h0 : ww_mx g c 0 0 0 0 (fun _ _ => 0) M2 := ⟨_, _, _, _, _, _, _, _, _, hrc, q_all_zero (fun k i _ => rfl)⟩
  clear hrc t2 hge n7 n8
  have hx0 := x_is h0
  have hbu := l_build h0
  refine ww_aload_n (i := 1) dL_law_8 rfl rfl ?_
  refine ww_callS wk_L_29 rfl dL_law_9 (hbu) rfl rfl (by omega) (by omega) (by omega) (by first | exact Nat.le_of_ble_eq_true rfl | (simp [ww_rf_cat, Value.category])) rfl (fun E M9 h9 => h9.elim) (fun v9 M9 h9 => ?_)
  obtain ⟨rfl, S1, h1, hB⟩ := h9
  -- at 12, locals [0, 1]
  have hx1 := x_is h1
  have i1 := q_I1_0 hB
  have r9 : q_rg 0 9 (9 : Int32) := by unfold q_rg; decide
  have r1 : q_rg 0 9 (1 : Int32) := by unfold q_rg; decide
  have r2 : q_rg 0 9 (2 : Int32) := by unfold q_rg; decide
  have r3 : q_rg 0 9 (3 : Int32) := by unfold q_rg; decide
  have s1 : q_rg 0 3 (1 : Int32) := by unfold q_rg; decide
  have s2 : q_rg 0 3 (2 : Int32) := by unfold q_rg; decide
  have s3 : q_rg 0 3 (3 : Int32) := by unfold q_rg; decide
  have p1 := x_part h1 (k := q_KD 19) (by decide) q_KD_lt r9 s2
  have i2 := q_I1_s (e := 9) (i := 2) i1 (by decide)
  generalize q_part S1 19 (nI (q_KD 19)) 9 2 = S2 at p1 i2
  refine ww_istore_n (i := 2) (lv2 := [(0, _), (1, _), (2, _)]) dL_law_12 rfl (Nat.le_of_ble_eq_true rfl) rfl ?_
  refine ww_iload_n (i := 2) dL_law_13 rfl rfl ?_
  refine ww_if_eq_f (tgt := 70) dL_law_14 (by decide) (by decide) ?_
  refine ww_aload_n (i := 1) dL_law_17 rfl rfl ?_
  refine ww_iconst (v := 0) dL_law_18 (by decide) ?_
  refine ww_bipush (v := 9) dL_law_19 (by decide) ?_
  refine ww_iconst (v := 2) dL_law_21 (by decide) ?_
  refine ww_callV (κ := 7) (r := (RX6, TX6, 4)) wk_L_8 dL_law_22 (p1) rfl rfl (show ww_is _ _ 7 from hx1).1 (show ww_is _ _ 7 from hx1).2 rfl rfl (by omega) (by omega) (by omega) (by first | exact Nat.le_of_ble_eq_true rfl | (simp [ww_rf_cat, Value.category])) rfl (fun E M9 h9 => h9.elim) (fun v9 M9 h9 => ?_)
  obtain ⟨rfl, h2⟩ := h9
  -- at 25, locals [0, 1, 2]
  have hx2 := x_is h2
  have p2 := x_part h2 (k := q_KD 20) (by decide) q_KD_lt r1 s1
  have i3 := q_I1_s (e := 1) (i := 1) i2 (by decide)
  generalize q_part S2 20 (nI (q_KD 20)) 1 1 = S3 at p2 i3
  refine ww_bipush (v := 19) dL_law_25 (by decide) ?_
  refine ww_icmp_ne_f (tgt := 70) dL_law_27 (by decide) rfl ?_
  refine ww_aload_n (i := 1) dL_law_30 rfl rfl ?_
  refine ww_iconst (v := 3) dL_law_31 (by decide) ?_
  refine ww_iconst (v := 1) dL_law_32 (by decide) ?_
  refine ww_iconst (v := 1) dL_law_33 (by decide) ?_
  refine ww_callV (κ := 7) (r := (RX6, TX6, 4)) wk_L_8 dL_law_34 (p2) rfl rfl (show ww_is _ _ 7 from hx2).1 (show ww_is _ _ 7 from hx2).2 rfl rfl (by omega) (by omega) (by omega) (by first | exact Nat.le_of_ble_eq_true rfl | (simp [ww_rf_cat, Value.category])) rfl (fun E M9 h9 => h9.elim) (fun v9 M9 h9 => ?_)
  obtain ⟨rfl, h3⟩ := h9
  -- at 37, locals [0, 1, 2]
  have hx3 := x_is h3
  have p3 := x_part h3 (k := q_KD 21) (by decide) q_KD_lt r2 s2
  have i4 := q_I1_s (e := 2) (i := 2) i3 (by decide)
  generalize q_part S3 21 (nI (q_KD 21)) 2 2 = S4 at p3 i4
  refine ww_bipush (v := 20) dL_law_37 (by decide) ?_
  refine ww_icmp_ne_f (tgt := 70) dL_law_39 (by decide) rfl ?_
  refine ww_aload_n (i := 1) dL_law_42 rfl rfl ?_
  refine ww_iconst (v := 4) dL_law_43 (by decide) ?_
  refine ww_iconst (v := 2) dL_law_44 (by decide) ?_
  refine ww_iconst (v := 2) dL_law_45 (by decide) ?_
  refine ww_callV (κ := 7) (r := (RX6, TX6, 4)) wk_L_8 dL_law_46 (p3) rfl rfl (show ww_is _ _ 7 from hx3).1 (show ww_is _ _ 7 from hx3).2 rfl rfl (by omega) (by omega) (by omega) (by first | exact Nat.le_of_ble_eq_true rfl | (simp [ww_rf_cat, Value.category])) rfl (fun E M9 h9 => h9.elim) (fun v9 M9 h9 => ?_)
  obtain ⟨rfl, h4⟩ := h9
  -- at 49, locals [0, 1, 2]
  have hx4 := x_is h4
  have p4 := x_part h4 (k := q_KD 22) (by decide) q_KD_lt r3 s3
  have i5 := q_I1_s (e := 3) (i := 3) i4 (by decide)
  generalize q_part S4 22 (nI (q_KD 22)) 3 3 = S5 at p4 i5
  refine ww_bipush (v := 21) dL_law_49 (by decide) ?_
  refine ww_icmp_ne_f (tgt := 70) dL_law_51 (by decide) rfl ?_
  refine ww_aload_n (i := 1) dL_law_54 rfl rfl ?_
  refine ww_iconst (v := 1) dL_law_55 (by decide) ?_
  refine ww_iconst (v := 3) dL_law_56 (by decide) ?_
  refine ww_iconst (v := 3) dL_law_57 (by decide) ?_
  refine ww_callV (κ := 7) (r := (RX6, TX6, 4)) wk_L_8 dL_law_58 (p4) rfl rfl (show ww_is _ _ 7 from hx4).1 (show ww_is _ _ 7 from hx4).2 rfl rfl (by omega) (by omega) (by omega) (by first | exact Nat.le_of_ble_eq_true rfl | (simp [ww_rf_cat, Value.category])) rfl (fun E M9 h9 => h9.elim) (fun v9 M9 h9 => ?_)
  obtain ⟨rfl, h5⟩ := h9
  -- at 61, locals [0, 1, 2]
  have hx5 := x_is h5
  have p5 := x_limits h5 (k := 3) (e := 9000) (i := 1500) (f1 := 400) (by decide) (by unfold q_rg; decide) (by unfold q_rg; decide) (by unfold q_rg; decide)
  refine ww_bipush (v := 22) dL_law_61 (by decide) ?_
  refine ww_icmp_ne_f (tgt := 70) dL_law_63 (by decide) rfl ?_
  refine ww_iconst (v := 1) dL_law_66 (by decide) ?_
  refine ww_goto (tgt := 71) dL_law_67 (by decide) ?_
  refine ww_istore_n (i := 2) (lv2 := [(0, _), (1, _), (2, _)]) dL_law_71 rfl (Nat.le_of_ble_eq_true rfl) rfl ?_
  refine ww_aload_n (i := 1) dL_law_72 rfl rfl ?_
  refine ww_iconst (v := 3) dL_law_73 (by decide) ?_
  refine ww_sipush (v := 9000) dL_law_74 (by decide) ?_
  refine ww_sipush (v := 1500) dL_law_77 (by decide) ?_
  refine ww_sipush (v := 400) dL_law_80 (by decide) ?_
  refine ww_callV (κ := 7) (r := (RX6, TX6, 4)) wk_L_35 dL_law_83 (p5) rfl rfl (show ww_is _ _ 7 from hx5).1 (show ww_is _ _ 7 from hx5).2 rfl rfl (by omega) (by omega) (by omega) (by first | exact Nat.le_of_ble_eq_true rfl | (simp [ww_rf_cat, Value.category])) rfl (fun E M9 h9 => h9.elim) (fun v9 M9 h9 => ?_)
  obtain ⟨rfl, h6⟩ := h9
  refine ww_pop dL_law_86 (by first | rfl | exact ww_rf_cat _) ?_
  -- at 87, locals [0, 1, 2]
  have hL := q_I1_L h6 i5
  refine ww_less (kc2 := 900) (ks2 := 360000) (Nat.le_of_ble_eq_true rfl) (Nat.le_of_ble_eq_true rfl) ?_
  refine ww_aload_n (i := 0) dL_law_87 rfl rfl ?_
  refine ww_slen dL_law_88 ?_
  refine ww_bipush (v := 45) dL_law_89 (by decide) ?_
  -- at 91, locals [0, 1, 2]
  by_cases c1 : (45 : Int32) ≤ nI (ww_gl g)
  · have hg := (nI_leI (a := 45) (by decide) (by omega)).mp c1
    refine ww_icmp_ge_t (tgt := 99) dL_law_91 (by decide) c1 ?_
    refine ww_bipush (v := 45) dL_law_99 (by decide) ?_
    refine ww_istore_n (i := 3) (lv2 := [(0, _), (1, _), (2, _), (3, _)]) dL_law_101 rfl (Nat.le_of_ble_eq_true rfl) rfl ?_
    refine ww_iconst (v := 0) dL_law_102 (by decide) ?_
    refine ww_istore (i := 4) (lv2 := [(0, _), (1, _), (2, _), (3, _), (4, _)]) dL_law_103 (Nat.le_of_ble_eq_true rfl) rfl ?_
    refine ww_iconst (v := 0) dL_law_105 (by decide) ?_
    refine ww_istore (i := 5) (lv2 := [(0, _), (1, _), (2, _), (3, _), (4, _), (5, _)]) dL_law_106 (Nat.le_of_ble_eq_true rfl) rfl ?_
    -- at 108, locals [0, 1, 2, 3, 4, 5]
    exact law_loop (L := 45) hgl hg (Nat.le_refl _) (Nat.le_refl _) hQ 45 0 (by decide) _ _ 42 0 0 0 _ _ (by decide) h6 hL (by decide) (by decide)
  · have hg : ¬ 45 ≤ ww_gl g := fun y => c1 ((nI_leI (a := 45) (by decide) (by omega)).mpr y)
    refine ww_icmp_ge_f (tgt := 99) dL_law_91 (by decide) c1 ?_
    refine ww_aload_n (i := 0) dL_law_94 rfl rfl ?_
    refine ww_slen dL_law_95 ?_
    refine ww_goto (tgt := 101) dL_law_96 (by decide) ?_
    refine ww_istore_n (i := 3) (lv2 := [(0, _), (1, _), (2, _), (3, _)]) dL_law_101 rfl (Nat.le_of_ble_eq_true rfl) rfl ?_
    refine ww_iconst (v := 0) dL_law_102 (by decide) ?_
    refine ww_istore (i := 4) (lv2 := [(0, _), (1, _), (2, _), (3, _), (4, _)]) dL_law_103 (Nat.le_of_ble_eq_true rfl) rfl ?_
    refine ww_iconst (v := 0) dL_law_105 (by decide) ?_
    refine ww_istore (i := 5) (lv2 := [(0, _), (1, _), (2, _), (3, _), (4, _), (5, _)]) dL_law_106 (Nat.le_of_ble_eq_true rfl) rfl ?_
    -- at 108, locals [0, 1, 2, 3, 4, 5]
    exact law_loop (L := ww_gl g) hgl (Nat.le_refl _) (by omega) (Nat.le_refl _) hQ (ww_gl g) 0 (by omega) _ _ 42 0 0 0 _ _ (by decide) h6 hL (by omega) (by omega)
end WWN5
