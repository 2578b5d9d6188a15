section WWN1
variable {g : ww_G} {M0 M M1 : ww_M} {a x pl pe n : Nat} {P W kl : Nat → Nat} {S : Nat → Nat → Int32} {v : Int32}
theorem q_G_7 {S : Nat → Nat → Int32} {n p : Nat} {v : Int32} (hG : q_G S n) (hv : v = 0 ∨ v = 1) : q_G (ww_u2 S 9 p v) n := q_G_b hG hv (by decide)
set_option maxRecDepth 20000 in
set_option maxHeartbeats 4000000 in
theorem c_look_a (hw : ww_wo g M0 M x pl pe n P) (h : ww_pf M P W kl n S) (hG : q_G S n) {p : Nat} (hp : p < n) (hc : q_look S p v) {Q : Option Value → ww_M → Prop} {X : String → ww_M → Prop} (kk : ww_A g wy_X6_look 5 0 0 M 41 [(0, .ref x), (2, .int v), (3, .ref (P p))] [] Q X) : ww_C g wy_X6_look 5 0 0 [.ref x, .int (nI p), .int v] M Q X := by
  refine ww_ent (by decide +kernel) (Nat.le_of_ble_eq_true rfl) ⟨rfl, rfl, rfl, trivial⟩ ?_
  obtain ⟨⟨hi4, _⟩, _, _, _, k167, _⟩ := h.1 p hp
  obtain ⟨c1, c2, c3⟩ := hc
  rw [if_neg c1] at k167
  by_cases c4 : v = 0
  · refine ww_aload_n (i := 0) dX6_look_0 rfl rfl ?_
    refine ww_iload_n (i := 1) dX6_look_1 rfl rfl ?_
    refine ww_callV (κ := 7) (r := (RX6, TX6, 4)) wk_X6_83 dX6_look_2 (c_existing hw h hp) rfl rfl (show ww_is _ _ 7 from hw.1).1 (show ww_is _ _ 7 from hw.1).2 rfl rfl (by omega) (by omega) (by omega) (by first | exact Nat.le_of_ble_eq_true rfl | (simp [ww_rf_cat, Value.category])) rfl (fun E M9 h9 => h9.elim) (fun v9 M9 h9 => ?_)
    obtain ⟨rfl, rfl⟩ := h9
    first | refine ww_astore_n (i := 3) (lv2 := [(0, _), (1, _), (2, _), (3, _)]) dX6_look_5 rfl (Nat.le_of_ble_eq_true rfl) rfl ?_ | refine ww_astore_nQ (i := 3) (lv2 := [(0, _), (1, _), (2, _), (3, _)]) dX6_look_5 rfl (Nat.le_of_ble_eq_true rfl) rfl ?_
    refine ww_aload_n (i := 3) dX6_look_6 rfl rfl ?_
    refine ww_getI (f := 167) wf_X6_106 dX6_look_7 rfl rfl (show ww_is _ _ 4 from hi4).1 (show ww_is _ _ 4 from hi4).2 ?_
    refine ww_if_ne_f (tgt := 31) dX6_look_10 (by decide) k167 ?_
    refine ww_aload_n (i := 3) dX6_look_13 rfl rfl ?_
    refine ww_callV (κ := 4) (r := (RX3, TX3, 18)) wk_X6_109 dX6_look_14 (p_bound_f h hG hp c2) rfl rfl (show ww_is _ _ 4 from hi4).1 (show ww_is _ _ 4 from hi4).2 rfl rfl (by omega) (by omega) (by omega) (by first | exact Nat.le_of_ble_eq_true rfl | (simp [ww_rf_cat, Value.category])) rfl (fun E M9 h9 => h9.elim) (fun v9 M9 h9 => ?_)
    obtain ⟨rfl, rfl⟩ := h9
    refine ww_if_ne_f (tgt := 31) dX6_look_17 (by decide) (by decide) ?_
    refine ww_iload_n (i := 2) dX6_look_20 rfl rfl ?_
    refine ww_if_eq_t (tgt := 41) dX6_look_21 (by decide) c4 ?_
    -- at 41, locals [0, 1, 2, 3]
    exact ww_subk kk ⟨rfl, rfl, rfl, trivial⟩
  · refine ww_aload_n (i := 0) dX6_look_0 rfl rfl ?_
    refine ww_iload_n (i := 1) dX6_look_1 rfl rfl ?_
    refine ww_callV (κ := 7) (r := (RX6, TX6, 4)) wk_X6_83 dX6_look_2 (c_existing hw h hp) rfl rfl (show ww_is _ _ 7 from hw.1).1 (show ww_is _ _ 7 from hw.1).2 rfl rfl (by omega) (by omega) (by omega) (by first | exact Nat.le_of_ble_eq_true rfl | (simp [ww_rf_cat, Value.category])) rfl (fun E M9 h9 => h9.elim) (fun v9 M9 h9 => ?_)
    obtain ⟨rfl, rfl⟩ := h9
    first | refine ww_astore_n (i := 3) (lv2 := [(0, _), (1, _), (2, _), (3, _)]) dX6_look_5 rfl (Nat.le_of_ble_eq_true rfl) rfl ?_ | refine ww_astore_nQ (i := 3) (lv2 := [(0, _), (1, _), (2, _), (3, _)]) dX6_look_5 rfl (Nat.le_of_ble_eq_true rfl) rfl ?_
    refine ww_aload_n (i := 3) dX6_look_6 rfl rfl ?_
    refine ww_getI (f := 167) wf_X6_106 dX6_look_7 rfl rfl (show ww_is _ _ 4 from hi4).1 (show ww_is _ _ 4 from hi4).2 ?_
    refine ww_if_ne_f (tgt := 31) dX6_look_10 (by decide) k167 ?_
    refine ww_aload_n (i := 3) dX6_look_13 rfl rfl ?_
    refine ww_callV (κ := 4) (r := (RX3, TX3, 18)) wk_X6_109 dX6_look_14 (p_bound_f h hG hp c2) rfl rfl (show ww_is _ _ 4 from hi4).1 (show ww_is _ _ 4 from hi4).2 rfl rfl (by omega) (by omega) (by omega) (by first | exact Nat.le_of_ble_eq_true rfl | (simp [ww_rf_cat, Value.category])) rfl (fun E M9 h9 => h9.elim) (fun v9 M9 h9 => ?_)
    obtain ⟨rfl, rfl⟩ := h9
    refine ww_if_ne_f (tgt := 31) dX6_look_17 (by decide) (by decide) ?_
    refine ww_iload_n (i := 2) dX6_look_20 rfl rfl ?_
    refine ww_if_eq_f (tgt := 41) dX6_look_21 (by decide) c4 ?_
    refine ww_aload_n (i := 3) dX6_look_24 rfl rfl ?_
    refine ww_callV (κ := 4) (r := (RX3, TX3, 18)) wk_X6_96 dX6_look_25 (p_store_t h hG hp (c3.resolve_left c4)) rfl rfl (show ww_is _ _ 4 from hi4).1 (show ww_is _ _ 4 from hi4).2 rfl rfl (by omega) (by omega) (by omega) (by first | exact Nat.le_of_ble_eq_true rfl | (simp [ww_rf_cat, Value.category])) rfl (fun E M9 h9 => h9.elim) (fun v9 M9 h9 => ?_)
    obtain ⟨rfl, rfl⟩ := h9
    refine ww_if_ne_t (tgt := 41) dX6_look_28 (by decide) (by decide) ?_
    -- at 41, locals [0, 1, 2, 3]
    exact ww_subk kk ⟨rfl, rfl, rfl, trivial⟩
set_option maxRecDepth 20000 in
set_option maxHeartbeats 4000000 in
theorem c_look_0h (hw : ww_wo g M0 M x pl pe n P) (h : ww_pf M P W kl n S) (hG : q_G S n) {p : Nat} (hp : p < n) (hc : q_look S p v) (hv : q_lookV S p v) : ww_C g wy_X6_look 5 0 0 [.ref x, .int (nI p), .int v] M (ww_cq g M0 (some (.int (S 18 p))) x pl pe n P W kl (q_holds S p)) ww_no := by
  refine c_look_a hw h hG hp hc ?_
  obtain ⟨⟨hi4, _⟩, _, _, _, _, ⟨_, _, _, _, _, k18, _⟩, _⟩ := h.1 p hp
  have hd := q_hd_lt hG.2.2.1 hG.2.1 5 p hp
  have ht4 := (h.1 _ hd).1.1
  have h1 := ww_pf_171 (v := 1) h hp
  have htop := p_top (g := g) h1 (q_G_7 hG (Or.inr rfl)) hp
  have hend : ww_pf (ww_sI (ww_sI M 171 (P p) 1) 175 (P (q_hd (S 5) 5 p)) 0) P W kl n (q_holds S p) := ww_pf_175 h1 hd
  have e : S 18 p = ww_I (ww_sI (ww_sI M 171 (P p) 1) 175 (P (q_hd (S 5) 5 p)) 0) 173 (P p) := (((ww_sI_f (by decide)).trans (ww_sI_f (by decide))).trans k18).symm
  unfold q_lookV at hv
  rw [← k18] at hv
  by_cases c4 : v = 0
  · rw [if_pos c4] at hv
    rw [e]
    refine ww_aload_n (i := 3) dX6_look_41 rfl rfl ?_
    refine ww_getI (f := 173) wf_X6_181 dX6_look_42 rfl rfl (show ww_is _ _ 4 from hi4).1 (show ww_is _ _ 4 from hi4).2 ?_
    refine ww_iload_n (i := 2) dX6_look_45 rfl rfl ?_
    refine ww_if_eq_t (tgt := 53) dX6_look_46 (by decide) c4 ?_
    refine ww_bipush (v := 10) dX6_look_53 (by decide) ?_
    refine ww_icmp_lt_f (tgt := 76) dX6_look_55 (by decide) hv ?_
    refine ww_aload_n (i := 3) dX6_look_58 rfl rfl ?_
    refine ww_iconst (v := 1) dX6_look_59 (by decide) ?_
    refine ww_putI (f := 171) wf_X6_100 wt_4_11 dX6_look_60 rfl rfl (show ww_is _ _ 4 from hi4).1 (show ww_is _ _ 4 from hi4).2 (by first | rfl | exact ww_b_nar) (by first | rfl | exact ww_b_fit) ?_
    refine ww_aload_n (i := 3) dX6_look_63 rfl rfl ?_
    refine ww_callV (κ := 4) (r := (RX3, TX3, 18)) wk_X6_137 dX6_look_64 (htop) rfl rfl (show ww_is _ _ 4 from hi4).1 (show ww_is _ _ 4 from hi4).2 rfl rfl (by omega) (by omega) (by omega) (by first | exact Nat.le_of_ble_eq_true rfl | (simp [ww_rf_cat, Value.category])) rfl (fun E M9 h9 => h9.elim) (fun v9 M9 h9 => ?_)
    obtain ⟨rfl, rfl⟩ := h9
    refine ww_iconst (v := 0) dX6_look_67 (by decide) ?_
    refine ww_putI (f := 175) wf_X6_141 wt_4_15 dX6_look_68 rfl rfl (show ww_is _ _ 4 from ht4).1 (show ww_is _ _ 4 from ht4).2 (by first | rfl | exact ww_b_nar) (by first | rfl | exact ww_b_fit) ?_
    refine ww_aload_n (i := 3) dX6_look_71 rfl rfl ?_
    refine ww_getI (f := 173) wf_X6_181 dX6_look_72 rfl rfl (show ww_is _ _ 4 from hi4).1 (show ww_is _ _ 4 from hi4).2 ?_
    exact ww_ireturn dX6_look_75 rfl (by first | rfl | exact ww_b_nar) ⟨rfl, ww_wo_I (ww_wo_I hw (by decide)) (by decide), hend⟩
  · rw [if_neg c4] at hv
    rw [e]
    refine ww_aload_n (i := 3) dX6_look_41 rfl rfl ?_
    refine ww_getI (f := 173) wf_X6_181 dX6_look_42 rfl rfl (show ww_is _ _ 4 from hi4).1 (show ww_is _ _ 4 from hi4).2 ?_
    refine ww_iload_n (i := 2) dX6_look_45 rfl rfl ?_
    refine ww_if_eq_f (tgt := 53) dX6_look_46 (by decide) c4 ?_
    refine ww_iconst (v := 3) dX6_look_49 (by decide) ?_
    refine ww_goto (tgt := 55) dX6_look_50 (by decide) ?_
    refine ww_icmp_lt_f (tgt := 76) dX6_look_55 (by decide) hv ?_
    refine ww_aload_n (i := 3) dX6_look_58 rfl rfl ?_
    refine ww_iconst (v := 1) dX6_look_59 (by decide) ?_
    refine ww_putI (f := 171) wf_X6_100 wt_4_11 dX6_look_60 rfl rfl (show ww_is _ _ 4 from hi4).1 (show ww_is _ _ 4 from hi4).2 (by first | rfl | exact ww_b_nar) (by first | rfl | exact ww_b_fit) ?_
    refine ww_aload_n (i := 3) dX6_look_63 rfl rfl ?_
    refine ww_callV (κ := 4) (r := (RX3, TX3, 18)) wk_X6_137 dX6_look_64 (htop) rfl rfl (show ww_is _ _ 4 from hi4).1 (show ww_is _ _ 4 from hi4).2 rfl rfl (by omega) (by omega) (by omega) (by first | exact Nat.le_of_ble_eq_true rfl | (simp [ww_rf_cat, Value.category])) rfl (fun E M9 h9 => h9.elim) (fun v9 M9 h9 => ?_)
    obtain ⟨rfl, rfl⟩ := h9
    refine ww_iconst (v := 0) dX6_look_67 (by decide) ?_
    refine ww_putI (f := 175) wf_X6_141 wt_4_15 dX6_look_68 rfl rfl (show ww_is _ _ 4 from ht4).1 (show ww_is _ _ 4 from ht4).2 (by first | rfl | exact ww_b_nar) (by first | rfl | exact ww_b_fit) ?_
    refine ww_aload_n (i := 3) dX6_look_71 rfl rfl ?_
    refine ww_getI (f := 173) wf_X6_181 dX6_look_72 rfl rfl (show ww_is _ _ 4 from hi4).1 (show ww_is _ _ 4 from hi4).2 ?_
    exact ww_ireturn dX6_look_75 rfl (by first | rfl | exact ww_b_nar) ⟨rfl, ww_wo_I (ww_wo_I hw (by decide)) (by decide), hend⟩
set_option maxRecDepth 20000 in
set_option maxHeartbeats 4000000 in
theorem c_look_0n (hw : ww_wo g M0 M x pl pe n P) (h : ww_pf M P W kl n S) (hG : q_G S n) {p : Nat} (hp : p < n) (hc : q_look S p v) (hv : ¬ q_lookV S p v) : ww_C g wy_X6_look 5 0 0 [.ref x, .int (nI p), .int v] M (ww_cq g M0 (some (.int 0)) x pl pe n P W kl (ww_u2 S 10 p (if v = 0 then S 10 p else 0))) ww_no := by
  refine c_look_a hw h hG hp hc ?_
  obtain ⟨⟨hi4, _⟩, _, _, _, _, ⟨_, _, _, _, _, k18, _⟩, _⟩ := h.1 p hp
  have hv := Classical.not_not.mp hv
  rw [← k18] at hv
  by_cases c4 : v = 0
  · rw [if_pos c4] at hv
    rw [if_pos c4, ww_u2_id rfl]
    refine ww_aload_n (i := 3) dX6_look_41 rfl rfl ?_
    refine ww_getI (f := 173) wf_X6_181 dX6_look_42 rfl rfl (show ww_is _ _ 4 from hi4).1 (show ww_is _ _ 4 from hi4).2 ?_
    refine ww_iload_n (i := 2) dX6_look_45 rfl rfl ?_
    refine ww_if_eq_t (tgt := 53) dX6_look_46 (by decide) c4 ?_
    refine ww_bipush (v := 10) dX6_look_53 (by decide) ?_
    refine ww_icmp_lt_t (tgt := 76) dX6_look_55 (by decide) hv ?_
    refine ww_iload_n (i := 2) dX6_look_76 rfl rfl ?_
    refine ww_if_eq_t (tgt := 85) dX6_look_77 (by decide) c4 ?_
    refine ww_iconst (v := 0) dX6_look_85 (by decide) ?_
    exact ww_ireturn dX6_look_86 rfl (by first | rfl | exact ww_b_nar) ⟨rfl, hw, h⟩
  · rw [if_neg c4] at hv
    rw [if_neg c4]
    refine ww_aload_n (i := 3) dX6_look_41 rfl rfl ?_
    refine ww_getI (f := 173) wf_X6_181 dX6_look_42 rfl rfl (show ww_is _ _ 4 from hi4).1 (show ww_is _ _ 4 from hi4).2 ?_
    refine ww_iload_n (i := 2) dX6_look_45 rfl rfl ?_
    refine ww_if_eq_f (tgt := 53) dX6_look_46 (by decide) c4 ?_
    refine ww_iconst (v := 3) dX6_look_49 (by decide) ?_
    refine ww_goto (tgt := 55) dX6_look_50 (by decide) ?_
    refine ww_icmp_lt_t (tgt := 76) dX6_look_55 (by decide) hv ?_
    refine ww_iload_n (i := 2) dX6_look_76 rfl rfl ?_
    refine ww_if_eq_f (tgt := 85) dX6_look_77 (by decide) c4 ?_
    refine ww_aload_n (i := 3) dX6_look_80 rfl rfl ?_
    refine ww_iconst (v := 0) dX6_look_81 (by decide) ?_
    refine ww_putI (f := 172) wf_X6_248 wt_4_12 dX6_look_82 rfl rfl (show ww_is _ _ 4 from hi4).1 (show ww_is _ _ 4 from hi4).2 (by first | rfl | exact ww_b_nar) (by first | rfl | exact ww_b_fit) ?_
    refine ww_iconst (v := 0) dX6_look_85 (by decide) ?_
    exact ww_ireturn dX6_look_86 rfl (by first | rfl | exact ww_b_nar) ⟨rfl, ww_wo_I hw (by decide), ww_pf_172 h hp⟩
/-! release -/
set_option maxRecDepth 20000 in
theorem c_release_0 (hw : ww_wo g M0 M x pl pe n P) (h : ww_pf M P W kl n S) (hG : q_G S n) {p : Nat} (hp : p < n) (hk : S 2 p = 0) : ww_C g wy_X6_release 9 0 0 [.ref x, .int (nI p)] M (ww_cq g M0 (some (.int (nI (q_fbar S n p 7 1)))) x pl pe n P W kl (ww_u2 S 11 p (if q_fbar S n p 7 1 = 0 then 1 else 0))) ww_no := by
  refine ww_ent (by decide +kernel) (Nat.le_of_ble_eq_true rfl) ⟨rfl, rfl, trivial⟩ ?_
  have hi4 := (h.1 p hp).1.1
  have hb : q_fbar S n p 7 1 < 2 ^ 31 := by
    rcases q_fbar_le (S := S) (n := n) (t := p) 7 1 with e | e <;> omega
  by_cases c : q_fbar S n p 7 1 = 0
  · rw [if_pos c]
    have c' : nI (q_fbar S n p 7 1) = 0 := by rw [c]; rfl
    refine ww_aload_n (i := 0) dX6_release_0 rfl rfl ?_
    refine ww_iload_n (i := 1) dX6_release_1 rfl rfl ?_
    refine ww_callV (κ := 7) (r := (RX6, TX6, 4)) wk_X6_160 dX6_release_2 (c_existingTrain hw h hp hk) rfl rfl (show ww_is _ _ 7 from hw.1).1 (show ww_is _ _ 7 from hw.1).2 rfl rfl (by omega) (by omega) (by omega) (by first | exact Nat.le_of_ble_eq_true rfl | (simp [ww_rf_cat, Value.category])) rfl (fun E M9 h9 => h9.elim) (fun v9 M9 h9 => ?_)
    obtain ⟨rfl, rfl⟩ := h9
    first | refine ww_astore_n (i := 2) (lv2 := [(0, _), (1, _), (2, _)]) dX6_release_5 rfl (Nat.le_of_ble_eq_true rfl) rfl ?_ | refine ww_astore_nQ (i := 2) (lv2 := [(0, _), (1, _), (2, _)]) dX6_release_5 rfl (Nat.le_of_ble_eq_true rfl) rfl ?_
    refine ww_aload_n (i := 0) dX6_release_6 rfl rfl ?_
    refine ww_aload_n (i := 2) dX6_release_7 rfl rfl ?_
    refine ww_callV (κ := 7) (r := (RX6, TX6, 4)) wk_X6_258 dX6_release_8 (c_firstBar hw h hG hp) rfl rfl (show ww_is _ _ 7 from hw.1).1 (show ww_is _ _ 7 from hw.1).2 rfl rfl (by omega) (by omega) (by omega) (by first | exact Nat.le_of_ble_eq_true rfl | (simp [ww_rf_cat, Value.category])) rfl (fun E M9 h9 => h9.elim) (fun v9 M9 h9 => ?_)
    obtain ⟨rfl, rfl⟩ := h9
    refine ww_istore_n (i := 3) (lv2 := [(0, _), (1, _), (2, _), (3, _)]) dX6_release_11 rfl (Nat.le_of_ble_eq_true rfl) rfl ?_
    refine ww_aload_n (i := 2) dX6_release_12 rfl rfl ?_
    refine ww_iload_n (i := 3) dX6_release_13 rfl rfl ?_
    refine ww_if_ne_f (tgt := 21) dX6_release_14 (by decide) c' ?_
    refine ww_iconst (v := 1) dX6_release_17 (by decide) ?_
    refine ww_goto (tgt := 22) dX6_release_18 (by decide) ?_
    refine ww_putI (f := 175) wf_X6_141 wt_4_15 dX6_release_22 rfl rfl (show ww_is _ _ 4 from hi4).1 (show ww_is _ _ 4 from hi4).2 (by first | rfl | exact ww_b_nar) (by first | rfl | exact ww_b_fit) ?_
    refine ww_iload_n (i := 3) dX6_release_25 rfl rfl ?_
    exact ww_ireturn dX6_release_26 rfl (by first | rfl | exact ww_b_nar) ⟨rfl, ww_wo_I hw (by decide), ww_pf_175 h hp⟩
  · rw [if_neg c]
    have c' : ¬ nI (q_fbar S n p 7 1) = 0 := nI_ne0 (by omega) hb
    refine ww_aload_n (i := 0) dX6_release_0 rfl rfl ?_
    refine ww_iload_n (i := 1) dX6_release_1 rfl rfl ?_
    refine ww_callV (κ := 7) (r := (RX6, TX6, 4)) wk_X6_160 dX6_release_2 (c_existingTrain hw h hp hk) rfl rfl (show ww_is _ _ 7 from hw.1).1 (show ww_is _ _ 7 from hw.1).2 rfl rfl (by omega) (by omega) (by omega) (by first | exact Nat.le_of_ble_eq_true rfl | (simp [ww_rf_cat, Value.category])) rfl (fun E M9 h9 => h9.elim) (fun v9 M9 h9 => ?_)
    obtain ⟨rfl, rfl⟩ := h9
    first | refine ww_astore_n (i := 2) (lv2 := [(0, _), (1, _), (2, _)]) dX6_release_5 rfl (Nat.le_of_ble_eq_true rfl) rfl ?_ | refine ww_astore_nQ (i := 2) (lv2 := [(0, _), (1, _), (2, _)]) dX6_release_5 rfl (Nat.le_of_ble_eq_true rfl) rfl ?_
    refine ww_aload_n (i := 0) dX6_release_6 rfl rfl ?_
    refine ww_aload_n (i := 2) dX6_release_7 rfl rfl ?_
    refine ww_callV (κ := 7) (r := (RX6, TX6, 4)) wk_X6_258 dX6_release_8 (c_firstBar hw h hG hp) rfl rfl (show ww_is _ _ 7 from hw.1).1 (show ww_is _ _ 7 from hw.1).2 rfl rfl (by omega) (by omega) (by omega) (by first | exact Nat.le_of_ble_eq_true rfl | (simp [ww_rf_cat, Value.category])) rfl (fun E M9 h9 => h9.elim) (fun v9 M9 h9 => ?_)
    obtain ⟨rfl, rfl⟩ := h9
    refine ww_istore_n (i := 3) (lv2 := [(0, _), (1, _), (2, _), (3, _)]) dX6_release_11 rfl (Nat.le_of_ble_eq_true rfl) rfl ?_
    refine ww_aload_n (i := 2) dX6_release_12 rfl rfl ?_
    refine ww_iload_n (i := 3) dX6_release_13 rfl rfl ?_
    refine ww_if_ne_t (tgt := 21) dX6_release_14 (by decide) c' ?_
    refine ww_iconst (v := 0) dX6_release_21 (by decide) ?_
    refine ww_putI (f := 175) wf_X6_141 wt_4_15 dX6_release_22 rfl rfl (show ww_is _ _ 4 from hi4).1 (show ww_is _ _ 4 from hi4).2 (by first | rfl | exact ww_b_nar) (by first | rfl | exact ww_b_fit) ?_
    refine ww_iload_n (i := 3) dX6_release_25 rfl rfl ?_
    exact ww_ireturn dX6_release_26 rfl (by first | rfl | exact ww_b_nar) ⟨rfl, ww_wo_I hw (by decide), ww_pf_175 h hp⟩
end WWN1
