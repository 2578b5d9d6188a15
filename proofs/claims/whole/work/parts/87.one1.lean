/-! ===== one call of each ===== -/
section WWJ2
variable {g : ww_G} {M M1 : ww_M} {mo ol : Nat} {ar : Nat → Nat} {c ea P W kl f z D : Nat → Nat} {E : Nat → Nat → Int32} {n u w m b : Nat} {S S1 S2 : Nat → Nat → Int32}
set_option maxRecDepth 20000 in
theorem c_release_1 (hr : ww_rc g M c ea P W kl f z D E n u w m S) {p : Int32} (hc : q_noP n p) : ww_C g wy_X6_release 9 1 6 [.ref (c 0), .int p] M ww_nr (ww_th "java/lang/IndexOutOfBoundsException" M) := by
  refine ww_ent (by decide +kernel) (Nat.le_of_ble_eq_true rfl) ⟨rfl, rfl, trivial⟩ ?_
  have hw := ww_cp_wo hr.1
  refine ww_aload_n (i := 0) dX6_release_0 rfl rfl ?_
  refine ww_iload_n (i := 1) dX6_release_1 rfl rfl ?_
  refine ww_callV (κ := 7) (r := (RX6, TX6, 4)) wk_X6_160 dX6_release_2 (c_existingTrain_1 hw hc) rfl rfl (show ww_is _ _ 7 from hw.1).1 (show ww_is _ _ 7 from hw.1).2 rfl rfl (by omega) (by omega) (by omega) (by first | exact Nat.le_of_ble_eq_true rfl | (simp [ww_rf_cat, Value.category])) rfl (fun E M9 h9 => h9) (fun v9 M9 h9 => ?_)
  exact h9.elim
  -- at 5, locals [0]
set_option maxRecDepth 20000 in
theorem c_release_2 (hr : ww_rc g M c ea P W kl f z D E n u w m S) {p : Nat} (hp : p < n) (hk : ¬ S 2 p = 0) : ww_C g wy_X6_release 9 1 6 [.ref (c 0), .int (nI p)] M ww_nr (ww_th "java/lang/IllegalArgumentException" M) := by
  refine ww_ent (by decide +kernel) (Nat.le_of_ble_eq_true rfl) ⟨rfl, rfl, trivial⟩ ?_
  have hw := ww_cp_wo hr.1
  refine ww_aload_n (i := 0) dX6_release_0 rfl rfl ?_
  refine ww_iload_n (i := 1) dX6_release_1 rfl rfl ?_
  refine ww_callV (κ := 7) (r := (RX6, TX6, 4)) wk_X6_160 dX6_release_2 (c_existingTrain_2 hw hr.1.2.1.1 hp hk) rfl rfl (show ww_is _ _ 7 from hw.1).1 (show ww_is _ _ 7 from hw.1).2 rfl rfl (by omega) (by omega) (by omega) (by first | exact Nat.le_of_ble_eq_true rfl | (simp [ww_rf_cat, Value.category])) rfl (fun E M9 h9 => h9) (fun v9 M9 h9 => ?_)
  exact h9.elim
  -- at 5, locals [0]
theorem ww_R_us {Y : ww_Yd} {d mc ms : Nat} {av : List Value} {v0 : Option Value} (hr : ww_rc g M c ea P W kl f z D E n u w m S) (h : ww_C g Y d mc ms av M (ww_cq g M v0 (c 0) (c 1) (ea 0) n P W kl S1) ww_no) (h2 : S1 2 = S 2) (h27 : S1 27 = S 27) (us : ∀ k, ww_us k = true → S2 k = S1 k) (hq : q_all S2 E z D n u w m (b + 1)) : ww_C g Y d mc ms av M (ww_rR v0 (ww_rr g c b M S2)) ww_no := ww_C_mono (ww_C_cq hr h h2 h27) (fun v M' k => ⟨k.1, ⟨ea, P, W, kl, f, z, D, E, n, u, w, m, ww_rc_us k.2.1 us, hq⟩, k.2.2⟩) (fun _ _ h => h)
theorem q_rgn {v : Int32} {hi : Int32} (h : q_rg 0 hi v) (h2 : hi.toInt < 1000) : ∃ j : Nat, (j : Int) ≤ hi.toInt ∧ v = nI j := by
  obtain ⟨h0, h1⟩ := h
  have h0 := ww_le'.mp h0
  have h1 := ww_le'.mp h1
  have e0 : (0 : Int32).toInt = 0 := rfl
  obtain ⟨j, hj, rfl⟩ := ww_nat (n := 1000) (p := v) (by omega) (by omega) (by omega)
  rw [nI_toInt (by omega)] at h1
  exact ⟨j, h1, rfl⟩
theorem q_34 (hG : q_G S n) {p : Nat} (hp : p < n) : 3 ≤ S 2 p ↔ S 2 p = 3 ∨ S 2 p = 4 := by
  have h := q_gh_kd hG.2.2.1 hp
  have e3 : (3 : Int32).toInt = 3 := rfl
  have e4 : (4 : Int32).toInt = 4 := rfl
  rw [ww_le', ww_eq, ww_eq]
  omega
theorem q_all_k (H : q_all S E z D n u w m b) (hb : b < 512) : ∃ k, S 23 0 = nI k ∧ q_iJ E u (S 5) (S 6) (S 24) (S 25) n k ∧ k < 4000 ∧ u < 512 := by
  obtain ⟨-, -, -, -, -, -, -, -, -, ⟨k, h1, h2⟩, hu⟩ := H
  have hk : k ≤ u := by rw [h2.2.2.2.1]; exact q_cnt_le _ u
  exact ⟨k, h1, h2, by omega, by omega⟩

set_option maxRecDepth 20000 in
theorem sp_examine (hr : ww_rc g M c ea P W kl f z D E n u w m S) (H : q_all S E z D n u w m b) (hm : ww_mm mo ar ol c S M) (hb : b < 512) (p : Int32) : ww_sp g mo ar ol c b S M wy_L_examine wy_X7_examine [.int p] [.int p, .ref ol] (fun v => some (.int v)) True (fun _ => True) := by
  have hx : ww_is M.1 (c 0) 7 := hr.1.1.1
  have hw := ww_cp_wo hr.1
  have hf := hr.1.2.1.1
  have hr' := ww_rc_us (S1 := q_us S 0 0) hr ww_us_0
  have hf' := hr'.1.2.1.1
  have H' := q_all_0 (v := 0) H
  obtain ⟨k0, h23, hJ, h4, h5⟩ := q_all_k H hb
  rcases q_pr (n := n) p with hc | ⟨p, hp, rfl⟩
  · exact ww_sp_t hr H hm (code := 1) (by decide) (dm := 3) (by decide) (r2 := 0) (lw_examine_1 (c_examine_1 hw hc) hx (by decide) (by decide) (by decide)) (fun M1 hM e => by subst e; exact m_examine_1 hM H.1 hc)
  by_cases hc : q_exam S p
  · exact ww_sp_0 hm (dm := 3) (by decide) (lw_examine_0 (ww_R_cq hr' (c_examine_0 hw hf' H'.1 hp hc) rfl rfl (q_all_b (q_all_examine H' hp))) hx (ww_sp_R hm) (by decide) (by decide) (by decide)) (fun M1 hM e => by subst e; exact m_examine_0 hM H.1 hp hc) (rfl) (trivial)
  · exact ww_sp_t hr H hm (code := 2) (by decide) (dm := 3) (by decide) (r2 := 0) (lw_examine_2 (c_examine_2 hw hf H.1 hp hc) hx (by decide) (by decide) (by decide)) (fun M1 hM e => by subst e; exact m_examine_2 hM H.1 hp hc)
set_option maxRecDepth 20000 in
theorem sp_waive (hr : ww_rc g M c ea P W kl f z D E n u w m S) (H : q_all S E z D n u w m b) (hm : ww_mm mo ar ol c S M) (hb : b < 512) (p v : Int32) : ww_sp g mo ar ol c b S M wy_L_waive wy_X7_waive [.int p, .int v] [.int p, .int v] (fun _ => none) False (fun _ => True) := by
  have hx : ww_is M.1 (c 0) 7 := hr.1.1.1
  have hw := ww_cp_wo hr.1
  have hf := hr.1.2.1.1
  have hr' := ww_rc_us (S1 := q_us S 0 0) hr ww_us_0
  have hf' := hr'.1.2.1.1
  have H' := q_all_0 (v := 0) H
  obtain ⟨k0, h23, hJ, h4, h5⟩ := q_all_k H hb
  rcases q_pr (n := n) p with hc | ⟨p, hp, rfl⟩
  · exact ww_sp_t hr H hm (code := 1) (by decide) (dm := 3) (by decide) (r2 := 0) (lw_waive_1 (c_waive_1 hw v hc) hx (by decide) (by decide) (by decide)) (fun M1 hM e => by subst e; exact m_waive_1 hM H.1 v hc)
  by_cases hv : q_rg 1 999 v
  · by_cases hc : q_waive S p
    · exact ww_sp_v hm (dm := 3) (by decide) (lw_waive_0 (ww_R_cq hr' (c_waive_0 hw hf' H'.1 hp hv hc) rfl rfl (q_all_b (q_all_waive H' hp))) hx (by decide) (by decide) (by decide)) (fun M1 hM e => by subst e; exact m_waive_0 hM H.1 hp hv hc) (rfl)
    · exact ww_sp_t hr H hm (code := 3) (by decide) (dm := 3) (by decide) (r2 := 0) (lw_waive_3 (c_waive_3 hw hf H.1 hp hv hc) hx (by decide) (by decide) (by decide)) (fun M1 hM e => by subst e; exact m_waive_3 hM H.1 hp hv hc)
  · exact ww_sp_t hr H hm (code := 2) (by decide) (dm := 3) (by decide) (r2 := 0) (lw_waive_2 (c_waive_2 hw hf hp hv) hx (by decide) (by decide) (by decide)) (fun M1 hM e => by subst e; exact m_waive_2 hM H.1 hp hv)
set_option maxRecDepth 20000 in
theorem sp_flaw (hr : ww_rc g M c ea P W kl f z D E n u w m S) (H : q_all S E z D n u w m b) (hm : ww_mm mo ar ol c S M) (hb : b < 512) (p v : Int32) : ww_sp g mo ar ol c b S M wy_L_flaw wy_X7_flaw [.int p, .int v] [.int p, .int v, .ref ol] (fun v => some (.int v)) True (fun _ => True) := by
  have hx : ww_is M.1 (c 0) 7 := hr.1.1.1
  have hw := ww_cp_wo hr.1
  have hf := hr.1.2.1.1
  have hr' := ww_rc_us (S1 := q_us S 0 0) hr ww_us_0
  have hf' := hr'.1.2.1.1
  have H' := q_all_0 (v := 0) H
  obtain ⟨k0, h23, hJ, h4, h5⟩ := q_all_k H hb
  rcases q_pr (n := n) p with hc | ⟨p, hp, rfl⟩
  · exact ww_sp_t hr H hm (code := 1) (by decide) (dm := 3) (by decide) (r2 := 0) (lw_flaw_1 (c_flaw_1 hw v hc) hx (by decide) (by decide) (by decide)) (fun M1 hM e => by subst e; exact m_flaw_1 hM H.1 v hc)
  by_cases hv : 3 ≤ S 2 p ∧ q_rg 1 99 v
  · exact ww_sp_0 hm (dm := 3) (by decide) (lw_flaw_0 (ww_R_cq hr' (c_flaw_0 hw hf' hp ((q_34 H.1 hp).1 hv.1) hv.2) rfl rfl (q_all_b (q_all_flaw H' hp hv.2))) hx (ww_sp_R hm) (by decide) (by decide) (by decide)) (fun M1 hM e => by subst e; exact m_flaw_0 hM H.1 hp hv) (rfl) (trivial)
  · exact ww_sp_t hr H hm (code := 2) (by decide) (dm := 3) (by decide) (r2 := 0) (lw_flaw_2 (c_flaw_2 hw hf hp (fun y => hv ⟨(q_34 H.1 hp).2 y.1, y.2⟩)) hx (by decide) (by decide) (by decide)) (fun M1 hM e => by subst e; exact m_flaw_2 hM H.1 hp hv)
set_option maxRecDepth 20000 in
theorem sp_clear (hr : ww_rc g M c ea P W kl f z D E n u w m S) (H : q_all S E z D n u w m b) (hm : ww_mm mo ar ol c S M) (hb : b < 512) (p : Int32) : ww_sp g mo ar ol c b S M wy_L_clear wy_X7_clear [.int p] [.int p, .ref ol] (fun v => some (.int v)) True (fun _ => True) := by
  have hx : ww_is M.1 (c 0) 7 := hr.1.1.1
  have hw := ww_cp_wo hr.1
  have hf := hr.1.2.1.1
  have hr' := ww_rc_us (S1 := q_us S 0 0) hr ww_us_0
  have hf' := hr'.1.2.1.1
  have H' := q_all_0 (v := 0) H
  obtain ⟨k0, h23, hJ, h4, h5⟩ := q_all_k H hb
  rcases q_pr (n := n) p with hc | ⟨p, hp, rfl⟩
  · exact ww_sp_t hr H hm (code := 1) (by decide) (dm := 3) (by decide) (r2 := 0) (lw_clear_1 (c_clear_1 hw hc) hx (by decide) (by decide) (by decide)) (fun M1 hM e => by subst e; exact m_clear_1 hM H.1 hc)
  by_cases hc : q_clear S p
  · have e18 : ww_u2 (ww_u2 (q_us S 0 0) 18 p 0) 9 p 0 = ww_u2 (ww_u2 (q_us S 0 0) 9 p 0) 18 p 0 := ww_u2_cm (fun y => absurd y.1 (by decide))
    have k := ww_R_cq hr' (c_clear_0 hw hf' H'.1 hp hc) rfl rfl (q_all_b (q_all_clear H' hp))
    rw [e18] at k
    exact ww_sp_0 hm (dm := 3) (by decide) (lw_clear_0 (k) hx (ww_sp_R hm) (by decide) (by decide) (by decide)) (fun M1 hM e => by subst e; exact m_clear_0 hM H.1 hp hc) (rfl) (trivial)
  · exact ww_sp_t hr H hm (code := 2) (by decide) (dm := 3) (by decide) (r2 := 0) (lw_clear_2 (c_clear_2 hw hf H.1 hp hc) hx (by decide) (by decide) (by decide)) (fun M1 hM e => by subst e; exact m_clear_2 hM H.1 hp hc)
set_option maxRecDepth 20000 in
theorem sp_look (hr : ww_rc g M c ea P W kl f z D E n u w m S) (H : q_all S E z D n u w m b) (hm : ww_mm mo ar ol c S M) (hb : b < 512) (p v : Int32) : ww_sp g mo ar ol c b S M wy_L_look wy_X7_look [.int p, .int v] [.int p, .int v, .ref ol] (fun v => some (.int v)) True (fun _ => True) := by
  have hx : ww_is M.1 (c 0) 7 := hr.1.1.1
  have hw := ww_cp_wo hr.1
  have hf := hr.1.2.1.1
  have hr' := ww_rc_us (S1 := q_us S 0 0) hr ww_us_0
  have hf' := hr'.1.2.1.1
  have H' := q_all_0 (v := 0) H
  obtain ⟨k0, h23, hJ, h4, h5⟩ := q_all_k H hb
  rcases q_pr (n := n) p with hc | ⟨p, hp, rfl⟩
  · exact ww_sp_t hr H hm (code := 1) (by decide) (dm := 4) (by decide) (r2 := 0) (lw_look_1 (c_look_1 hw v hc) hx (by decide) (by decide) (by decide)) (fun M1 hM e => by subst e; exact m_look_1 hM H.1 v hc)
  by_cases hc : q_look S p v
  · by_cases hv : q_lookV S p v
    · exact ww_sp_0 hm (dm := 4) (by decide) (lw_look_0 (ww_R_cq hr' (c_look_0h hw hf' H'.1 hp hc hv) rfl rfl (q_all_b (q_all_holds H' hp))) hx (ww_sp_R hm) (by decide) (by decide) (by decide)) (fun M1 hM e => by subst e; exact m_look_0h hM H.1 hp hc hv) (rfl) (trivial)
    · exact ww_sp_0 hm (dm := 4) (by decide) (lw_look_0 (ww_R_cq hr' (c_look_0n hw hf' H'.1 hp hc hv) rfl rfl (q_all_b (q_all_10 H' hp (by split; exact H'.1.2.2.2.2.1 p; exact Or.inl rfl)))) hx (ww_sp_R hm) (by decide) (by decide) (by decide)) (fun M1 hM e => by subst e; exact m_look_0n hM H.1 hp hc hv) (rfl) (trivial)
  · exact ww_sp_t hr H hm (code := 2) (by decide) (dm := 4) (by decide) (r2 := 0) (lw_look_2 (c_look_2 hw hf H.1 hp hc) hx (by decide) (by decide) (by decide)) (fun M1 hM e => by subst e; exact m_look_2 hM H.1 v hp hc)
set_option maxRecDepth 20000 in
theorem sp_recall (hr : ww_rc g M c ea P W kl f z D E n u w m S) (H : q_all S E z D n u w m b) (hm : ww_mm mo ar ol c S M) (hb : b < 512) (v : Int32) : ww_sp g mo ar ol c b S M wy_L_recall wy_X7_recall [.int v] [.int v, .ref ol] (fun v => some (.int v)) True (fun _ => True) := by
  have hx : ww_is M.1 (c 0) 7 := hr.1.1.1
  have hw := ww_cp_wo hr.1
  have hf := hr.1.2.1.1
  have hr' := ww_rc_us (S1 := q_us S 0 0) hr ww_us_0
  have hf' := hr'.1.2.1.1
  have H' := q_all_0 (v := 0) H
  obtain ⟨k0, h23, hJ, h4, h5⟩ := q_all_k H hb
  by_cases hc : q_rg 0 9 v
  · exact ww_sp_0 hm (dm := 3) (by decide) (lw_recall_0 (ww_R_cq hr' (c_recall_0 hw hf' H'.1 hc) (funext fun i => (q_if_f (fun y => absurd y.1 (by decide))).trans (q_if_f (fun y => absurd y.1 (by decide)))) (funext fun i => (q_if_f (fun y => absurd y.1 (by decide))).trans (q_if_f (fun y => absurd y.1 (by decide)))) (q_all_b (q_all_recall H'))) hx (ww_sp_R hm) (by decide) (by decide) (by decide)) (fun M1 hM e => by subst e; exact m_recall_0 hM H.1 hc) ((q_if_f (fun y => absurd y.1 (by decide))).trans (q_if_f (fun y => absurd y.1 (by decide)))) (trivial)
  · exact ww_sp_t hr H hm (code := 1) (by decide) (dm := 3) (by decide) (r2 := 0) (lw_recall_1 (c_recall_1 hc) hx (by decide) (by decide) (by decide)) (fun M1 hM e => by subst e; exact m_recall_1 hM H.1 hc)
set_option maxRecDepth 20000 in
theorem sp_release (hr : ww_rc g M c ea P W kl f z D E n u w m S) (H : q_all S E z D n u w m b) (hm : ww_mm mo ar ol c S M) (hb : b < 512) (p : Int32) : ww_sp g mo ar ol c b S M wy_L_release wy_X7_release [.int p] [.int p, .ref ol] (fun v => some (.int v)) True (fun _ => True) := by
  have hx : ww_is M.1 (c 0) 7 := hr.1.1.1
  have hw := ww_cp_wo hr.1
  have hf := hr.1.2.1.1
  have hr' := ww_rc_us (S1 := q_us S 0 0) hr ww_us_0
  have hf' := hr'.1.2.1.1
  have H' := q_all_0 (v := 0) H
  obtain ⟨k0, h23, hJ, h4, h5⟩ := q_all_k H hb
  rcases q_pr (n := n) p with hc | ⟨p, hp, rfl⟩
  · exact ww_sp_t hr H hm (code := 1) (by decide) (dm := 5) (by decide) (r2 := 0) (lw_release_1 (c_release_1 hr hc) hx (by decide) (by decide) (by decide)) (fun M1 hM e => by subst e; exact m_release_1 hM H.1 hc)
  by_cases hk : S 2 p = 0
  · have eb := q_bars_eq (t := p) H
    have h7 := q_fbar_le7 (S := S) (n := n) (t := p)
    have ev : (if nI (q_code (q_bar S n p 7 1)) / 100 = 0 then (1 : Int32) else 0) = if q_fbar S n p 7 1 = 0 then 1 else 0 := by
      rw [← eb]
      by_cases h0 : q_fbar S n p 7 1 = 0
      · rw [if_pos h0, h0]; rfl
      · rw [if_neg h0, if_neg (fun y => h0 (by
          have := congrArg Int32.toInt y
          rw [nI_toInt (by omega)] at this
          have e0 : (0 : Int32).toInt = 0 := rfl
          omega))]
    have hrel : q_fbar S n p 7 1 = 0 → ∀ i, i < n → q_hd (S 5) 5 i = p → S 9 i = 0 ∧ (S 2 i = 3 → 250 ≤ (S 14 i).toInt ∧ 8500 ≤ (S 13 i).toInt) := fun h0 => q_rel_ok H h0
    exact ww_sp_0 hm (dm := 5) (by decide) (lw_release_0 (ww_R_us (S2 := ww_u2 (q_us S 0 0) 11 p (if q_fbar S n p 7 1 = 0 then 1 else 0)) hr (c_release_0 hw hf H.1 hp hk) rfl rfl (fun k hk => by unfold ww_u2; rw [ww_us_0 k hk]) (q_all_b (q_all_rel H' hp (by split; exact Or.inr rfl; exact Or.inl rfl) (fun h1 => ⟨hk, hrel (Classical.byContradiction fun y => by rw [if_neg y] at h1; exact absurd h1 (by decide))⟩)))) hx (ww_sp_R hm) (by decide) (by decide) (by decide)) (fun M1 hM e => by subst e; have k := m_release_0 (g := g) hM H.1 hp hk; rw [ev, ← eb] at k; exact k) (rfl) (trivial)
  · exact ww_sp_t hr H hm (code := 2) (by decide) (dm := 5) (by decide) (r2 := 0) (lw_release_2 (c_release_2 hr hp hk) hx (by decide) (by decide) (by decide)) (fun M1 hM e => by subst e; exact m_release_2 hM H.1 hp hk)
set_option maxRecDepth 20000 in
theorem sp_bars (hr : ww_rc g M c ea P W kl f z D E n u w m S) (H : q_all S E z D n u w m b) (hm : ww_mm mo ar ol c S M) (hb : b < 512) (p : Int32) : ww_sp g mo ar ol c b S M wy_L_bars wy_X7_bars [.int p] [.int p, .ref ol] (fun v => some (.int v)) True (fun _ => True) := by
  have hx : ww_is M.1 (c 0) 7 := hr.1.1.1
  have hw := ww_cp_wo hr.1
  have hf := hr.1.2.1.1
  have hr' := ww_rc_us (S1 := q_us S 0 0) hr ww_us_0
  have hf' := hr'.1.2.1.1
  have H' := q_all_0 (v := 0) H
  obtain ⟨k0, h23, hJ, h4, h5⟩ := q_all_k H hb
  rcases q_pr (n := n) p with hc | ⟨p, hp, rfl⟩
  · exact ww_sp_t hr H hm (code := 1) (by decide) (dm := 5) (by decide) (r2 := 0) (lw_bars_1 (c_bars_1 hr hc) hx (by decide) (by decide) (by decide)) (fun M1 hM e => by subst e; exact m_bars_1 hM H.1 hc)
  by_cases hk : S 2 p = 0
  · have eb := q_bars_eq (t := p) H
    exact ww_sp_0 hm (dm := 5) (by decide) (lw_bars_0 (ww_R_ret hr H (c_bars hw hf H.1 hp hk)) hx (ww_sp_R hm) (by decide) (by decide) (by decide)) (fun M1 hM e => by subst e; have k := m_bars_0 (g := g) hM H.1 hp hk; rw [← eb] at k; exact k) (rfl) (trivial)
  · exact ww_sp_t hr H hm (code := 2) (by decide) (dm := 5) (by decide) (r2 := 0) (lw_bars_2 (c_bars_2 hr hp hk) hx (by decide) (by decide) (by decide)) (fun M1 hM e => by subst e; exact m_bars_2 hM H.1 hp hk)
set_option maxRecDepth 20000 in
theorem sp_barredBy (hr : ww_rc g M c ea P W kl f z D E n u w m S) (H : q_all S E z D n u w m b) (hm : ww_mm mo ar ol c S M) (hb : b < 512) (p : Int32) : ww_sp g mo ar ol c b S M wy_L_barredBy wy_X7_barredBy [.int p] [.int p, .ref ol] (fun v => some (.int v)) True (fun _ => True) := by
  have hx : ww_is M.1 (c 0) 7 := hr.1.1.1
  have hw := ww_cp_wo hr.1
  have hf := hr.1.2.1.1
  have hr' := ww_rc_us (S1 := q_us S 0 0) hr ww_us_0
  have hf' := hr'.1.2.1.1
  have H' := q_all_0 (v := 0) H
  obtain ⟨k0, h23, hJ, h4, h5⟩ := q_all_k H hb
  rcases q_pr (n := n) p with hc | ⟨p, hp, rfl⟩
  · exact ww_sp_t hr H hm (code := 1) (by decide) (dm := 5) (by decide) (r2 := 0) (lw_barredBy_1 (c_barredBy_1 hr hc) hx (by decide) (by decide) (by decide)) (fun M1 hM e => by subst e; exact m_barredBy_1 hM H.1 hc)
  by_cases hk : S 2 p = 0
  · have eb := q_by_eq (t := p) H
    exact ww_sp_0 hm (dm := 5) (by decide) (lw_barredBy_0 (ww_R_ret hr H (c_barredBy_0 hr H.1 hp hk)) hx (ww_sp_R hm) (by decide) (by decide) (by decide)) (fun M1 hM e => by subst e; have k := m_barredBy_0 (g := g) hM H.1 hp hk; rw [← eb] at k; exact k) (rfl) (trivial)
  · exact ww_sp_t hr H hm (code := 2) (by decide) (dm := 5) (by decide) (r2 := 0) (lw_barredBy_2 (c_barredBy_2 hr hp hk) hx (by decide) (by decide) (by decide)) (fun M1 hM e => by subst e; exact m_barredBy_2 hM H.1 hp hk)
set_option maxRecDepth 20000 in
theorem sp_gate (hr : ww_rc g M c ea P W kl f z D E n u w m S) (H : q_all S E z D n u w m b) (hm : ww_mm mo ar ol c S M) (hb : b < 512) (p v : Int32) : ww_sp g mo ar ol c b S M wy_L_gate wy_X7_gate [.int p, .int v] [.int p, .int v, .ref ol] (fun v => some (.int v)) True (fun _ => True) := by
  have hx : ww_is M.1 (c 0) 7 := hr.1.1.1
  have hw := ww_cp_wo hr.1
  have hf := hr.1.2.1.1
  have hr' := ww_rc_us (S1 := q_us S 0 0) hr ww_us_0
  have hf' := hr'.1.2.1.1
  have H' := q_all_0 (v := 0) H
  obtain ⟨k0, h23, hJ, h4, h5⟩ := q_all_k H hb
  rcases q_pr (n := n) p with hc | ⟨p, hp, rfl⟩
  · exact ww_sp_t hr H hm (code := 1) (by decide) (dm := 4) (by decide) (r2 := 0) (lw_gate_1 (c_gate_1 hw v hc) hx (by decide) (by decide) (by decide)) (fun M1 hM e => by subst e; exact m_gate_1 hM H.1 v hc)
  by_cases hc : S 2 p = 3 ∧ q_rg (-5) 5 v
  · exact ww_sp_0 hm (dm := 4) (by decide) (lw_gate_0 (ww_R_cq hr' (c_gate_0 hw hf' hr'.1.2.1.2 hp hc.1 hc.2) rfl rfl (q_all_b (q_all_gate H' hp hc.1 hc.2))) hx (ww_sp_R hm) (by decide) (by decide) (by decide)) (fun M1 hM e => by subst e; exact m_gate_0 hM H.1 hp hc) (rfl) (trivial)
  · exact ww_sp_t hr H hm (code := 2) (by decide) (dm := 4) (by decide) (r2 := 0) (lw_gate_2 (c_gate_2 hw hf hp hc) hx (by decide) (by decide) (by decide)) (fun M1 hM e => by subst e; exact m_gate_2 hM H.1 hp hc)
set_option maxRecDepth 20000 in
theorem sp_foretell (hr : ww_rc g M c ea P W kl f z D E n u w m S) (H : q_all S E z D n u w m b) (hm : ww_mm mo ar ol c S M) (hb : b < 512) (p v s : Int32) : ww_sp g mo ar ol c b S M wy_L_foretell wy_X7_foretell [.int p, .int v, .int s] [.int p, .int v, .int s, .ref ol] (fun v => some (.int v)) True (fun _ => True) := by
  have hx : ww_is M.1 (c 0) 7 := hr.1.1.1
  have hw := ww_cp_wo hr.1
  have hf := hr.1.2.1.1
  have hr' := ww_rc_us (S1 := q_us S 0 0) hr ww_us_0
  have hf' := hr'.1.2.1.1
  have H' := q_all_0 (v := 0) H
  obtain ⟨k0, h23, hJ, h4, h5⟩ := q_all_k H hb
  rcases q_pr (n := n) p with hc | ⟨p, hp, rfl⟩
  · exact ww_sp_t hr H hm (code := 1) (by decide) (dm := 4) (by decide) (r2 := 0) (lw_foretell_1 (c_foretell_1 hw v s hc) hx (by decide) (by decide) (by decide)) (fun M1 hM e => by subst e; exact m_foretell_1 hM H.1 v s hc)
  by_cases hk : S 2 p = 3
  · by_cases hc : q_rg 1 2000 v ∧ q_rg 0 3 s
    · have eb := q_fore_eq (v := v) (s := s) H hp hk
      exact ww_sp_0 hm (dm := 4) (by decide) (lw_foretell_0 (ww_R_ret hr H (c_foretell hw hf hp hk hc.1 hc.2)) hx (ww_sp_R hm) (by decide) (by decide) (by decide)) (fun M1 hM e => by subst e; have k := m_foretell_0 (g := g) hM H.1 hp ⟨hk, hc⟩; rw [← eb] at k; exact k) (rfl) (trivial)
    · exact ww_sp_t hr H hm (code := 2) (by decide) (dm := 4) (by decide) (r2 := 0) (lw_foretell_2 (c_foretell_2 hw hf hp hk hc) hx (by decide) (by decide) (by decide)) (fun M1 hM e => by subst e; exact m_foretell_2 hM H.1 hp (fun y => hc y.2))
  · exact ww_sp_t hr H hm (code := 2) (by decide) (dm := 4) (by decide) (r2 := 0) (lw_foretell_2 (c_foretell_2k hw hf v s hp hk) hx (by decide) (by decide) (by decide)) (fun M1 hM e => by subst e; exact m_foretell_2 hM H.1 hp (fun y => hk y.1))
set_option maxRecDepth 20000 in
theorem sp_host (hr : ww_rc g M c ea P W kl f z D E n u w m S) (H : q_all S E z D n u w m b) (hm : ww_mm mo ar ol c S M) (hb : b < 512) (p : Int32) : ww_sp g mo ar ol c b S M wy_L_host wy_X7_host [.int p] [.int p, .ref ol] (fun v => some (.int v)) True (fun _ => True) := by
  have hx : ww_is M.1 (c 0) 7 := hr.1.1.1
  have hw := ww_cp_wo hr.1
  have hf := hr.1.2.1.1
  have hr' := ww_rc_us (S1 := q_us S 0 0) hr ww_us_0
  have hf' := hr'.1.2.1.1
  have H' := q_all_0 (v := 0) H
  obtain ⟨k0, h23, hJ, h4, h5⟩ := q_all_k H hb
  rcases q_pr (n := n) p with hc | ⟨p, hp, rfl⟩
  · exact ww_sp_t hr H hm (code := 1) (by decide) (dm := 3) (by decide) (r2 := 0) (lw_host_1 (c_host_1 hr hc) hx (by decide) (by decide) (by decide)) (fun M1 hM e => by subst e; exact m_host_1 hM H.1 hc)
  exact ww_sp_0 hm (dm := 3) (by decide) (lw_host_0 (ww_R_ret hr H (c_host hw hf H.1 hp)) hx (ww_sp_R hm) (by decide) (by decide) (by decide)) (fun M1 hM e => by subst e; exact m_host_0 hM H.1 hp) (rfl) (trivial)
set_option maxRecDepth 20000 in
theorem sp_head (hr : ww_rc g M c ea P W kl f z D E n u w m S) (H : q_all S E z D n u w m b) (hm : ww_mm mo ar ol c S M) (hb : b < 512) (p : Int32) : ww_sp g mo ar ol c b S M wy_L_head wy_X7_head [.int p] [.int p, .ref ol] (fun v => some (.int v)) True (fun _ => True) := by
  have hx : ww_is M.1 (c 0) 7 := hr.1.1.1
  have hw := ww_cp_wo hr.1
  have hf := hr.1.2.1.1
  have hr' := ww_rc_us (S1 := q_us S 0 0) hr ww_us_0
  have hf' := hr'.1.2.1.1
  have H' := q_all_0 (v := 0) H
  obtain ⟨k0, h23, hJ, h4, h5⟩ := q_all_k H hb
  rcases q_pr (n := n) p with hc | ⟨p, hp, rfl⟩
  · exact ww_sp_t hr H hm (code := 1) (by decide) (dm := 3) (by decide) (r2 := 0) (lw_head_1 (c_head_1 hr hc) hx (by decide) (by decide) (by decide)) (fun M1 hM e => by subst e; exact m_head_1 hM H.1 hc)
  exact ww_sp_0 hm (dm := 3) (by decide) (lw_head_0 (ww_R_ret hr H (c_head hw hf H.1 hp)) hx (ww_sp_R hm) (by decide) (by decide) (by decide)) (fun M1 hM e => by subst e; exact m_head_0 hM H.1 hp) (rfl) (trivial)
set_option maxRecDepth 20000 in
theorem sp_lifeAnew (hr : ww_rc g M c ea P W kl f z D E n u w m S) (H : q_all S E z D n u w m b) (hm : ww_mm mo ar ol c S M) (hb : b < 512) (p : Int32) : ww_sp g mo ar ol c b S M wy_L_lifeAnew wy_X7_lifeAnew [.int p] [.int p, .ref ol] (fun v => some (.int v)) True (fun _ => True) := by
  have hx : ww_is M.1 (c 0) 7 := hr.1.1.1
  have hw := ww_cp_wo hr.1
  have hf := hr.1.2.1.1
  have hr' := ww_rc_us (S1 := q_us S 0 0) hr ww_us_0
  have hf' := hr'.1.2.1.1
  have H' := q_all_0 (v := 0) H
  obtain ⟨k0, h23, hJ, h4, h5⟩ := q_all_k H hb
  rcases q_pr (n := n) p with hc | ⟨p, hp, rfl⟩
  · exact ww_sp_t hr H hm (code := 1) (by decide) (dm := 3) (by decide) (r2 := 0) (lw_lifeAnew_1 (c_lifeAnew_1 hr hc) hx (by decide) (by decide) (by decide)) (fun M1 hM e => by subst e; exact m_lifeAnew_1 hM H.1 hc)
  have h60 := H.1.2.1
  have hE : q_okE E u := fun i hi => by
    obtain ⟨⟨p, a1, a2⟩, a3, _⟩ := hJ.1 i hi
    exact ⟨⟨p, by omega, a2⟩, a3.imp id (fun y => y.imp id (fun ⟨q, h1, h2⟩ => ⟨q, by omega, h2⟩))⟩
  have eb : q_rL E p u = S 6 p := hJ.2.2.1.1 p hp
  exact ww_sp_0 hm (dm := 3) (by decide) (lw_lifeAnew_0 (ww_R_cx hr H (c_lifeAnew_0 hr hE hp)) hx (ww_sp_R hm) (by decide) (by decide) (by decide)) (fun M1 hM e => by subst e; have k := m_lifeAnew_0 (g := g) hM H.1 hp; rw [← eb] at k; exact k) (rfl) (trivial)
set_option maxRecDepth 20000 in
theorem sp_wheel (hr : ww_rc g M c ea P W kl f z D E n u w m S) (H : q_all S E z D n u w m b) (hm : ww_mm mo ar ol c S M) (hb : b < 512) (p v : Int32) : ww_sp g mo ar ol c b S M wy_L_wheel wy_X7_wheel [.int p, .int v] [.int p, .int v, .ref ol] (fun v => some (.int v)) True (fun _ => True) := by
  have hx : ww_is M.1 (c 0) 7 := hr.1.1.1
  have hw := ww_cp_wo hr.1
  have hf := hr.1.2.1.1
  have hr' := ww_rc_us (S1 := q_us S 0 0) hr ww_us_0
  have hf' := hr'.1.2.1.1
  have H' := q_all_0 (v := 0) H
  obtain ⟨k0, h23, hJ, h4, h5⟩ := q_all_k H hb
  rcases q_pr (n := n) p with hc | ⟨p, hp, rfl⟩
  · exact ww_sp_t hr H hm (code := 1) (by decide) (dm := 4) (by decide) (r2 := 0) (lw_wheel_1 (c_wheel_1 hr v hc) hx (by decide) (by decide) (by decide)) (fun M1 hM e => by subst e; exact m_wheel_1 hM H.1 v hc)
  by_cases hc : S 2 p = 3 ∧ q_rg 0 2 v
  · exact ww_sp_0 hm (dm := 4) (by decide) (lw_wheel_0 (ww_R_ret hr H (c_wheel_0 hw hf hp hc.1 hc.2)) hx (ww_sp_R hm) (by decide) (by decide) (by decide)) (fun M1 hM e => by subst e; exact m_wheel_0 hM H.1 hp hc) (rfl) (trivial)
  · exact ww_sp_t hr H hm (code := 2) (by decide) (dm := 4) (by decide) (r2 := 0) (lw_wheel_2 (c_wheel_2 hr hp hc) hx (by decide) (by decide) (by decide)) (fun M1 hM e => by subst e; exact m_wheel_2 hM H.1 hp hc)
set_option maxRecDepth 20000 in
theorem sp_ofPart (hr : ww_rc g M c ea P W kl f z D E n u w m S) (H : q_all S E z D n u w m b) (hm : ww_mm mo ar ol c S M) (hb : b < 512) (p v : Int32) : ww_sp g mo ar ol c b S M wy_L_ofPart wy_X7_ofPart [.int p, .int v] [.int p, .int v, .ref ol] (fun v => some (.int v)) True (fun _ => True) := by
  have hx : ww_is M.1 (c 0) 7 := hr.1.1.1
  have hw := ww_cp_wo hr.1
  have hf := hr.1.2.1.1
  have hr' := ww_rc_us (S1 := q_us S 0 0) hr ww_us_0
  have hf' := hr'.1.2.1.1
  have H' := q_all_0 (v := 0) H
  obtain ⟨k0, h23, hJ, h4, h5⟩ := q_all_k H hb
  rcases q_pr (n := n) p with hc | ⟨p, hp, rfl⟩
  · exact ww_sp_t hr H hm (code := 1) (by decide) (dm := 3) (by decide) (r2 := 0) (lw_ofPart_1 (c_ofPart_1 hr v hc) hx (by decide) (by decide) (by decide)) (fun M1 hM e => by subst e; exact m_ofPart_1 hM H.1 v hc)
  by_cases hc : q_rg 0 8 v
  · obtain ⟨j, hj, rfl⟩ := q_rgn hc (by decide)
    have hj8 : j ≤ 8 := by
      have e8 : (8 : Int32).toInt = 8 := rfl
      omega
    have eb := q_cof_eq (p := p) hJ j hj8
    exact ww_sp_0 hm (dm := 3) (by decide) (lw_ofPart_0 (ww_R_ret hr H (c_ofPart_0 hr H.1 hp j hj8)) hx (ww_sp_R hm) (by decide) (by decide) (by decide)) (fun M1 hM e => by subst e; have k := m_ofPart_0 (g := g) hM H.1 h23 (Nat.le_of_lt h4) hp j hj8; rw [← eb] at k; exact k) (rfl) (trivial)
  · exact ww_sp_t hr H hm (code := 2) (by decide) (dm := 3) (by decide) (r2 := 0) (lw_ofPart_2 (c_ofPart_2 hr hp hc) hx (by decide) (by decide) (by decide)) (fun M1 hM e => by subst e; exact m_ofPart_2 hM H.1 hp hc)
set_option maxRecDepth 20000 in
theorem sp_trace (hr : ww_rc g M c ea P W kl f z D E n u w m S) (H : q_all S E z D n u w m b) (hm : ww_mm mo ar ol c S M) (hb : b < 512) (p v : Int32) : ww_sp g mo ar ol c b S M wy_L_trace wy_X7_trace [.int p, .int v] [.int p, .int v, .ref ol] (fun v => some (.int v)) True (fun _ => True) := by
  have hx : ww_is M.1 (c 0) 7 := hr.1.1.1
  have hw := ww_cp_wo hr.1
  have hf := hr.1.2.1.1
  have hr' := ww_rc_us (S1 := q_us S 0 0) hr ww_us_0
  have hf' := hr'.1.2.1.1
  have H' := q_all_0 (v := 0) H
  obtain ⟨k0, h23, hJ, h4, h5⟩ := q_all_k H hb
  rcases q_pr (n := n) p with hc | ⟨p, hp, rfl⟩
  · exact ww_sp_t hr H hm (code := 1) (by decide) (dm := 3) (by decide) (r2 := 0) (lw_trace_1 (c_trace_1 hr v hc) hx (by decide) (by decide) (by decide)) (fun M1 hM e => by subst e; exact m_trace_1 hM H.1 h23 (Nat.le_of_lt h4) v hc)
  by_cases hc : 0 ≤ v.toInt ∧ v.toInt < (q_mv S k0 p : Int)
  · have hmv : q_mv S k0 p ≤ k0 := q_cnt_le _ k0
    obtain ⟨j, hj, rfl⟩ := ww_nat (n := q_mv S k0 p) hc.1 hc.2 (by omega)
    obtain ⟨e1, k1, k2⟩ := q_trace_t hJ (by omega) hj
    have k3 := c_trace_a hr hp k1
    rw [k2] at k3
    exact ww_sp_0 hm (dm := 3) (by decide) (lw_trace_0 (ww_R_ret hr H k3) hx (ww_sp_R hm) (by decide) (by decide) (by decide)) (fun M1 hM e => by subst e; exact m_trace_0 hM H.1 h23 (Nat.le_of_lt h4) hp hj) (rfl) (trivial)
  · exact ww_sp_t hr H hm (code := 1) (by decide) (dm := 3) (by decide) (r2 := 0) (lw_trace_1 (c_trace_b hr hp (q_trace_f hJ (by omega) hc)) hx (by decide) (by decide) (by decide)) (fun M1 hM e => by subst e; exact m_trace_2 hM H.1 h23 (Nat.le_of_lt h4) hp hc)
end WWJ2
