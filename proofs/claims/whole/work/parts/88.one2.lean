/-! ===== one call of each: those that write lists, and the plans ===== -/
section WWJ3
variable {g : ww_G} {M M1 : ww_M} {mo ol : Nat} {ar : Nat → Nat} {c ea P W kl f z D : Nat → Nat} {E : Nat → Nat → Int32} {n u w m b : Nat} {S S1 S2 : Nat → Nat → Int32}
theorem q_out_no (h : ∀ r, r < 3 → q_rn S r = 0) : q_scR S 3 = none := by
  have e0 := h 0 (by decide)
  have e1 := h 1 (by decide)
  have e2 := h 2 (by decide)
  show q_sc S (q_sc S (q_sc S none 0 (q_rn S 0)) 1 (q_rn S 1)) 2 (q_rn S 2) = none
  rw [e0, e1, e2]
  rfl
theorem q_out_h0 {r k : Nat} : q_out (q_us S 0 0) r k 0 0 = 0 := by
  unfold q_out
  show q_sh (ww_u2 (q_us S 0 0) 12 (q_rq (q_us S 0 0) r k) 0) r k _ 0 0 = 0
  rw [q_sh_k (by decide)]
  rfl
theorem q_free_m (H : q_all S E z D n u w m b) : q_free S ↔ m = 0 := by
  obtain ⟨-, -, ⟨-, r2, -, -, -, r6, -⟩, -⟩ := H
  unfold q_free
  rw [r6 0 (by decide), r6 1 (by decide), r6 2 (by decide)]
  constructor
  · intro e
    by_cases h0 : m = 0
    · exact h0
    · exfalso
      have hd := (r2 0 (by omega)).2.1
      have h1 : ∀ r, D 0 = r → 0 < q_cnt (fun j => D j = r) m := fun r e => Nat.lt_of_lt_of_le (by rw [q_cnt_s (P := fun j => D j = r) (n := 0) e]; omega) (q_cnt_mono (i := 1) (by omega))
      have a0 := h1 0
      have a1 := h1 1
      have a2 := h1 2
      omega
  · intro e
    subst e
    rfl
theorem q_iR_fj (H : q_all S E z D n u w m b) (hr : ww_rc g M c ea P W kl f z D E n u w m S) {r k : Nat} (h3 : r < 3) : q_on (fun i => ww_I M 160 (P (z i))) (q_fj (fun i => ww_I M 176 (P (z i)) = nI r) (nI k) m 0 0) = q_on (fun i => nI (z i)) (q_fj (fun i => D i = r) (nI k) m 0 0) := by
  obtain ⟨-, -, ⟨-, r2, -⟩, -⟩ := H
  rw [q_fj_cg (R := fun i => D i = r) (fun i _ hi => by
    have hi : i < m := by omega
    rw [hr.2.2.1.2.2.1 i hi]
    have hd := (r2 i hi).2.1
    exact ⟨fun e => by
      have e := congrArg Int32.toInt e
      rw [nI_toInt (by omega), nI_toInt (by omega)] at e
      omega, fun e => by rw [e]⟩)]
  cases hq : q_fj (fun i => D i = r) (nI k) m 0 0 with
  | none => rfl
  | some j =>
    have hj : j < m := by have := (q_fj_some hq).2.1; omega
    exact (hr.1.2.1.1.1 (z j) (r2 j hj).1).1.2.1

set_option maxRecDepth 20000 in
theorem sp_isReleased (hr : ww_rc g M c ea P W kl f z D E n u w m S) (H : q_all S E z D n u w m b) (hm : ww_mm mo ar ol c S M) (hb : b < 512) (p : Int32) : ww_sp g mo ar ol c b S M wy_L_isReleased wy_X7_isReleased [.int p] [.int p, .ref ol] (fun v => some (.int v)) True (fun v => v = 0 ∨ v = 1) := by
  have hx : ww_is M.1 (c 0) 7 := hr.1.1.1
  have hw := ww_cp_wo hr.1
  have hf := hr.1.2.1.1
  have hr' := ww_rc_us (S1 := q_us S 0 0) hr ww_us_0
  have hf' := hr'.1.2.1.1
  have H' := q_all_0 (v := 0) H
  obtain ⟨k0, h23, hJ, h4, h5⟩ := q_all_k H hb
  rcases q_pr (n := n) p with hc | ⟨p, hp, rfl⟩
  · exact ww_sp_t hr H hm (code := 1) (by decide) (dm := 4) (by decide) (r2 := 0) (lw_isReleased_1 (c_isReleased_1 hr hc) hx (by decide) (by decide) (by decide)) (fun M1 hM e => by subst e; exact m_isReleased_1 hM H.1 hc)
  by_cases hk : S 2 p = 0
  · exact ww_sp_0 hm (dm := 4) (by decide) (lw_isReleased_0 (ww_R_ret hr H (c_isReleased hw hf H.1 hp hk)) hx (ww_sp_R hm) (H.1.2.2.2.2.2.1 p) (by decide) (by decide) (by decide)) (fun M1 hM e => by subst e; exact m_isReleased_0 hM H.1 hp hk) (rfl) (H.1.2.2.2.2.2.1 p)
  · exact ww_sp_t hr H hm (code := 2) (by decide) (dm := 4) (by decide) (r2 := 0) (lw_isReleased_2 (c_isReleased_2 hr hp hk) hx (by decide) (by decide) (by decide)) (fun M1 hM e => by subst e; exact m_isReleased_2 hM H.1 hp hk)
set_option maxRecDepth 20000 in
theorem sp_part (hr : ww_rc g M c ea P W kl f z D E n u w m S) (H : q_all S E z D n u w m b) (hm : ww_mm mo ar ol c S M) (hb : b < 512) (k e d : Int32) : ww_sp g mo ar ol c b S M wy_L_part wy_X7_part [.int k, .int e, .int d] [.int k, .int e, .int d, .ref ol] (fun v => some (.int v)) True (fun _ => True) := by
  have hx : ww_is M.1 (c 0) 7 := hr.1.1.1
  have hw := ww_cp_wo hr.1
  have hf := hr.1.2.1.1
  have hr' := ww_rc_us (S1 := q_us S 0 0) hr ww_us_0
  have hf' := hr'.1.2.1.1
  have H' := q_all_0 (v := 0) H
  obtain ⟨k0, h23, hJ, h4, h5⟩ := q_all_k H hb
  by_cases hc : q_rg 0 4 k ∧ q_rg 0 9 e ∧ q_rg 0 3 d
  · obtain ⟨j, hj, rfl⟩ := q_rgn hc.1 (by decide)
    have hj5 : j < 5 := by
      have e4 : (4 : Int32).toInt = 4 := rfl
      omega
    by_cases h60 : n = 60
    · exact ww_sp_t hr H hm (code := 2) (by decide) (dm := 2) (by decide) (r2 := 0) (lw_part_2 (c_part_2 hr h60 hj5 hc.2.1 hc.2.2) hx (by decide) (by decide) (by decide)) (fun M1 hM e => by subst e; exact r_part_2 hM H.1 h60 _ _ _ hc.1 hc.2.1 hc.2.2)
    · have hn := H.1.2.1
      have hn60 : n < 60 := by omega
      exact ww_sp_0 hm (dm := 2) (by decide) (lw_part_0 (ww_R_n (c_part_0 hr H.1 H.2.1.1 (fun i hi => (H.2.2.1.2.1 i hi).1) hn60 (H.2.2.2.2.2.2.2.2.1 n (Nat.le_refl _) hn60) hj5 hc.2.1 hc.2.2) (q_all_b (q_all_part H hn60 hj5 hc.2.2))) hx (ww_sp_R hm) (by decide) (by decide) (by decide)) (fun M1 hM e => by subst e; exact r_part_0 hM H.1 hn60 _ _ _ hc.1 hc.2.1 hc.2.2) (rfl) (trivial)
  · exact ww_sp_t hr H hm (code := 1) (by decide) (dm := 2) (by decide) (r2 := 0) (lw_part_1 (c_part_1 hr hc) hx (by decide) (by decide) (by decide)) (fun M1 hM e => by subst e; exact r_part_1 hM _ _ _ hc)
set_option maxRecDepth 20000 in
theorem sp_limits (hr : ww_rc g M c ea P W kl f z D E n u w m S) (H : q_all S E z D n u w m b) (hm : ww_mm mo ar ol c S M) (hb : b < 512) (k e d f1 : Int32) : ww_sp g mo ar ol c b S M wy_L_limits wy_X7_limits [.int k, .int e, .int d, .int f1] [.int k, .int e, .int d, .int f1, .ref ol] (fun v => some (.int v)) True (fun _ => True) := by
  have hx : ww_is M.1 (c 0) 7 := hr.1.1.1
  have hw := ww_cp_wo hr.1
  have hf := hr.1.2.1.1
  have hr' := ww_rc_us (S1 := q_us S 0 0) hr ww_us_0
  have hf' := hr'.1.2.1.1
  have H' := q_all_0 (v := 0) H
  obtain ⟨k0, h23, hJ, h4, h5⟩ := q_all_k H hb
  by_cases hc : q_rg 0 4 k ∧ q_rg 0 99999 e ∧ q_rg 0 99999 d ∧ q_rg 0 99999 f1
  · obtain ⟨j, hj, rfl⟩ := q_rgn hc.1 (by decide)
    have hj5 : j < 5 := by
      have e4 : (4 : Int32).toInt = 4 := rfl
      omega
    exact ww_sp_0 hm (dm := 2) (by decide) (lw_limits_0 (ww_R_cq hr' (c_limits_0 hw hr.1.2.2.1 hf' hr.1.2.2.2 hj5 hc.2.1 hc.2.2.1 hc.2.2.2) rfl rfl (q_all_b (q_all_limits H e d f1))) hx (ww_sp_R hm) (by decide) (by decide) (by decide)) (fun M1 hM e => by subst e; exact r_limits_0 hM hj5 _ _ _ hc.2.1 hc.2.2.1 hc.2.2.2) (rfl) (trivial)
  · exact ww_sp_t hr H hm (code := 1) (by decide) (dm := 2) (by decide) (r2 := 0) (lw_limits_1 (c_limits_1 hw hr.1.2.2.1 hf hc) hx (by decide) (by decide) (by decide)) (fun M1 hM e => by subst e; exact r_limits_1 hM _ _ _ _ hc)
set_option maxRecDepth 20000 in
theorem sp_fit (hr : ww_rc g M c ea P W kl f z D E n u w m S) (H : q_all S E z D n u w m b) (hm : ww_mm mo ar ol c S M) (hb : b < 512) (p h : Int32) : ww_sp g mo ar ol c b S M wy_L_fit wy_X7_fit [.int p, .int h] [.int p, .int h, .ref ol] (fun v => some (.int v)) True (fun _ => True) := by
  have hx : ww_is M.1 (c 0) 7 := hr.1.1.1
  have hw := ww_cp_wo hr.1
  have hf := hr.1.2.1.1
  have hr' := ww_rc_us (S1 := q_us S 0 0) hr ww_us_0
  have hf' := hr'.1.2.1.1
  have H' := q_all_0 (v := 0) H
  obtain ⟨k0, h23, hJ, h4, h5⟩ := q_all_k H hb
  rcases q_pr (n := n) p with hc | ⟨p, hp, rfl⟩
  · exact ww_sp_t hr H hm (code := 1) (by decide) (dm := 3) (by decide) (r2 := 0) (lw_fit_1 (c_fit_1 hr (Or.inl hc)) hx (by decide) (by decide) (by decide)) (fun M1 hM e => by subst e; exact r_fit_1 hM H.1 _ _ (Or.inl hc))
  rcases q_pr (n := n) h with hc | ⟨h, hh, rfl⟩
  · exact ww_sp_t hr H hm (code := 1) (by decide) (dm := 3) (by decide) (r2 := 0) (lw_fit_1 (c_fit_1 hr (Or.inr hc)) hx (by decide) (by decide) (by decide)) (fun M1 hM e => by subst e; exact r_fit_1 hM H.1 _ _ (Or.inr hc))
  have h4p := H.2.2.2.2.2.2.2.1 p hp
  have h4h := H.2.2.2.2.2.2.2.1 h hh
  have hx4 : -100 ≤ (S 4 p - S 4 h).toInt := by rw [q_subI rfl rfl (by omega) (by omega)]; omega
  by_cases hc : q_fitP S p h
  · by_cases hs : q_fitS S n p h
    · exact ww_sp_0 hm (dm := 3) (by decide) (lw_fit_0 (ww_R_l (c_fit_0 hr H.1 h5 k0 hp hh hx4 hc hs) (q_all_fit H (by omega) h4 h23 hp hh hc hs)) hx (ww_sp_R hm) (by decide) (by decide) (by decide)) (fun M1 hM e => by subst e; exact r_fit_0 hM H.1 h23 h4 hp hh hc hs) (rfl) (trivial)
    · exact ww_sp_t hr H hm (code := 3) (by decide) (dm := 3) (by decide) (r2 := 0) (lw_fit_3 (c_fit_3 hr H.1 hp hh hx4 hc hs) hx (by decide) (by decide) (by decide)) (fun M1 hM e => by subst e; exact r_fit_3 hM H.1 hp hh hc hs)
  · exact ww_sp_t hr H hm (code := 2) (by decide) (dm := 3) (by decide) (r2 := 0) (lw_fit_2 (c_fit_2 hr hp hh hc) hx (by decide) (by decide) (by decide)) (fun M1 hM e => by subst e; exact r_fit_2 hM H.1 hp hh hc)
set_option maxRecDepth 20000 in
theorem sp_take (hr : ww_rc g M c ea P W kl f z D E n u w m S) (H : q_all S E z D n u w m b) (hm : ww_mm mo ar ol c S M) (hb : b < 512) (p : Int32) : ww_sp g mo ar ol c b S M wy_L_take wy_X7_take [.int p] [.int p, .ref ol] (fun v => some (.int v)) True (fun _ => True) := by
  have hx : ww_is M.1 (c 0) 7 := hr.1.1.1
  have hw := ww_cp_wo hr.1
  have hf := hr.1.2.1.1
  have hr' := ww_rc_us (S1 := q_us S 0 0) hr ww_us_0
  have hf' := hr'.1.2.1.1
  have H' := q_all_0 (v := 0) H
  obtain ⟨k0, h23, hJ, h4, h5⟩ := q_all_k H hb
  rcases q_pr (n := n) p with hc | ⟨p, hp, rfl⟩
  · exact ww_sp_t hr H hm (code := 1) (by decide) (dm := 3) (by decide) (r2 := 0) (lw_take_1 (c_take_1 hr hc) hx (by decide) (by decide) (by decide)) (fun M1 hM e => by subst e; exact r_take_1 hM H.1 _ hc)
  by_cases hc : q_takeS S p
  · exact ww_sp_0 hm (dm := 3) (by decide) (lw_take_0 (ww_R_l (c_take_0 hr H.1 h5 k0 hp hc) (q_all_take H (by omega) h4 h23 hp hc)) hx (ww_sp_R hm) (by decide) (by decide) (by decide)) (fun M1 hM e => by subst e; exact r_take_0 hM H.1 h23 h4 hp hc) (rfl) (trivial)
  · exact ww_sp_t hr H hm (code := 2) (by decide) (dm := 3) (by decide) (r2 := 0) (lw_take_2 (c_take_2 hr H.1 hp hc) hx (by decide) (by decide) (by decide)) (fun M1 hM e => by subst e; exact r_take_2 hM H.1 hp hc)
set_option maxRecDepth 20000 in
theorem sp_scrap (hr : ww_rc g M c ea P W kl f z D E n u w m S) (H : q_all S E z D n u w m b) (hm : ww_mm mo ar ol c S M) (hb : b < 512) (p : Int32) : ww_sp g mo ar ol c b S M wy_L_scrap wy_X7_scrap [.int p] [.int p] (fun _ => none) False (fun _ => True) := by
  have hx : ww_is M.1 (c 0) 7 := hr.1.1.1
  have hw := ww_cp_wo hr.1
  have hf := hr.1.2.1.1
  have hr' := ww_rc_us (S1 := q_us S 0 0) hr ww_us_0
  have hf' := hr'.1.2.1.1
  have H' := q_all_0 (v := 0) H
  obtain ⟨k0, h23, hJ, h4, h5⟩ := q_all_k H hb
  rcases q_pr (n := n) p with hc | ⟨p, hp, rfl⟩
  · exact ww_sp_t hr H hm (code := 1) (by decide) (dm := 3) (by decide) (r2 := 0) (lw_scrap_1 (c_scrap_1 hr hc) hx (by decide) (by decide) (by decide)) (fun M1 hM e => by subst e; exact r_scrap_1 hM H.1 _ hc)
  by_cases hc : q_scrapS S n w p
  · exact ww_sp_v hm (dm := 3) (by decide) (lw_scrap_0 (ww_R_l (c_scrap_0 hr H.1 H.2.1.1 h5 k0 hp hc) (q_all_scrap H (by omega) h4 h23 hp hc.1)) hx (by decide) (by decide) (by decide)) (fun M1 hM e => by subst e; exact r_scrap_0 hM H.1 H.2.1.1.1 H.2.1.1.2.1 h23 h4 hp hc) (rfl)
  · exact ww_sp_t hr H hm (code := 2) (by decide) (dm := 3) (by decide) (r2 := 0) (lw_scrap_2 (c_scrap_2 hr H.1 H.2.1.1 hp hc) hx (by decide) (by decide) (by decide)) (fun M1 hM e => by subst e; exact r_scrap_2 hM H.1 H.2.1.1.1 H.2.1.1.2.1 hp hc)
set_option maxRecDepth 20000 in
theorem sp_run (hr : ww_rc g M c ea P W kl f z D E n u w m S) (H : q_all S E z D n u w m b) (hm : ww_mm mo ar ol c S M) (hb : b < 512) (p d s : Int32) : ww_sp g mo ar ol c b S M wy_L_run wy_X7_run [.int p, .int d, .int s] [.int p, .int d, .int s, .ref ol] (fun v => some (.int v)) True (fun _ => True) := by
  have hx : ww_is M.1 (c 0) 7 := hr.1.1.1
  have hw := ww_cp_wo hr.1
  have hf := hr.1.2.1.1
  have hr' := ww_rc_us (S1 := q_us S 0 0) hr ww_us_0
  have hf' := hr'.1.2.1.1
  have H' := q_all_0 (v := 0) H
  obtain ⟨k0, h23, hJ, h4, h5⟩ := q_all_k H hb
  rcases q_pr (n := n) p with hc | ⟨p, hp, rfl⟩
  · exact ww_sp_t hr H hm (code := 1) (by decide) (dm := 4) (by decide) (r2 := 0) (lw_run_1 (c_run_1 hr d s hc) hx (by decide) (by decide) (by decide)) (fun M1 hM e => by subst e; exact m_run_1 hM H.1 d s hc)
  by_cases hk : S 2 p = 0
  · by_cases hc : q_rg 1 2000 d ∧ q_rg 0 3 s
    · by_cases hrc : q_runC S p
      · exact ww_sp_0 hm (dm := 4) (by decide) (lw_run_0 (ww_R_l (c_run_0 hr H.1 h5 (fun i hi => ww_le'.mpr (H.2.2.2.1 i hi).2.1.1) hp hk hc hrc) (q_all_run H (by omega) hp hk hc.1 hc.2 hrc)) hx (ww_sp_R hm) (by decide) (by decide) (by decide)) (fun M1 hM e => by subst e; exact m_run_0 hM H.1 hp hk hc hrc) ((congrFun (q_run_k (k := 0) (by decide)) 0).trans rfl) (trivial)
      · exact ww_sp_t hr H hm (code := 3) (by decide) (dm := 4) (by decide) (r2 := 0) (lw_run_3 (c_run_3 hr H.1 hp hk hc hrc) hx (by decide) (by decide) (by decide)) (fun M1 hM e => by subst e; exact m_run_3 hM H.1 hp hk hc hrc)
    · exact ww_sp_t hr H hm (code := 2) (by decide) (dm := 4) (by decide) (r2 := 0) (lw_run_2 (c_run_2 hr hp hk hc) hx (by decide) (by decide) (by decide)) (fun M1 hM e => by subst e; exact m_run_2 hM H.1 hp hk hc)
  · exact ww_sp_t hr H hm (code := 2) (by decide) (dm := 4) (by decide) (r2 := 0) (lw_run_2 (c_run_2k hr d s hp hk) hx (by decide) (by decide) (by decide)) (fun M1 hM e => by subst e; exact m_run_2k hM H.1 d s hp hk)
set_option maxRecDepth 20000 in
theorem sp_turn (hr : ww_rc g M c ea P W kl f z D E n u w m S) (H : q_all S E z D n u w m b) (hm : ww_mm mo ar ol c S M) (hb : b < 512) (p : Int32) : ww_sp g mo ar ol c b S M wy_L_turn wy_X7_turn [.int p] [.int p, .ref ol] (fun v => some (.int v)) True (fun _ => True) := by
  have hx : ww_is M.1 (c 0) 7 := hr.1.1.1
  have hw := ww_cp_wo hr.1
  have hf := hr.1.2.1.1
  have hr' := ww_rc_us (S1 := q_us S 0 0) hr ww_us_0
  have hf' := hr'.1.2.1.1
  have H' := q_all_0 (v := 0) H
  obtain ⟨k0, h23, hJ, h4, h5⟩ := q_all_k H hb
  rcases q_pr (n := n) p with hc | ⟨p, hp, rfl⟩
  · exact ww_sp_t hr H hm (code := 1) (by decide) (dm := 4) (by decide) (r2 := 0) (lw_turn_1 (c_turn_1 hw hc) hx (by decide) (by decide) (by decide)) (fun M1 hM e => by subst e; exact m_turn_1 hM H.1 hc)
  by_cases hk : S 2 p = 2
  · by_cases hc : q_turnC S n p
    · obtain ⟨a, y, hq, e1, e2, s1, s2⟩ := q_pair_of H hp hk hc.1
      have et := q_turnV_eq (S := q_us S 0 0) hq.2.2.2.2.2.2
      have k1 := c_turn_0 hw hf' H'.1 hr'.1.2.1.2 hp hk hq hc.2
      rw [et] at k1
      exact ww_sp_0 hm (dm := 4) (by decide) (lw_turn_0 (ww_R_cq hr' k1 (q_turn_k (by decide) (by decide)) (q_turn_k (by decide) (by decide)) (q_all_b (q_all_turn H' hp hq.2.2.1 hq.2.2.2.1 hq.2.2.2.2.1 hq.2.2.2.2.2.1 hq.2.2.2.2.2.2 s1 s2))) hx (ww_sp_R hm) (by decide) (by decide) (by decide)) (fun M1 hM e => by subst e; exact m_turn_0 hM H.1 hp hk hc hq.2.2.1 hq.2.2.2.1 e1 e2) ((congrFun (q_turn_k (k := 0) (by decide) (by decide)) 0).trans rfl) (trivial)
    · exact ww_sp_t hr H hm (code := 3) (by decide) (dm := 4) (by decide) (r2 := 0) (lw_turn_3 (c_turn_3 hw hf H.1 hp hk (fun y => hc ⟨y.1.elim fun a h => h.elim fun y h => q_pair_no H.1.2.1 h, y.2⟩)) hx (by decide) (by decide) (by decide)) (fun M1 hM e => by subst e; exact m_turn_3 hM H.1 hp hk hc)
  · exact ww_sp_t hr H hm (code := 2) (by decide) (dm := 4) (by decide) (r2 := 0) (lw_turn_2 (c_turn_2 hw hf hp hk) hx (by decide) (by decide) (by decide)) (fun M1 hM e => by subst e; exact m_turn_2 hM H.1 hp hk)
set_option maxRecDepth 20000 in
theorem sp_comes (hr : ww_rc g M c ea P W kl f z D E n u w m S) (H : q_all S E z D n u w m b) (hm : ww_mm mo ar ol c S M) (hb : b < 512) (p v : Int32) : ww_sp g mo ar ol c b S M wy_L_comes wy_X7_comes [.int p, .int v] [.int p, .int v, .ref ol] (fun v => some (.int v)) True (fun _ => True) := by
  have hx : ww_is M.1 (c 0) 7 := hr.1.1.1
  have hw := ww_cp_wo hr.1
  have hf := hr.1.2.1.1
  have hr' := ww_rc_us (S1 := q_us S 0 0) hr ww_us_0
  have hf' := hr'.1.2.1.1
  have H' := q_all_0 (v := 0) H
  obtain ⟨k0, h23, hJ, h4, h5⟩ := q_all_k H hb
  rcases q_pr (n := n) p with hc | ⟨p, hp, rfl⟩
  · exact ww_sp_t hr H hm (code := 1) (by decide) (dm := 4) (by decide) (r2 := 0) (lw_comes_1 (c_comes_1 hr v hc) hx (by decide) (by decide) (by decide)) (fun M1 hM e => by subst e; exact m_comes_1 hM H.1 v hc)
  by_cases hc : S 2 p = 0 ∧ q_rg 0 99 v
  · by_cases hd : q_comesC S w p v
    · exact ww_sp_0 hm (dm := 4) (by decide) (lw_comes_0 (ww_R_w (c_comes_0 hr H.1 H.2.1.1 hp hc.1 hc.2 hd) (q_all_b (q_all_comes H' hp hd))) hx (ww_sp_R hm) (by decide) (by decide) (by decide)) (fun M1 hM e => by subst e; exact m_comes_0 hM H.1 H.2.1.1 hp hc hd) (rfl) (trivial)
    · exact ww_sp_t hr H hm (code := 3) (by decide) (dm := 4) (by decide) (r2 := 0) (lw_comes_3 (c_comes_3 hr H.1 H.2.1.1 hp hc.1 hc.2 hd) hx (by decide) (by decide) (by decide)) (fun M1 hM e => by subst e; exact m_comes_3 hM H.1 H.2.1.1 hp hc hd)
  · exact ww_sp_t hr H hm (code := 2) (by decide) (dm := 4) (by decide) (r2 := 0) (lw_comes_2 (c_comes_2 hr hp hc) hx (by decide) (by decide) (by decide)) (fun M1 hM e => by subst e; exact m_comes_2 hM H.1 hp hc)
theorem q_night_us {d : Nat → Nat} : ∀ k, ww_us k = true → q_us (q_ns (q_plans (q_us S 0 0) w) d w) 26 0 k = q_st S w k := fun k hk => by
  by_cases h : k = 12
  · rw [h]; exact q_night_12
  · rw [q_st_k h]
    refine q_night_k ?_
    refine ⟨?_, h, ?_, ?_, ?_, ?_, ?_⟩ <;> intro e <;> rw [e] at hk <;> exact absurd hk (by decide)
theorem q_night_h0 {d : Nat → Nat} : q_us (q_ns (q_plans (q_us S 0 0) w) d w) 26 0 0 0 = 0 := by
  show q_ns (q_plans (q_us S 0 0) w) d w 0 0 = 0
  rw [q_ns_k (by decide)]
  exact congrFun (q_pl_k (by decide)) 0
set_option maxRecDepth 20000 in
theorem sp_night (hr : ww_rc g M c ea P W kl f z D E n u w m S) (H : q_all S E z D n u w m b) (hm : ww_mm mo ar ol c S M) (hb : b < 512) : ww_sp g mo ar ol c b S M wy_L_night wy_X7_night [] [.ref ol] (fun v => some (.int v)) True (fun _ => True) := by
  have hx : ww_is M.1 (c 0) 7 := hr.1.1.1
  have hw := ww_cp_wo hr.1
  have hf := hr.1.2.1.1
  have hr' := ww_rc_us (S1 := q_us S 0 0) hr ww_us_0
  have hf' := hr'.1.2.1.1
  have H' := q_all_0 (v := 0) H
  obtain ⟨k0, h23, hJ, h4, h5⟩ := q_all_k H hb
  by_cases hc : 0 < w ∧ m = 0
  · obtain ⟨h0, rfl⟩ := hc
    obtain ⟨b1, best, k1, k2, k3, k4, k5, k6⟩ := q_best (S := q_us S 0 0) H.2.1.1.2.1
    have hd : ∀ i, i < w → q_dg w b1 i < 3 ∧ q_cnt (fun j => q_dg w b1 j = q_dg w b1 i) w ≤ 4 := fun i _ => ⟨q_dg_lt, k2 _ q_dg_lt⟩
    exact ww_sp_0 hm (dm := 4) (by decide) (lw_night_0 (ww_R_pk (c_night_0 (dd := q_dg w b1) (best := best) hr H.1 H.2.1.1 h0 H.2.1.2.1 (fun i _ => q_dg_lt) (fun bl p0 hbl _ => k5 bl p0 hbl)) q_night_us (q_all_b (q_all_night H h0 hd))) hx (ww_sp_R hm) (by decide) (by decide) (by decide)) (fun M1 hM e => by subst e; have k := m_night_0 (g := g) hM H.1 H.2.1.1 h0 H.2.2.1.1.2 ((q_free_m H).2 rfl) k1 hd; rw [k4] at k; exact k) (q_night_h0) (trivial)
  · exact ww_sp_t hr H hm (code := 1) (by decide) (dm := 4) (by decide) (r2 := 0) (lw_night_1 (c_night_1 hr H.2.1.1.2.1 H.2.2.1.1.1 hc) hx (by decide) (by decide) (by decide)) (fun M1 hM e => by subst e; exact m_night_1 hM H.2.1.1 H.2.2.1.1.2 (fun y => hc ⟨y.1, (q_free_m H).1 y.2⟩))
set_option maxRecDepth 20000 in
theorem sp_out (hr : ww_rc g M c ea P W kl f z D E n u w m S) (H : q_all S E z D n u w m b) (hm : ww_mm mo ar ol c S M) (hb : b < 512) : ww_sp g mo ar ol c b S M wy_L_out wy_X7_out [] [.ref ol] (fun v => some (.int v)) True (fun _ => True) := by
  have hx : ww_is M.1 (c 0) 7 := hr.1.1.1
  have hw := ww_cp_wo hr.1
  have hf := hr.1.2.1.1
  have hr' := ww_rc_us (S1 := q_us S 0 0) hr ww_us_0
  have hf' := hr'.1.2.1.1
  have H' := q_all_0 (v := 0) H
  obtain ⟨k0, h23, hJ, h4, h5⟩ := q_all_k H hb
  by_cases h0 : 0 < m
  · obtain ⟨k, k1, k2⟩ := q_out_who H h0
    obtain ⟨j1, j2, j3⟩ := q_all_out H h0 (q_mi_lt _ h0) rfl k2
    exact ww_sp_0 hm (dm := 1) (by decide) (lw_out_0 (ww_R_o (c_out_0 hr H.2.2.1.1.1 h0 (fun j hj => (H.2.2.1.2.1 j hj).1) (fun j hj => (H.2.2.1.2.1 j hj).2.1) H.2.2.1.2.2.1) (congrArg nI j3.symm) j2 (q_all_b j1)) hx (ww_sp_R hm) (by decide) (by decide) (by decide)) (fun M1 hM e => by subst e; exact m_out_0 hM H.2.2.1.1.2 H.1.2.1 k1) (q_out_h0) (trivial)
  · have hm0 : m = 0 := by omega
    subst hm0
    exact ww_sp_t hr H hm (code := 1) (by decide) (dm := 1) (by decide) (r2 := 0) (lw_out_1 (c_out_1 hr) hx (by decide) (by decide) (by decide)) (fun M1 hM e => by subst e; exact m_out_1 hM H.2.2.1.1.2 H.1.2.1 (q_out_no (fun r hr => H.2.2.1.2.2.2.2.2.1 r hr)))
set_option maxRecDepth 20000 in
theorem sp_road (hr : ww_rc g M c ea P W kl f z D E n u w m S) (H : q_all S E z D n u w m b) (hm : ww_mm mo ar ol c S M) (hb : b < 512) (r k : Int32) : ww_sp g mo ar ol c b S M wy_L_road wy_X7_road [.int r, .int k] [.int r, .int k, .ref ol] (fun v => some (.int v)) True (fun _ => True) := by
  have hx : ww_is M.1 (c 0) 7 := hr.1.1.1
  have hw := ww_cp_wo hr.1
  have hf := hr.1.2.1.1
  have hr' := ww_rc_us (S1 := q_us S 0 0) hr ww_us_0
  have hf' := hr'.1.2.1.1
  have H' := q_all_0 (v := 0) H
  obtain ⟨k0, h23, hJ, h4, h5⟩ := q_all_k H hb
  by_cases hc : q_rg 0 2 r ∧ 0 ≤ k
  · obtain ⟨r, hr2, rfl⟩ := q_rgn hc.1 (by decide)
    have hr3 : r < 3 := by
      have e2 : (2 : Int32).toInt = 2 := rfl
      omega
    have hk0 := ww_le'.mp hc.2
    have e0 : (0 : Int32).toInt = 0 := rfl
    have hkl := k.toInt_lt
    obtain ⟨k, hk, rfl⟩ : ∃ j : Nat, j < 2 ^ 31 ∧ k = nI j := ⟨k.toInt.toNat, by omega, by rw [ww_eq, nI_toInt (by omega)]; omega⟩
    have k1 := c_road_0 hr H.2.2.1.1.1 hc.1 hc.2
    rw [q_iR_fj H hr hr3, q_road_eq H hr3 hk] at k1
    exact ww_sp_0 hm (dm := 2) (by decide) (lw_road_0 (ww_R_ret hr H k1) hx (ww_sp_R hm) (by decide) (by decide) (by decide)) (fun M1 hM e => by subst e; exact m_road_0 hM H.2.2.1.1.2 hr3 hk) (rfl) (trivial)
  · exact ww_sp_t hr H hm (code := 1) (by decide) (dm := 2) (by decide) (r2 := 0) (lw_road_1 (c_road_1 hr hc) hx (by decide) (by decide) (by decide)) (fun M1 hM e => by subst e; exact m_road_1 hM H.1 hc)
end WWJ3
