/-! ===== the plans on both sides ===== -/
section WWJ4
variable {g : ww_G} {M M1 : ww_M} {mo ol : Nat} {ar : Nat → Nat} {c ea P W kl f z D : Nat → Nat} {E : Nat → Nat → Int32} {n u w m b : Nat} {S S1 S2 : Nat → Nat → Int32}
def ww_sq (g : ww_G) (mo : Nat) (ar : Nat → Nat) (ol : Nat) (c : Nat → Nat) (b : Nat) (S : Nat → Nat → Int32) (M : ww_M) (Yc Ym : ww_Yd) : Prop :=
  ∃ (r : Int32) (S2 : Nat → Nat → Int32) (dm : Nat), dm ≤ 6 ∧ ww_C g Yc 12 0 0 [.ref (c 0)] M (fun v M2 => v = some (.int r) ∧ ww_mc g c (b + 1) S2 M2 ∧ ww_mm mo ar ol c S M2) ww_no ∧ ∀ M1 : ww_M, ww_mo mo ar M1.1 M1.2.2.1 → q_S M1 mo ar = S → ww_C g Ym dm 0 0 [.ref mo] M1 (ww_ru mo ar M1 (some (.int r)) S2) ww_no
theorem ww_sq_of (hm : ww_mm mo ar ol c S M) {Yc Ym : ww_Yd} {r : Int32} {dm : Nat} (hd : dm ≤ 6) (h1 : ww_C g Yc 12 0 0 [.ref (c 0)] M (ww_rR (some (.int r)) (ww_rr g c b M S2)) ww_no) (h2 : ∀ M1 : ww_M, ww_mo mo ar M1.1 M1.2.2.1 → q_S M1 mo ar = S → ww_C g Ym dm 0 0 [.ref mo] M1 (ww_ru mo ar M1 (some (.int r)) S2) ww_no) : ww_sq g mo ar ol c b S M Yc Ym := by
  refine ⟨r, S2, dm, hd, ww_C_see h1 (fun v M' h => ?_), h2⟩
  obtain ⟨rfl, k1, k2⟩ := h
  obtain ⟨⟨⟨a1, a2⟩, a3, a4⟩, hK, ho⟩ := ww_mm_ck hm k2
  exact ⟨ww_fx M M' mo, ⟨rfl, ww_mc_fx k1 hK, ⟨⟨a1, a2⟩, ho, a4⟩⟩, fun H h => ww_fx_H hK h⟩
theorem q_plans_k {j : Nat} (h : j ≠ 0 ∧ j ≠ 29 ∧ j ≠ 30) : q_plans (q_us S 0 0) w j = S j := (q_pl_k h.2).trans (funext fun l => if_neg h.1)
theorem q_plans_us : ∀ k, ww_us k = true → q_plans (q_us S 0 0) w k = S k := fun k hk => q_plans_k (by
  refine ⟨?_, ?_, ?_⟩ <;> intro e <;> rw [e] at hk <;> exact absurd hk (by decide))
theorem q_all_plans (H : q_all S E z D n u w m b) : q_all (q_plans (q_us S 0 0) w) E z D n u w m b := q_all_cg H (fun k hk => q_plans_k (by
  refine ⟨?_, ?_, ?_⟩ <;> intro e <;> rw [e] at hk <;> exact absurd hk (by decide))) (fun i hi h60 => by
  have h := H.2.2.2.2.2.2.2.2.1 i hi h60
  unfold q_nil at h ⊢
  rw [q_plans_k (j := 6) (by decide), q_plans_k (j := 7) (by decide), q_plans_k (j := 8) (by decide), q_plans_k (j := 9) (by decide), q_plans_k (j := 10) (by decide), q_plans_k (j := 11) (by decide), q_plans_k (j := 12) (by decide), q_plans_k (j := 15) (by decide), q_plans_k (j := 17) (by decide), q_plans_k (j := 18) (by decide), q_plans_k (j := 19) (by decide), q_plans_k (j := 28) (by decide)]
  exact h)
theorem sp_plan (hr : ww_rc g M c ea P W kl f z D E n u w m S) (H : q_all S E z D n u w m b) (hm : ww_mm mo ar ol c S M) : ww_sq g mo ar ol c b S M wy_X6_plan wy_X7_plan := by
  obtain ⟨b1, best, k1, k2, k3, k4, k5, k6⟩ := q_best (S := q_us S 0 0) H.2.1.1.2.1
  have e28 : ∀ j, j < w → ww_I M 177 (P (q_wq S j)) = S 28 (q_wq S j) := fun j hj => (hr.1.2.1.1.1 _ (H.2.1.1.2.2 j hj).1).2.2.2.2.2.1.2.2.2.2.2.2.2.2
  have hc : ∀ S2, (∀ k, ww_us k = true → S2 k = S k) → q_all S2 E z D n u w m (b + 1) → ww_C g wy_X6_plan 12 0 0 [.ref (c 0)] M (ww_rR (some (.int (nI best))) (ww_rr g c b M S2)) ww_no := fun S2 us hq => ww_C_mono (c_plan hr) (fun v M' h => by
    obtain ⟨p0, bl, F, h1, rfl, rfl⟩ := h
    obtain ⟨j1, j2⟩ := k5 bl p0 (q_bw_cg h1 e28)
    obtain ⟨a1, a2⟩ := ww_rc_cX7 (F := F) hr
    obtain ⟨a3, a4⟩ := ww_rc_pl (b := (q_df bl w 0 0 0 (1000, p0)).1) (p := (q_df bl w 0 0 0 (1000, p0)).2) a1 j2.1
    exact ⟨by rw [j1], ⟨ea, P, W, kl, f, z, D, E, n, u, w, m, ww_rc_us a3 us, hq⟩, ww_ck_tr a2 a4⟩) (fun _ _ h => h)
  by_cases h0 : 0 < w
  · refine ww_sq_of hm (dm := 4) (by decide) (hc _ q_plans_us (q_all_b (q_all_plans H))) (fun M1 hM e => ?_)
    subst e
    have k := m_plan_0 (g := g) hM H.1 H.2.1.1 h0
    rw [k4] at k
    exact k
  · have hw0 : w = 0 := by omega
    subst hw0
    have hb0 : best = 0 := (k6 (fun _ => 0) (fun i hi => by omega)).symm
    subst hb0
    refine ww_sq_of hm (dm := 4) (by decide) (hc (q_us S 0 0) ww_us_0 (q_all_b (q_all_0 H))) (fun M1 hM e => ?_)
    subst e
    exact m_plan_e hM H.1 H.2.1.1
theorem sp_planAnew (hr : ww_rc g M c ea P W kl f z D E n u w m S) (H : q_all S E z D n u w m b) (hm : ww_mm mo ar ol c S M) : ww_sq g mo ar ol c b S M wy_X6_planAnew wy_X7_planAnew := by
  obtain ⟨b1, best, k1, k2, k3, k4, k5, k6⟩ := q_best (S := q_us S 0 0) H.2.1.1.2.1
  have e28 : ∀ j, j < w → ww_I M 177 (P (q_wq S j)) = S 28 (q_wq S j) := fun j hj => (hr.1.2.1.1.1 _ (H.2.1.1.2.2 j hj).1).2.2.2.2.2.1.2.2.2.2.2.2.2.2
  have hc : ∀ S2, (∀ k, ww_us k = true → S2 k = S k) → q_all S2 E z D n u w m (b + 1) → ww_C g wy_X6_planAnew 12 0 0 [.ref (c 0)] M (ww_rR (some (.int (nI best))) (ww_rr g c b M S2)) ww_no := fun S2 us hq => ww_C_mono (c_planAnew hr) (fun v M' h => by
    obtain ⟨bl, F, h1, rfl, rfl⟩ := h
    have j1 := k6 bl (q_bw_cg h1 e28)
    obtain ⟨a1, a2⟩ := ww_rc_cX7 (F := F) hr
    exact ⟨by rw [j1], ⟨ea, P, W, kl, f, z, D, E, n, u, w, m, ww_rc_us a1 us, hq⟩, a2⟩) (fun _ _ h => h)
  by_cases h0 : 0 < w
  · refine ww_sq_of hm (dm := 4) (by decide) (hc _ q_plans_us (q_all_b (q_all_plans H))) (fun M1 hM e => ?_)
    subst e
    have k := m_planAnew_0 (g := g) hM H.1 H.2.1.1 h0
    rw [k4] at k
    exact k
  · have hw0 : w = 0 := by omega
    subst hw0
    have hb0 : best = 0 := (k6 (fun _ => 0) (fun i hi => by omega)).symm
    subst hb0
    refine ww_sq_of hm (dm := 4) (by decide) (hc (q_us S 0 0) ww_us_0 (q_all_b (q_all_0 H))) (fun M1 hM e => ?_)
    subst e
    exact m_planAnew_e hM H.1 H.2.1.1
end WWJ4
