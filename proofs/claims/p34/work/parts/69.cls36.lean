section WWA8
variable {g : ww_G} {M0 M M1 M' : ww_M} {c ea P W kl f z D : Nat → Nat} {E : Nat → Nat → Int32} {n u w m : Nat} {S S1 : Nat → Nat → Int32} {v : Int32}
theorem ww_rc_is (hr : ww_rc g M c ea P W kl f z D E n u w m S) {p : Nat} (hp : p < n) : ww_is M.1 (P p) 4 := (hr.1.2.1.1.1 p hp).1.1
theorem ww_e_or {κ a e nn : Nat} {ff : Nat → Nat} (h : ww_ls g M κ a e nn ff) : e = ww_ge g ∨ e ∈ ww_L M := h.2.2.2.elim (fun x => Or.inl x.1) (fun x => Or.inr x.1.1)
/-- what a list's change leaves: the list at place k of c, its array at place k - 1 of ea -/
theorem ww_rc_li {k : Nat} {A : Nat → Prop} (hr : ww_rc g M c ea P W kl f z D E n u w m S) (hk : k = 3 ∨ k = 4) (t : ww_ft M M' (fun y => y = c k) A) (hA : ∀ y, y ∈ ww_L M → A y → y = ea (k - 1) ∧ ww_K M y = 12) : ww_cp g M' c ea P W kl n S ∧ ww_cl g M' c ea f u E ∧ (∀ y, y ∈ ww_L M → ¬ ww_K M y = 0 → ¬ y = c k) ∧ (∀ y j, y ∈ ww_L M → A y → j < 4 → ¬ j = k - 1 → ¬ y = ea j) ∧ ww_ck c M M' := by
  obtain ⟨h0, h5, h7, hap⟩ := hr
  obtain ⟨p1, p2, p3, p4⟩ := hap
  have a1 := h0.1.1
  have kk : ww_K M (c k) = 0 := by
    rcases hk with rfl | rfl
    · exact h7.1.2.2.2.2.2.2.2.1.2
    · exact h7.2.1.2.1.2
  have k0 : ∀ {y κ : Nat}, y = c k → ¬ κ = 0 → ¬ ww_K M y = κ := fun e hk y => hk (by rw [e, kk] at y; exact y.symm)
  have nea : ∀ y j, y ∈ ww_L M → A y → j < 4 → ¬ j = k - 1 → ¬ y = ea j := fun y j hy ha hj hne e => by
    obtain ⟨e1, e2⟩ := hA y hy ha
    rcases p2 (k - 1) j (by omega) hj (e1.symm.trans e) with x | x
    · exact hne x.symm
    · exact p4 (by rw [← x, ← e1]; exact hy)
  have pk : ∀ y, y = c k → ¬ ww_pk M y := fun y e x => by
    unfold ww_pk at x
    rcases x with x | x | x
    · exact k0 e (by decide) x
    · exact k0 e (by decide) x
    · exact k0 e (by decide) x
  have ne : ∀ y j, y = c k → 1 ≤ j → j ≤ 4 → ¬ j = k → ¬ y = c j := fun y j e h1 h2 hne x => hne (p1 j k h1 h2 (by omega) (by omega) (x.symm.trans e))
  refine ⟨ww_cp_ft h0 t (fun y e => ⟨pk y e, k0 e (by decide), ne y 1 e (by decide) (by decide) (by omega)⟩) (fun y hy ha => ⟨fun x => ?_, fun _ => nea y 0 hy ha (by decide) (by omega)⟩), ww_cl_ft h5 a1 t (fun y e => ⟨k0 e (by decide), k0 e (by decide), k0 e (by decide), ne y 2 e (by decide) (by decide) (by omega)⟩) (fun y hy ha _ => nea y 1 hy ha (by decide) (by omega)), fun y hy hne e => hne (by rw [e]; exact kk), nea, ww_ck_ft t (fun y _ e => k0 e (by decide)) (fun y hy ha => Or.inr (Or.inl (hA y hy ha).2))⟩
  rw [(hA y hy ha).2] at x
  cases x
/-- one more waits -/
theorem ww_rc_wait {t : Nat} {v0 r : Option Value} (hr : ww_rc g M c ea P W kl f z D E n u w m S) (h : ww_adQ g M v0 4 (c 3) (P t) (ea 2) w (fun i => P (q_wq S i)) r M') (hge : ww_ge g ∉ ww_L M') (hw : w < 8) (h6 : n ≤ 60) (ht : t < n) : ∃ ea', ww_rc g M' c ea' P W kl f z D E n u (w + 1) m (ww_u2 S 27 w (nI t)) ∧ ww_ck c M M' := by
  obtain ⟨_, e', k1, k2, k3⟩ := h
  have t3 := ww_ft_fr k3
  obtain ⟨l1, l2, l3, l4, l5⟩ := ww_rc_li hr (Or.inl rfl) t3 (fun y hy ha => ⟨ha.1, by rw [ha.1]; exact ha.2.2⟩)
  obtain ⟨h0, h5, ⟨⟨y1, y2⟩, ⟨y3, y4⟩, y5, b, hb, y6⟩, hap⟩ := id hr
  obtain ⟨d1, d2, d3, d4, d5, d6, d7⟩ := id y2
  have n6 := l3 _ d1.1 (by rw [show ww_K M (c 6) = 6 from d1.2]; decide)
  have eq : ∀ i, i < w + 1 → q_snoc (fun i => P (q_wq S i)) w (P t) i = P (q_wq (ww_u2 S 27 w (nI t)) i) := fun i hi => by
    unfold q_snoc q_wq
    by_cases e : i = w
    · rw [if_pos e, e, ww_u2s, nI_clamp (by omega)]
    · rw [if_neg e, ww_u2n (fun y => e y.2)]
  refine ⟨q_ea ea 2 e', ⟨?_, ?_, ⟨⟨?_, ?_⟩, ⟨?_, ?_⟩, ?_, b, hb, ?_⟩, ww_ap_ea (by decide) hap k2 hge (fun i hi hne => ?_)⟩, l5⟩
  · obtain ⟨c1, ⟨c2, c3⟩, c4⟩ := l1
    refine ⟨c1, ⟨?_, c3⟩, c4⟩
    have e : ∀ k, ¬ k = 27 → ww_u2 S 27 w (nI t) k = S k := fun k hk => funext fun i => ww_u2n (fun y => hk y.1)
    unfold ww_pf ww_pt q_kd at c2 ⊢
    rw [e 2 (by decide), e 3 (by decide), e 4 (by decide), e 5 (by decide), e 6 (by decide), e 7 (by decide), e 8 (by decide), e 9 (by decide), e 10 (by decide), e 11 (by decide), e 12 (by decide), e 13 (by decide), e 14 (by decide), e 15 (by decide), e 16 (by decide), e 17 (by decide), e 18 (by decide), e 19 (by decide), e 20 (by decide), e 21 (by decide), e 22 (by decide), e 28 (by decide)]
    exact c2
  · exact l2
  · exact (ww_ft_R t3 h0.1.1 (l3 _ h0.1.1.1 (by rw [show ww_K M (c 0) = 7 from h0.1.1.2]; decide)) rfl).trans y1
  · exact ⟨ww_ft_in t3 d1, (ww_ft_R t3 d1 n6 rfl).trans d2, (ww_ft_R t3 d1 n6 rfl).trans d3, ww_ft_in t3 d4, (t3.1 _ d4.1).2.2.trans d5, hw, ww_ls_cg k1 eq⟩
  · exact (ww_ft_R t3 d1 n6 rfl).trans y3
  · exact ww_ls_ft y4 t3 (fun e => absurd (hap.1 4 3 (by decide) (by decide) (by decide) (by decide) e) (by decide)) (fun he ha => l4 _ 3 he.1 ha (by decide) (by decide) rfl)
  · intro i hi
    have h4 := ww_ls_el y4 hi
    exact (ww_ft_I t3 h4 (l3 _ h4.1 (by rw [show ww_K M (P (z i)) = 4 from h4.2]; decide)) rfl).trans (y5 i hi)
  · exact (ww_ft_I t3 d1 n6 rfl).trans y6
  · match i, hi, hne with
    | 0, _, _ => exact ww_e_or h0.1.2.2.1
    | 1, _, _ => exact ww_e_or h5.2.2.2.2.2.2.2.1
    | 3, _, _ => exact ww_e_or y4
/-- one more stands -/
theorem ww_rc_stand {t : Nat} {v0 r : Option Value} (hr : ww_rc g M c ea P W kl f z D E n u w m S) (h : ww_adQ g M v0 4 (c 4) (P t) (ea 3) m (fun i => P (z i)) r M') (hge : ww_ge g ∉ ww_L M') (ht : t < n) (hz : z m = t) (hD : ww_I M 176 (P t) = nI (D m)) : ∃ ea', ww_rc g M' c ea' P W kl f z D E n u w (m + 1) S ∧ ww_ck c M M' ∧ ww_I M' 244 (c 6) = ww_I M 244 (c 6) := by
  obtain ⟨_, e', k1, k2, k3⟩ := h
  have t3 := ww_ft_fr k3
  obtain ⟨l1, l2, l3, l4, l5⟩ := ww_rc_li hr (Or.inr rfl) t3 (fun y hy ha => ⟨ha.1, by rw [ha.1]; exact ha.2.2⟩)
  have ht4 := ww_rc_is hr ht
  obtain ⟨h0, h5, ⟨⟨y1, y2⟩, ⟨y3, y4⟩, y5, b, hb, y6⟩, hap⟩ := id hr
  obtain ⟨d1, d2, d3, d4, d5, d6, d7⟩ := id y2
  have n6 := l3 _ d1.1 (by rw [show ww_K M (c 6) = 6 from d1.2]; decide)
  have eq : ∀ i, i < m + 1 → q_snoc (fun i => P (z i)) m (P t) i = P (z i) := fun i hi => by
    unfold q_snoc
    by_cases e : i = m
    · rw [if_pos e, e, hz]
    · rw [if_neg e]
  refine ⟨q_ea ea 3 e', ⟨l1, l2, ⟨⟨?_, ?_⟩, ⟨?_, ?_⟩, ?_, b, hb, ?_⟩, ww_ap_ea (by decide) hap k2 hge (fun i hi hne => ?_)⟩, l5, ww_ft_I t3 d1 n6 rfl⟩
  · exact (ww_ft_R t3 h0.1.1 (l3 _ h0.1.1.1 (by rw [show ww_K M (c 0) = 7 from h0.1.1.2]; decide)) rfl).trans y1
  · exact ww_yd_ft y2 t3 n6 (fun e => absurd (hap.1 3 4 (by decide) (by decide) (by decide) (by decide) e) (by decide)) (fun he ha => l4 _ 2 he.1 ha (by decide) (by decide) rfl)
  · exact (ww_ft_R t3 d1 n6 rfl).trans y3
  · exact ww_ls_cg k1 eq
  · intro i hi
    by_cases e : i = m
    · rw [e, hz]
      exact (ww_ft_I t3 ht4 (l3 _ ht4.1 (by rw [show ww_K M (P t) = 4 from ht4.2]; decide)) rfl).trans hD
    · have h4 := ww_ls_el y4 (i := i) (by omega)
      exact (ww_ft_I t3 h4 (l3 _ h4.1 (by rw [show ww_K M (P (z i)) = 4 from h4.2]; decide)) rfl).trans (y5 i (by omega))
  · exact (ww_ft_I t3 d1 n6 rfl).trans y6
  · match i, hi, hne with
    | 0, _, _ => exact ww_e_or h0.1.2.2.1
    | 1, _, _ => exact ww_e_or h5.2.2.2.2.2.2.2.1
    | 2, _, _ => exact ww_e_or d7
    | 3, _, hne => exact absurd rfl hne
/-- none waits -/
theorem ww_rc_clear {ff : Nat → Nat} (hr : ww_rc g M c ea P W kl f z D E n u w m S) (hw : 0 < w) (k1 : ww_ls g M' 4 (c 3) (ea 2) 0 ff) (k3 : ww_fr M M' (fun y => y = c 3) (fun y => y = ea 2)) (hL : ww_ge g ∉ ww_L M') : ww_rc g M' c ea P W kl f z D E n u 0 m S ∧ ww_ck c M M' := by
  have t3 := ww_ft_fr k3
  obtain ⟨h0, h5, ⟨⟨y1, y2⟩, ⟨y3, y4⟩, y5, b, hb, y6⟩, hap⟩ := id hr
  obtain ⟨d1, d2, d3, d4, d5, d6, d7⟩ := id y2
  have ho := (ww_ls_ow d7 hw).1
  obtain ⟨l1, l2, l3, l4, l5⟩ := ww_rc_li hr (Or.inl rfl) t3 (fun y hy ha => ⟨ha, by rw [ha]; exact ho.2⟩)
  have n6 := l3 _ d1.1 (by rw [show ww_K M (c 6) = 6 from d1.2]; decide)
  refine ⟨⟨l1, l2, ⟨⟨?_, ?_⟩, ⟨?_, ?_⟩, ?_, b, hb, ?_⟩, hap.1, hap.2.1, hap.2.2.1, hL⟩, l5⟩
  · exact (ww_ft_R t3 h0.1.1 (l3 _ h0.1.1.1 (by rw [show ww_K M (c 0) = 7 from h0.1.1.2]; decide)) rfl).trans y1
  · exact ⟨ww_ft_in t3 d1, (ww_ft_R t3 d1 n6 rfl).trans d2, (ww_ft_R t3 d1 n6 rfl).trans d3, ww_ft_in t3 d4, (t3.1 _ d4.1).2.2.trans d5, by omega, ww_ls_cg k1 (fun i hi => by omega)⟩
  · exact (ww_ft_R t3 d1 n6 rfl).trans y3
  · exact ww_ls_ft y4 t3 (fun e => absurd (hap.1 4 3 (by decide) (by decide) (by decide) (by decide) e) (by decide)) (fun he ha => l4 _ 3 he.1 ha (by decide) (by decide) rfl)
  · intro i hi
    have h4 := ww_ls_el y4 hi
    exact (ww_ft_I t3 h4 (l3 _ h4.1 (by rw [show ww_K M (P (z i)) = 4 from h4.2]; decide)) rfl).trans (y5 i hi)
  · exact (ww_ft_I t3 d1 n6 rfl).trans y6
/-! comes -/
def ww_wQ (g : ww_G) (M : ww_M) (c P W kl f z D : Nat → Nat) (E : Nat → Nat → Int32) (n u w m : Nat) (v0 : Option Value) (S' : Nat → Nat → Int32) : Option Value → ww_M → Prop := fun v M' => v = v0 ∧ ∃ ea', ww_rc g M' c ea' P W kl f z D E n u w m S' ∧ ww_ck c M M'
set_option maxRecDepth 20000 in
theorem c_comes_1 (hr : ww_rc g M c ea P W kl f z D E n u w m S) {p : Int32} (v : Int32) (hc : q_noP n p) : ww_C g wy_X6_comes 9 1 6 [.ref (c 0), .int p, .int v] M ww_nr (ww_th "java/lang/IndexOutOfBoundsException" M) := by
  refine ww_ent (by decide +kernel) (Nat.le_of_ble_eq_true rfl) ⟨rfl, rfl, rfl, trivial⟩ ?_
  have hw := ww_cp_wo hr.1
  refine ww_aload_n (i := 0) dX6_comes_0 rfl rfl ?_
  refine ww_iload_n (i := 1) dX6_comes_1 rfl rfl ?_
  refine ww_callV (κ := 7) (r := (RX6, TX6, 4)) wk_X6_160 dX6_comes_2 (c_existingTrain_1 hw hc) rfl rfl (show ww_is _ _ 7 from hw.1).1 (show ww_is _ _ 7 from hw.1).2 rfl rfl (by omega) (by omega) (by omega) (by first | exact Nat.le_of_ble_eq_true rfl | (simp [ww_rf_cat, Value.category])) rfl (fun E M9 h9 => h9) (fun v9 M9 h9 => ?_)
  exact h9.elim
  -- at 5, locals [0, 1, 2]
set_option maxRecDepth 20000 in
theorem c_comes_2 (hr : ww_rc g M c ea P W kl f z D E n u w m S) {p : Nat} (hp : p < n) (hc : ¬ (S 2 p = 0 ∧ q_rg 0 99 v)) : ww_C g wy_X6_comes 9 1 6 [.ref (c 0), .int (nI p), .int v] M ww_nr (ww_th "java/lang/IllegalArgumentException" M) := by
  refine ww_ent (by decide +kernel) (Nat.le_of_ble_eq_true rfl) ⟨rfl, rfl, rfl, trivial⟩ ?_
  have hw := ww_cp_wo hr.1
  by_cases hk : S 2 p = 0
  · have hv : ¬ q_rg 0 99 v := fun y => hc ⟨hk, y⟩
    refine ww_aload_n (i := 0) dX6_comes_0 rfl rfl ?_
    refine ww_iload_n (i := 1) dX6_comes_1 rfl rfl ?_
    refine ww_callV (κ := 7) (r := (RX6, TX6, 4)) wk_X6_160 dX6_comes_2 (c_existingTrain hw hr.1.2.1.1 hp hk) rfl rfl (show ww_is _ _ 7 from hw.1).1 (show ww_is _ _ 7 from hw.1).2 rfl rfl (by omega) (by omega) (by omega) (by first | exact Nat.le_of_ble_eq_true rfl | (simp [ww_rf_cat, Value.category])) rfl (fun E M9 h9 => h9.elim) (fun v9 M9 h9 => ?_)
    obtain ⟨rfl, rfl⟩ := h9
    first | refine ww_astore_n (i := 3) (lv2 := [(0, _), (1, _), (2, _), (3, _)]) dX6_comes_5 rfl (Nat.le_of_ble_eq_true rfl) rfl ?_ | refine ww_astore_nQ (i := 3) (lv2 := [(0, _), (1, _), (2, _), (3, _)]) dX6_comes_5 rfl (Nat.le_of_ble_eq_true rfl) rfl ?_
    refine ww_iload_n (i := 2) dX6_comes_6 rfl rfl ?_
    refine ww_iconst (v := 0) dX6_comes_7 (by decide) ?_
    refine ww_bipush (v := 99) dX6_comes_8 (by decide) ?_
    refine ww_callS wk_X6_41 rfl dX6_comes_10 (c_out_t hv) rfl rfl (by omega) (by omega) (by omega) (by first | exact Nat.le_of_ble_eq_true rfl | (simp [ww_rf_cat, Value.category])) rfl (fun E M9 h9 => h9.elim) (fun v9 M9 h9 => ?_)
    obtain ⟨rfl, rfl⟩ := h9
    refine ww_if_eq_f (tgt := 27) dX6_comes_13 (by decide) (by decide) ?_
    exact ww_throwW wx_X6_45_261 dX6_comes_16 dX6_comes_19 dX6_comes_20 dX6_comes_23 dX6_comes_26 rfl (Nat.le_of_ble_eq_true rfl) (by omega) (by omega) (by first | exact Nat.le_of_ble_eq_true rfl | (simp [ww_rf_cat, Value.category])) ⟨rfl, rfl⟩
  · refine ww_aload_n (i := 0) dX6_comes_0 rfl rfl ?_
    refine ww_iload_n (i := 1) dX6_comes_1 rfl rfl ?_
    refine ww_callV (κ := 7) (r := (RX6, TX6, 4)) wk_X6_160 dX6_comes_2 (c_existingTrain_2 hw hr.1.2.1.1 hp hk) rfl rfl (show ww_is _ _ 7 from hw.1).1 (show ww_is _ _ 7 from hw.1).2 rfl rfl (by omega) (by omega) (by omega) (by first | exact Nat.le_of_ble_eq_true rfl | (simp [ww_rf_cat, Value.category])) rfl (fun E M9 h9 => h9) (fun v9 M9 h9 => ?_)
    exact h9.elim
    -- at 5, locals [0, 1, 2]
theorem q_taken (hr : ww_rc g M c ea P W kl f z D E n u w m S) (hW : q_W S n w) : q_any (fun j => ww_I M 177 (P (q_wq S j)) = v) w ↔ ∃ j, j < w ∧ S 28 (q_wq S j) = v := by
  have e : ∀ j, j < w → ww_I M 177 (P (q_wq S j)) = S 28 (q_wq S j) := fun j hj => (hr.1.2.1.1.1 _ (hW.2.2 j hj).1).2.2.2.2.2.1.2.2.2.2.2.2.2.2
  exact ⟨fun ⟨j, h1, h2⟩ => ⟨j, h1, (e j h1).symm.trans h2⟩, fun ⟨j, h1, h2⟩ => ⟨j, h1, (e j h1).trans h2⟩⟩
theorem q_bound0 (hG : q_G S n) {p : Nat} (hp : p < n) (hk : S 2 p = 0) : q_bound S p ↔ S 12 p = 1 := by
  unfold q_bound
  rw [q_hd_neg (q_top hG hp hk)]
set_option maxRecDepth 20000 in
set_option maxHeartbeats 8000000 in
theorem c_comes_3 (hr : ww_rc g M c ea P W kl f z D E n u w m S) (hG : q_G S n) (hW : q_W S n w) {p : Nat} (hp : p < n) (hk : S 2 p = 0) (hv : q_rg 0 99 v) (hd : ¬ q_comesC S w p v) : ww_C g wy_X6_comes 9 1 6 [.ref (c 0), .int (nI p), .int v] M ww_nr (ww_th "java/lang/IllegalStateException" M) := by
  refine ww_ent (by decide +kernel) (Nat.le_of_ble_eq_true rfl) ⟨rfl, rfl, rfl, trivial⟩ ?_
  have hw := ww_cp_wo hr.1
  have hf := hr.1.2.1.1
  have hy := hr.2.2.1.1.2.1
  have hls := hr.2.2.1.1.2.2.2.2.2.2.2
  have hwl := hls.1
  have h8 := hW.2.1
  obtain ⟨⟨ht4, _⟩, _, _, _, k167, _⟩ := hf.1 p hp
  by_cases c1 : w < 8
  · have htk := c_isTaken (g := g) (v := v) hr.2.2.1.1.2
    by_cases c2 : ∃ j, j < w ∧ S 28 (q_wq S j) = v
    · rw [ww_b_t ((q_taken hr hW).mpr c2)] at htk
      refine ww_aload_n (i := 0) dX6_comes_0 rfl rfl ?_
      refine ww_iload_n (i := 1) dX6_comes_1 rfl rfl ?_
      refine ww_callV (κ := 7) (r := (RX6, TX6, 4)) wk_X6_160 dX6_comes_2 (c_existingTrain hw hf hp hk) rfl rfl (show ww_is _ _ 7 from hw.1).1 (show ww_is _ _ 7 from hw.1).2 rfl rfl (by omega) (by omega) (by omega) (by first | exact Nat.le_of_ble_eq_true rfl | (simp [ww_rf_cat, Value.category])) rfl (fun E M9 h9 => h9.elim) (fun v9 M9 h9 => ?_)
      obtain ⟨rfl, rfl⟩ := h9
      first | refine ww_astore_n (i := 3) (lv2 := [(0, _), (1, _), (2, _), (3, _)]) dX6_comes_5 rfl (Nat.le_of_ble_eq_true rfl) rfl ?_ | refine ww_astore_nQ (i := 3) (lv2 := [(0, _), (1, _), (2, _), (3, _)]) dX6_comes_5 rfl (Nat.le_of_ble_eq_true rfl) rfl ?_
      refine ww_iload_n (i := 2) dX6_comes_6 rfl rfl ?_
      refine ww_iconst (v := 0) dX6_comes_7 (by decide) ?_
      refine ww_bipush (v := 99) dX6_comes_8 (by decide) ?_
      refine ww_callS wk_X6_41 rfl dX6_comes_10 (c_out_f hv) rfl rfl (by omega) (by omega) (by omega) (by first | exact Nat.le_of_ble_eq_true rfl | (simp [ww_rf_cat, Value.category])) rfl (fun E M9 h9 => h9.elim) (fun v9 M9 h9 => ?_)
      obtain ⟨rfl, rfl⟩ := h9
      refine ww_if_eq_t (tgt := 27) dX6_comes_13 (by decide) (by decide) ?_
      refine ww_aload_n (i := 0) dX6_comes_27 rfl rfl ?_
      refine ww_getR (f := 283) wf_X6_32 dX6_comes_28 rfl rfl (show ww_is _ _ 7 from hw.1).1 (show ww_is _ _ 7 from hw.1).2 hr.2.2.1.1.1 ?_
      refine ww_getR (f := 240) wf_X6_263 dX6_comes_31 rfl rfl (show ww_is _ _ 6 from hy).1 (show ww_is _ _ 6 from hy).2 hr.2.2.1.1.2.2.1 ?_
      refine ww_callV (κ := 0) (r := (RJx4a65c, TJx4a65c, 3)) wk_X6_52 dX6_comes_34 (l_size hls) rfl rfl (show ww_is _ _ 0 from hwl).1 (show ww_is _ _ 0 from hwl).2 rfl rfl (by omega) (by omega) (by omega) (by first | exact Nat.le_of_ble_eq_true rfl | (simp [ww_rf_cat, Value.category])) rfl (fun E M9 h9 => h9.elim) (fun v9 M9 h9 => ?_)
      obtain ⟨rfl, rfl⟩ := h9
      refine ww_bipush (v := 8) dX6_comes_37 (by decide) ?_
      refine ww_icmp_ge_f (tgt := 64) dX6_comes_39 (by decide) (nI_ge (b := 8) c1 (by decide)) ?_
      refine ww_aload_n (i := 0) dX6_comes_42 rfl rfl ?_
      refine ww_getR (f := 283) wf_X6_32 dX6_comes_43 rfl rfl (show ww_is _ _ 7 from hw.1).1 (show ww_is _ _ 7 from hw.1).2 hr.2.2.1.1.1 ?_
      refine ww_iload_n (i := 2) dX6_comes_46 rfl rfl ?_
      refine ww_callV (κ := 6) (r := (RX5, TX5, 5)) wk_X6_266 dX6_comes_47 (htk) rfl rfl (show ww_is _ _ 6 from hy).1 (show ww_is _ _ 6 from hy).2 rfl rfl (by omega) (by omega) (by omega) (by first | exact Nat.le_of_ble_eq_true rfl | (simp [ww_rf_cat, Value.category])) rfl (fun E M9 h9 => h9.elim) (fun v9 M9 h9 => ?_)
      obtain ⟨rfl, rfl⟩ := h9
      refine ww_if_ne_t (tgt := 64) dX6_comes_50 (by decide) (by decide) ?_
      exact ww_throwW wx_X6_56_270 dX6_comes_64 dX6_comes_67 dX6_comes_68 dX6_comes_71 dX6_comes_74 rfl (Nat.le_of_ble_eq_true rfl) (by omega) (by omega) (by first | exact Nat.le_of_ble_eq_true rfl | (simp [ww_rf_cat, Value.category])) ⟨rfl, rfl⟩
    · rw [ww_b_f (fun y => c2 ((q_taken hr hW).mp y))] at htk
      by_cases c3 : q_wait S w (nI p)
      · refine ww_aload_n (i := 0) dX6_comes_0 rfl rfl ?_
        refine ww_iload_n (i := 1) dX6_comes_1 rfl rfl ?_
        refine ww_callV (κ := 7) (r := (RX6, TX6, 4)) wk_X6_160 dX6_comes_2 (c_existingTrain hw hf hp hk) rfl rfl (show ww_is _ _ 7 from hw.1).1 (show ww_is _ _ 7 from hw.1).2 rfl rfl (by omega) (by omega) (by omega) (by first | exact Nat.le_of_ble_eq_true rfl | (simp [ww_rf_cat, Value.category])) rfl (fun E M9 h9 => h9.elim) (fun v9 M9 h9 => ?_)
        obtain ⟨rfl, rfl⟩ := h9
        first | refine ww_astore_n (i := 3) (lv2 := [(0, _), (1, _), (2, _), (3, _)]) dX6_comes_5 rfl (Nat.le_of_ble_eq_true rfl) rfl ?_ | refine ww_astore_nQ (i := 3) (lv2 := [(0, _), (1, _), (2, _), (3, _)]) dX6_comes_5 rfl (Nat.le_of_ble_eq_true rfl) rfl ?_
        refine ww_iload_n (i := 2) dX6_comes_6 rfl rfl ?_
        refine ww_iconst (v := 0) dX6_comes_7 (by decide) ?_
        refine ww_bipush (v := 99) dX6_comes_8 (by decide) ?_
        refine ww_callS wk_X6_41 rfl dX6_comes_10 (c_out_f hv) rfl rfl (by omega) (by omega) (by omega) (by first | exact Nat.le_of_ble_eq_true rfl | (simp [ww_rf_cat, Value.category])) rfl (fun E M9 h9 => h9.elim) (fun v9 M9 h9 => ?_)
        obtain ⟨rfl, rfl⟩ := h9
        refine ww_if_eq_t (tgt := 27) dX6_comes_13 (by decide) (by decide) ?_
        refine ww_aload_n (i := 0) dX6_comes_27 rfl rfl ?_
        refine ww_getR (f := 283) wf_X6_32 dX6_comes_28 rfl rfl (show ww_is _ _ 7 from hw.1).1 (show ww_is _ _ 7 from hw.1).2 hr.2.2.1.1.1 ?_
        refine ww_getR (f := 240) wf_X6_263 dX6_comes_31 rfl rfl (show ww_is _ _ 6 from hy).1 (show ww_is _ _ 6 from hy).2 hr.2.2.1.1.2.2.1 ?_
        refine ww_callV (κ := 0) (r := (RJx4a65c, TJx4a65c, 3)) wk_X6_52 dX6_comes_34 (l_size hls) rfl rfl (show ww_is _ _ 0 from hwl).1 (show ww_is _ _ 0 from hwl).2 rfl rfl (by omega) (by omega) (by omega) (by first | exact Nat.le_of_ble_eq_true rfl | (simp [ww_rf_cat, Value.category])) rfl (fun E M9 h9 => h9.elim) (fun v9 M9 h9 => ?_)
        obtain ⟨rfl, rfl⟩ := h9
        refine ww_bipush (v := 8) dX6_comes_37 (by decide) ?_
        refine ww_icmp_ge_f (tgt := 64) dX6_comes_39 (by decide) (nI_ge (b := 8) c1 (by decide)) ?_
        refine ww_aload_n (i := 0) dX6_comes_42 rfl rfl ?_
        refine ww_getR (f := 283) wf_X6_32 dX6_comes_43 rfl rfl (show ww_is _ _ 7 from hw.1).1 (show ww_is _ _ 7 from hw.1).2 hr.2.2.1.1.1 ?_
        refine ww_iload_n (i := 2) dX6_comes_46 rfl rfl ?_
        refine ww_callV (κ := 6) (r := (RX5, TX5, 5)) wk_X6_266 dX6_comes_47 (htk) rfl rfl (show ww_is _ _ 6 from hy).1 (show ww_is _ _ 6 from hy).2 rfl rfl (by omega) (by omega) (by omega) (by first | exact Nat.le_of_ble_eq_true rfl | (simp [ww_rf_cat, Value.category])) rfl (fun E M9 h9 => h9.elim) (fun v9 M9 h9 => ?_)
        obtain ⟨rfl, rfl⟩ := h9
        refine ww_if_ne_f (tgt := 64) dX6_comes_50 (by decide) (by decide) ?_
        refine ww_aload_n (i := 0) dX6_comes_53 rfl rfl ?_
        refine ww_getR (f := 283) wf_X6_32 dX6_comes_54 rfl rfl (show ww_is _ _ 7 from hw.1).1 (show ww_is _ _ 7 from hw.1).2 hr.2.2.1.1.1 ?_
        refine ww_aload_n (i := 3) dX6_comes_57 rfl rfl ?_
        refine ww_callV (κ := 6) (r := (RX5, TX5, 5)) wk_X6_154 dX6_comes_58 (p_wait_t hr hW hp c3) rfl rfl (show ww_is _ _ 6 from hy).1 (show ww_is _ _ 6 from hy).2 rfl rfl (by omega) (by omega) (by omega) (by first | exact Nat.le_of_ble_eq_true rfl | (simp [ww_rf_cat, Value.category])) rfl (fun E M9 h9 => h9.elim) (fun v9 M9 h9 => ?_)
        obtain ⟨rfl, rfl⟩ := h9
        refine ww_if_eq_f (tgt := 75) dX6_comes_61 (by decide) (by decide) ?_
        exact ww_throwW wx_X6_56_270 dX6_comes_64 dX6_comes_67 dX6_comes_68 dX6_comes_71 dX6_comes_74 rfl (Nat.le_of_ble_eq_true rfl) (by omega) (by omega) (by first | exact Nat.le_of_ble_eq_true rfl | (simp [ww_rf_cat, Value.category])) ⟨rfl, rfl⟩
      · by_cases c4 : q_bound S p
        · refine ww_aload_n (i := 0) dX6_comes_0 rfl rfl ?_
          refine ww_iload_n (i := 1) dX6_comes_1 rfl rfl ?_
          refine ww_callV (κ := 7) (r := (RX6, TX6, 4)) wk_X6_160 dX6_comes_2 (c_existingTrain hw hf hp hk) rfl rfl (show ww_is _ _ 7 from hw.1).1 (show ww_is _ _ 7 from hw.1).2 rfl rfl (by omega) (by omega) (by omega) (by first | exact Nat.le_of_ble_eq_true rfl | (simp [ww_rf_cat, Value.category])) rfl (fun E M9 h9 => h9.elim) (fun v9 M9 h9 => ?_)
          obtain ⟨rfl, rfl⟩ := h9
          first | refine ww_astore_n (i := 3) (lv2 := [(0, _), (1, _), (2, _), (3, _)]) dX6_comes_5 rfl (Nat.le_of_ble_eq_true rfl) rfl ?_ | refine ww_astore_nQ (i := 3) (lv2 := [(0, _), (1, _), (2, _), (3, _)]) dX6_comes_5 rfl (Nat.le_of_ble_eq_true rfl) rfl ?_
          refine ww_iload_n (i := 2) dX6_comes_6 rfl rfl ?_
          refine ww_iconst (v := 0) dX6_comes_7 (by decide) ?_
          refine ww_bipush (v := 99) dX6_comes_8 (by decide) ?_
          refine ww_callS wk_X6_41 rfl dX6_comes_10 (c_out_f hv) rfl rfl (by omega) (by omega) (by omega) (by first | exact Nat.le_of_ble_eq_true rfl | (simp [ww_rf_cat, Value.category])) rfl (fun E M9 h9 => h9.elim) (fun v9 M9 h9 => ?_)
          obtain ⟨rfl, rfl⟩ := h9
          refine ww_if_eq_t (tgt := 27) dX6_comes_13 (by decide) (by decide) ?_
          refine ww_aload_n (i := 0) dX6_comes_27 rfl rfl ?_
          refine ww_getR (f := 283) wf_X6_32 dX6_comes_28 rfl rfl (show ww_is _ _ 7 from hw.1).1 (show ww_is _ _ 7 from hw.1).2 hr.2.2.1.1.1 ?_
          refine ww_getR (f := 240) wf_X6_263 dX6_comes_31 rfl rfl (show ww_is _ _ 6 from hy).1 (show ww_is _ _ 6 from hy).2 hr.2.2.1.1.2.2.1 ?_
          refine ww_callV (κ := 0) (r := (RJx4a65c, TJx4a65c, 3)) wk_X6_52 dX6_comes_34 (l_size hls) rfl rfl (show ww_is _ _ 0 from hwl).1 (show ww_is _ _ 0 from hwl).2 rfl rfl (by omega) (by omega) (by omega) (by first | exact Nat.le_of_ble_eq_true rfl | (simp [ww_rf_cat, Value.category])) rfl (fun E M9 h9 => h9.elim) (fun v9 M9 h9 => ?_)
          obtain ⟨rfl, rfl⟩ := h9
          refine ww_bipush (v := 8) dX6_comes_37 (by decide) ?_
          refine ww_icmp_ge_f (tgt := 64) dX6_comes_39 (by decide) (nI_ge (b := 8) c1 (by decide)) ?_
          refine ww_aload_n (i := 0) dX6_comes_42 rfl rfl ?_
          refine ww_getR (f := 283) wf_X6_32 dX6_comes_43 rfl rfl (show ww_is _ _ 7 from hw.1).1 (show ww_is _ _ 7 from hw.1).2 hr.2.2.1.1.1 ?_
          refine ww_iload_n (i := 2) dX6_comes_46 rfl rfl ?_
          refine ww_callV (κ := 6) (r := (RX5, TX5, 5)) wk_X6_266 dX6_comes_47 (htk) rfl rfl (show ww_is _ _ 6 from hy).1 (show ww_is _ _ 6 from hy).2 rfl rfl (by omega) (by omega) (by omega) (by first | exact Nat.le_of_ble_eq_true rfl | (simp [ww_rf_cat, Value.category])) rfl (fun E M9 h9 => h9.elim) (fun v9 M9 h9 => ?_)
          obtain ⟨rfl, rfl⟩ := h9
          refine ww_if_ne_f (tgt := 64) dX6_comes_50 (by decide) (by decide) ?_
          refine ww_aload_n (i := 0) dX6_comes_53 rfl rfl ?_
          refine ww_getR (f := 283) wf_X6_32 dX6_comes_54 rfl rfl (show ww_is _ _ 7 from hw.1).1 (show ww_is _ _ 7 from hw.1).2 hr.2.2.1.1.1 ?_
          refine ww_aload_n (i := 3) dX6_comes_57 rfl rfl ?_
          refine ww_callV (κ := 6) (r := (RX5, TX5, 5)) wk_X6_154 dX6_comes_58 (p_wait_f hr hW hp c3) rfl rfl (show ww_is _ _ 6 from hy).1 (show ww_is _ _ 6 from hy).2 rfl rfl (by omega) (by omega) (by omega) (by first | exact Nat.le_of_ble_eq_true rfl | (simp [ww_rf_cat, Value.category])) rfl (fun E M9 h9 => h9.elim) (fun v9 M9 h9 => ?_)
          obtain ⟨rfl, rfl⟩ := h9
          refine ww_if_eq_t (tgt := 75) dX6_comes_61 (by decide) (by decide) ?_
          refine ww_aload_n (i := 3) dX6_comes_75 rfl rfl ?_
          refine ww_callV (κ := 4) (r := (RX3, TX3, 18)) wk_X6_109 dX6_comes_76 (p_bound_t hf hG hp c4) rfl rfl (show ww_is _ _ 4 from ht4).1 (show ww_is _ _ 4 from ht4).2 rfl rfl (by omega) (by omega) (by omega) (by first | exact Nat.le_of_ble_eq_true rfl | (simp [ww_rf_cat, Value.category])) rfl (fun E M9 h9 => h9.elim) (fun v9 M9 h9 => ?_)
          obtain ⟨rfl, rfl⟩ := h9
          refine ww_if_ne_t (tgt := 89) dX6_comes_79 (by decide) (by decide) ?_
          exact ww_throwW wx_X6_56_272 dX6_comes_89 dX6_comes_92 dX6_comes_93 dX6_comes_96 dX6_comes_99 rfl (Nat.le_of_ble_eq_true rfl) (by omega) (by omega) (by first | exact Nat.le_of_ble_eq_true rfl | (simp [ww_rf_cat, Value.category])) ⟨rfl, rfl⟩
        · have c12 : S 12 p = 0 := (hG.2.2.2.2.2.2.1 p).resolve_right (fun y => c4 ((q_bound0 hG hp hk).mpr y))
          have c5 : S 5 p = -2 := Classical.not_not.mp fun y => hd ⟨⟨c1, c3, c12, y⟩, fun j hj e => c2 ⟨j, hj, e⟩⟩
          rw [if_pos c5] at k167
          refine ww_aload_n (i := 0) dX6_comes_0 rfl rfl ?_
          refine ww_iload_n (i := 1) dX6_comes_1 rfl rfl ?_
          refine ww_callV (κ := 7) (r := (RX6, TX6, 4)) wk_X6_160 dX6_comes_2 (c_existingTrain hw hf hp hk) rfl rfl (show ww_is _ _ 7 from hw.1).1 (show ww_is _ _ 7 from hw.1).2 rfl rfl (by omega) (by omega) (by omega) (by first | exact Nat.le_of_ble_eq_true rfl | (simp [ww_rf_cat, Value.category])) rfl (fun E M9 h9 => h9.elim) (fun v9 M9 h9 => ?_)
          obtain ⟨rfl, rfl⟩ := h9
          first | refine ww_astore_n (i := 3) (lv2 := [(0, _), (1, _), (2, _), (3, _)]) dX6_comes_5 rfl (Nat.le_of_ble_eq_true rfl) rfl ?_ | refine ww_astore_nQ (i := 3) (lv2 := [(0, _), (1, _), (2, _), (3, _)]) dX6_comes_5 rfl (Nat.le_of_ble_eq_true rfl) rfl ?_
          refine ww_iload_n (i := 2) dX6_comes_6 rfl rfl ?_
          refine ww_iconst (v := 0) dX6_comes_7 (by decide) ?_
          refine ww_bipush (v := 99) dX6_comes_8 (by decide) ?_
          refine ww_callS wk_X6_41 rfl dX6_comes_10 (c_out_f hv) rfl rfl (by omega) (by omega) (by omega) (by first | exact Nat.le_of_ble_eq_true rfl | (simp [ww_rf_cat, Value.category])) rfl (fun E M9 h9 => h9.elim) (fun v9 M9 h9 => ?_)
          obtain ⟨rfl, rfl⟩ := h9
          refine ww_if_eq_t (tgt := 27) dX6_comes_13 (by decide) (by decide) ?_
          refine ww_aload_n (i := 0) dX6_comes_27 rfl rfl ?_
          refine ww_getR (f := 283) wf_X6_32 dX6_comes_28 rfl rfl (show ww_is _ _ 7 from hw.1).1 (show ww_is _ _ 7 from hw.1).2 hr.2.2.1.1.1 ?_
          refine ww_getR (f := 240) wf_X6_263 dX6_comes_31 rfl rfl (show ww_is _ _ 6 from hy).1 (show ww_is _ _ 6 from hy).2 hr.2.2.1.1.2.2.1 ?_
          refine ww_callV (κ := 0) (r := (RJx4a65c, TJx4a65c, 3)) wk_X6_52 dX6_comes_34 (l_size hls) rfl rfl (show ww_is _ _ 0 from hwl).1 (show ww_is _ _ 0 from hwl).2 rfl rfl (by omega) (by omega) (by omega) (by first | exact Nat.le_of_ble_eq_true rfl | (simp [ww_rf_cat, Value.category])) rfl (fun E M9 h9 => h9.elim) (fun v9 M9 h9 => ?_)
          obtain ⟨rfl, rfl⟩ := h9
          refine ww_bipush (v := 8) dX6_comes_37 (by decide) ?_
          refine ww_icmp_ge_f (tgt := 64) dX6_comes_39 (by decide) (nI_ge (b := 8) c1 (by decide)) ?_
          refine ww_aload_n (i := 0) dX6_comes_42 rfl rfl ?_
          refine ww_getR (f := 283) wf_X6_32 dX6_comes_43 rfl rfl (show ww_is _ _ 7 from hw.1).1 (show ww_is _ _ 7 from hw.1).2 hr.2.2.1.1.1 ?_
          refine ww_iload_n (i := 2) dX6_comes_46 rfl rfl ?_
          refine ww_callV (κ := 6) (r := (RX5, TX5, 5)) wk_X6_266 dX6_comes_47 (htk) rfl rfl (show ww_is _ _ 6 from hy).1 (show ww_is _ _ 6 from hy).2 rfl rfl (by omega) (by omega) (by omega) (by first | exact Nat.le_of_ble_eq_true rfl | (simp [ww_rf_cat, Value.category])) rfl (fun E M9 h9 => h9.elim) (fun v9 M9 h9 => ?_)
          obtain ⟨rfl, rfl⟩ := h9
          refine ww_if_ne_f (tgt := 64) dX6_comes_50 (by decide) (by decide) ?_
          refine ww_aload_n (i := 0) dX6_comes_53 rfl rfl ?_
          refine ww_getR (f := 283) wf_X6_32 dX6_comes_54 rfl rfl (show ww_is _ _ 7 from hw.1).1 (show ww_is _ _ 7 from hw.1).2 hr.2.2.1.1.1 ?_
          refine ww_aload_n (i := 3) dX6_comes_57 rfl rfl ?_
          refine ww_callV (κ := 6) (r := (RX5, TX5, 5)) wk_X6_154 dX6_comes_58 (p_wait_f hr hW hp c3) rfl rfl (show ww_is _ _ 6 from hy).1 (show ww_is _ _ 6 from hy).2 rfl rfl (by omega) (by omega) (by omega) (by first | exact Nat.le_of_ble_eq_true rfl | (simp [ww_rf_cat, Value.category])) rfl (fun E M9 h9 => h9.elim) (fun v9 M9 h9 => ?_)
          obtain ⟨rfl, rfl⟩ := h9
          refine ww_if_eq_t (tgt := 75) dX6_comes_61 (by decide) (by decide) ?_
          refine ww_aload_n (i := 3) dX6_comes_75 rfl rfl ?_
          refine ww_callV (κ := 4) (r := (RX3, TX3, 18)) wk_X6_109 dX6_comes_76 (p_bound_f hf hG hp c4) rfl rfl (show ww_is _ _ 4 from ht4).1 (show ww_is _ _ 4 from ht4).2 rfl rfl (by omega) (by omega) (by omega) (by first | exact Nat.le_of_ble_eq_true rfl | (simp [ww_rf_cat, Value.category])) rfl (fun E M9 h9 => h9.elim) (fun v9 M9 h9 => ?_)
          obtain ⟨rfl, rfl⟩ := h9
          refine ww_if_ne_f (tgt := 89) dX6_comes_79 (by decide) (by decide) ?_
          refine ww_aload_n (i := 3) dX6_comes_82 rfl rfl ?_
          refine ww_getI (f := 167) wf_X6_106 dX6_comes_83 rfl rfl (show ww_is _ _ 4 from ht4).1 (show ww_is _ _ 4 from ht4).2 ?_
          refine ww_if_eq_f (tgt := 100) dX6_comes_86 (by decide) (by rw [k167]; decide) ?_
          exact ww_throwW wx_X6_56_272 dX6_comes_89 dX6_comes_92 dX6_comes_93 dX6_comes_96 dX6_comes_99 rfl (Nat.le_of_ble_eq_true rfl) (by omega) (by omega) (by first | exact Nat.le_of_ble_eq_true rfl | (simp [ww_rf_cat, Value.category])) ⟨rfl, rfl⟩
  · refine ww_aload_n (i := 0) dX6_comes_0 rfl rfl ?_
    refine ww_iload_n (i := 1) dX6_comes_1 rfl rfl ?_
    refine ww_callV (κ := 7) (r := (RX6, TX6, 4)) wk_X6_160 dX6_comes_2 (c_existingTrain hw hf hp hk) rfl rfl (show ww_is _ _ 7 from hw.1).1 (show ww_is _ _ 7 from hw.1).2 rfl rfl (by omega) (by omega) (by omega) (by first | exact Nat.le_of_ble_eq_true rfl | (simp [ww_rf_cat, Value.category])) rfl (fun E M9 h9 => h9.elim) (fun v9 M9 h9 => ?_)
    obtain ⟨rfl, rfl⟩ := h9
    first | refine ww_astore_n (i := 3) (lv2 := [(0, _), (1, _), (2, _), (3, _)]) dX6_comes_5 rfl (Nat.le_of_ble_eq_true rfl) rfl ?_ | refine ww_astore_nQ (i := 3) (lv2 := [(0, _), (1, _), (2, _), (3, _)]) dX6_comes_5 rfl (Nat.le_of_ble_eq_true rfl) rfl ?_
    refine ww_iload_n (i := 2) dX6_comes_6 rfl rfl ?_
    refine ww_iconst (v := 0) dX6_comes_7 (by decide) ?_
    refine ww_bipush (v := 99) dX6_comes_8 (by decide) ?_
    refine ww_callS wk_X6_41 rfl dX6_comes_10 (c_out_f hv) rfl rfl (by omega) (by omega) (by omega) (by first | exact Nat.le_of_ble_eq_true rfl | (simp [ww_rf_cat, Value.category])) rfl (fun E M9 h9 => h9.elim) (fun v9 M9 h9 => ?_)
    obtain ⟨rfl, rfl⟩ := h9
    refine ww_if_eq_t (tgt := 27) dX6_comes_13 (by decide) (by decide) ?_
    refine ww_aload_n (i := 0) dX6_comes_27 rfl rfl ?_
    refine ww_getR (f := 283) wf_X6_32 dX6_comes_28 rfl rfl (show ww_is _ _ 7 from hw.1).1 (show ww_is _ _ 7 from hw.1).2 hr.2.2.1.1.1 ?_
    refine ww_getR (f := 240) wf_X6_263 dX6_comes_31 rfl rfl (show ww_is _ _ 6 from hy).1 (show ww_is _ _ 6 from hy).2 hr.2.2.1.1.2.2.1 ?_
    refine ww_callV (κ := 0) (r := (RJx4a65c, TJx4a65c, 3)) wk_X6_52 dX6_comes_34 (l_size hls) rfl rfl (show ww_is _ _ 0 from hwl).1 (show ww_is _ _ 0 from hwl).2 rfl rfl (by omega) (by omega) (by omega) (by first | exact Nat.le_of_ble_eq_true rfl | (simp [ww_rf_cat, Value.category])) rfl (fun E M9 h9 => h9.elim) (fun v9 M9 h9 => ?_)
    obtain ⟨rfl, rfl⟩ := h9
    refine ww_bipush (v := 8) dX6_comes_37 (by decide) ?_
    refine ww_icmp_ge_t (tgt := 64) dX6_comes_39 (by decide) (nI_le (a := 8) (by omega) (by omega)) ?_
    exact ww_throwW wx_X6_56_270 dX6_comes_64 dX6_comes_67 dX6_comes_68 dX6_comes_71 dX6_comes_74 rfl (Nat.le_of_ble_eq_true rfl) (by omega) (by omega) (by first | exact Nat.le_of_ble_eq_true rfl | (simp [ww_rf_cat, Value.category])) ⟨rfl, rfl⟩
set_option maxRecDepth 20000 in
set_option maxHeartbeats 8000000 in
theorem c_comes_0 (hr : ww_rc g M c ea P W kl f z D E n u w m S) (hG : q_G S n) (hW : q_W S n w) {p : Nat} (hp : p < n) (hk : S 2 p = 0) (hv : q_rg 0 99 v) (hd : q_comesC S w p v) : ww_C g wy_X6_comes 9 1 1037 [.ref (c 0), .int (nI p), .int v] M (ww_wQ g M c P W kl f z D E n u (w + 1) m (some (.int (nI (w + 1)))) (q_comes (q_us S 0 0) w p v)) ww_no := by
  refine ww_ent (by decide +kernel) (Nat.le_of_ble_eq_true rfl) ⟨rfl, rfl, rfl, trivial⟩ ?_
  have hw := ww_cp_wo hr.1
  have hf := hr.1.2.1.1
  have hy := hr.2.2.1.1.2.1
  have hls := hr.2.2.1.1.2.2.2.2.2.2.2
  have hwl := hls.1
  have h8 := hW.2.1
  obtain ⟨⟨c1, c3, c12, c5⟩, c2⟩ := hd
  obtain ⟨⟨ht4, _⟩, _, _, _, k167, _⟩ := hf.1 p hp
  have htk := c_isTaken (g := g) (v := v) hr.2.2.1.1.2
  rw [ww_b_f (fun y => by obtain ⟨j, h1, h2⟩ := (q_taken hr hW).mp y; exact c2 j h1 h2)] at htk
  have c4 : ¬ q_bound S p := fun y => by rw [q_bound0 hG hp hk, c12] at y; exact absurd y (by decide)
  rw [if_neg c5] at k167
  have hkp : ww_kp M (ww_sI M 177 (P p) v) := ww_kp_I ww_kp_rf (by decide)
  obtain ⟨hr1, hck1⟩ := ww_kp_rc hr hkp (ww_pf_177 (v := v) hf hp) rfl rfl
  have hls1 := hr1.2.2.1.1.2.2.2.2.2.2.2
  have hx1 : ww_is (ww_sI M 177 (P p) v).1 (c 0) 7 := hr1.1.1.1
  have hadd := j_add (g := g) (b := P p) hls1 (by omega) ⟨ht4.1, ht4.2⟩ (r := (RX3, TX3, 18)) rfl (by decide)
  refine ww_aload_n (i := 0) dX6_comes_0 rfl rfl ?_
  refine ww_iload_n (i := 1) dX6_comes_1 rfl rfl ?_
  refine ww_callV (κ := 7) (r := (RX6, TX6, 4)) wk_X6_160 dX6_comes_2 (c_existingTrain hw hf hp hk) rfl rfl (show ww_is _ _ 7 from hw.1).1 (show ww_is _ _ 7 from hw.1).2 rfl rfl (by omega) (by omega) (by omega) (by first | exact Nat.le_of_ble_eq_true rfl | (simp [ww_rf_cat, Value.category])) rfl (fun E M9 h9 => h9.elim) (fun v9 M9 h9 => ?_)
  obtain ⟨rfl, rfl⟩ := h9
  first | refine ww_astore_n (i := 3) (lv2 := [(0, _), (1, _), (2, _), (3, _)]) dX6_comes_5 rfl (Nat.le_of_ble_eq_true rfl) rfl ?_ | refine ww_astore_nQ (i := 3) (lv2 := [(0, _), (1, _), (2, _), (3, _)]) dX6_comes_5 rfl (Nat.le_of_ble_eq_true rfl) rfl ?_
  refine ww_iload_n (i := 2) dX6_comes_6 rfl rfl ?_
  refine ww_iconst (v := 0) dX6_comes_7 (by decide) ?_
  refine ww_bipush (v := 99) dX6_comes_8 (by decide) ?_
  refine ww_callS wk_X6_41 rfl dX6_comes_10 (c_out_f hv) rfl rfl (by omega) (by omega) (by omega) (by first | exact Nat.le_of_ble_eq_true rfl | (simp [ww_rf_cat, Value.category])) rfl (fun E M9 h9 => h9.elim) (fun v9 M9 h9 => ?_)
  obtain ⟨rfl, rfl⟩ := h9
  refine ww_if_eq_t (tgt := 27) dX6_comes_13 (by decide) (by decide) ?_
  refine ww_aload_n (i := 0) dX6_comes_27 rfl rfl ?_
  refine ww_getR (f := 283) wf_X6_32 dX6_comes_28 rfl rfl (show ww_is _ _ 7 from hw.1).1 (show ww_is _ _ 7 from hw.1).2 hr.2.2.1.1.1 ?_
  refine ww_getR (f := 240) wf_X6_263 dX6_comes_31 rfl rfl (show ww_is _ _ 6 from hy).1 (show ww_is _ _ 6 from hy).2 hr.2.2.1.1.2.2.1 ?_
  refine ww_callV (κ := 0) (r := (RJx4a65c, TJx4a65c, 3)) wk_X6_52 dX6_comes_34 (l_size hls) rfl rfl (show ww_is _ _ 0 from hwl).1 (show ww_is _ _ 0 from hwl).2 rfl rfl (by omega) (by omega) (by omega) (by first | exact Nat.le_of_ble_eq_true rfl | (simp [ww_rf_cat, Value.category])) rfl (fun E M9 h9 => h9.elim) (fun v9 M9 h9 => ?_)
  obtain ⟨rfl, rfl⟩ := h9
  refine ww_bipush (v := 8) dX6_comes_37 (by decide) ?_
  refine ww_icmp_ge_f (tgt := 64) dX6_comes_39 (by decide) (nI_ge (b := 8) c1 (by decide)) ?_
  refine ww_aload_n (i := 0) dX6_comes_42 rfl rfl ?_
  refine ww_getR (f := 283) wf_X6_32 dX6_comes_43 rfl rfl (show ww_is _ _ 7 from hw.1).1 (show ww_is _ _ 7 from hw.1).2 hr.2.2.1.1.1 ?_
  refine ww_iload_n (i := 2) dX6_comes_46 rfl rfl ?_
  refine ww_callV (κ := 6) (r := (RX5, TX5, 5)) wk_X6_266 dX6_comes_47 (htk) rfl rfl (show ww_is _ _ 6 from hy).1 (show ww_is _ _ 6 from hy).2 rfl rfl (by omega) (by omega) (by omega) (by first | exact Nat.le_of_ble_eq_true rfl | (simp [ww_rf_cat, Value.category])) rfl (fun E M9 h9 => h9.elim) (fun v9 M9 h9 => ?_)
  obtain ⟨rfl, rfl⟩ := h9
  refine ww_if_ne_f (tgt := 64) dX6_comes_50 (by decide) (by decide) ?_
  refine ww_aload_n (i := 0) dX6_comes_53 rfl rfl ?_
  refine ww_getR (f := 283) wf_X6_32 dX6_comes_54 rfl rfl (show ww_is _ _ 7 from hw.1).1 (show ww_is _ _ 7 from hw.1).2 hr.2.2.1.1.1 ?_
  refine ww_aload_n (i := 3) dX6_comes_57 rfl rfl ?_
  refine ww_callV (κ := 6) (r := (RX5, TX5, 5)) wk_X6_154 dX6_comes_58 (p_wait_f hr hW hp c3) rfl rfl (show ww_is _ _ 6 from hy).1 (show ww_is _ _ 6 from hy).2 rfl rfl (by omega) (by omega) (by omega) (by first | exact Nat.le_of_ble_eq_true rfl | (simp [ww_rf_cat, Value.category])) rfl (fun E M9 h9 => h9.elim) (fun v9 M9 h9 => ?_)
  obtain ⟨rfl, rfl⟩ := h9
  refine ww_if_eq_t (tgt := 75) dX6_comes_61 (by decide) (by decide) ?_
  refine ww_aload_n (i := 3) dX6_comes_75 rfl rfl ?_
  refine ww_callV (κ := 4) (r := (RX3, TX3, 18)) wk_X6_109 dX6_comes_76 (p_bound_f hf hG hp c4) rfl rfl (show ww_is _ _ 4 from ht4).1 (show ww_is _ _ 4 from ht4).2 rfl rfl (by omega) (by omega) (by omega) (by first | exact Nat.le_of_ble_eq_true rfl | (simp [ww_rf_cat, Value.category])) rfl (fun E M9 h9 => h9.elim) (fun v9 M9 h9 => ?_)
  obtain ⟨rfl, rfl⟩ := h9
  refine ww_if_ne_f (tgt := 89) dX6_comes_79 (by decide) (by decide) ?_
  refine ww_aload_n (i := 3) dX6_comes_82 rfl rfl ?_
  refine ww_getI (f := 167) wf_X6_106 dX6_comes_83 rfl rfl (show ww_is _ _ 4 from ht4).1 (show ww_is _ _ 4 from ht4).2 ?_
  refine ww_if_eq_t (tgt := 100) dX6_comes_86 (by decide) k167 ?_
  refine ww_aload_n (i := 3) dX6_comes_100 rfl rfl ?_
  refine ww_iload_n (i := 2) dX6_comes_101 rfl rfl ?_
  refine ww_putI (f := 177) wf_X6_274 wt_4_17 dX6_comes_102 rfl rfl (show ww_is _ _ 4 from ht4).1 (show ww_is _ _ 4 from ht4).2 rfl rfl ?_
  -- at 105, locals [0, 1, 2, 3]
  refine ww_aload_n (i := 0) dX6_comes_105 rfl rfl ?_
  refine ww_getR (f := 283) wf_X6_32 dX6_comes_106 rfl rfl (show ww_is _ _ 7 from hx1).1 (show ww_is _ _ 7 from hx1).2 hr1.2.2.1.1.1 ?_
  refine ww_getR (f := 240) wf_X6_263 dX6_comes_109 rfl rfl (show ww_is _ _ 6 from hy).1 (show ww_is _ _ 6 from hy).2 hr1.2.2.1.1.2.2.1 ?_
  refine ww_aload_n (i := 3) dX6_comes_112 rfl rfl ?_
  refine ww_callV (κ := 0) (r := (RJx4a65c, TJx4a65c, 3)) wk_X6_66 dX6_comes_113 (hadd) rfl rfl (show ww_is _ _ 0 from hwl).1 (show ww_is _ _ 0 from hwl).2 rfl rfl (by omega) (by omega) (by omega) (by first | exact Nat.le_of_ble_eq_true rfl | (simp [ww_rf_cat, Value.category])) rfl (fun E M9 h9 => h9.elim) (fun v9 M9 h9 => ?_)
  skip
  -- at 116, locals [0, 1, 2, 3]
  refine ww_geL (fun hge => ?_)
  obtain ⟨ea', hr2, hck2⟩ := ww_rc_wait hr1 h9 hge c1 hG.2.1 hp
  obtain ⟨rfl, _⟩ := h9
  have hx2 : ww_is M9.1 (c 0) 7 := hr2.1.1.1
  have hls2 := hr2.2.2.1.1.2.2.2.2.2.2.2
  have hy2 := hr2.2.2.1.1.2.1
  have hwl2 := hls2.1
  have hfin : ww_rc g M9 c ea' P W kl f z D E n u (w + 1) m (q_comes (q_us S 0 0) w p v) := ww_rc_us hr2 (fun k hk => by
    refine (q_us_use hk rfl).trans ?_
    rw [ww_u2_cm (k := 28) (k' := 27) (fun y => absurd y.1 (by decide))]
    exact ww_u2_k (ww_u2_k (q_us_use hk rfl)))
  refine ww_pop dX6_comes_116 (by first | rfl | exact ww_rf_cat _) ?_
  refine ww_aload_n (i := 0) dX6_comes_117 rfl rfl ?_
  refine ww_getR (f := 283) wf_X6_32 dX6_comes_118 rfl rfl (show ww_is _ _ 7 from hx2).1 (show ww_is _ _ 7 from hx2).2 hr2.2.2.1.1.1 ?_
  refine ww_getR (f := 240) wf_X6_263 dX6_comes_121 rfl rfl (show ww_is _ _ 6 from hy2).1 (show ww_is _ _ 6 from hy2).2 hr2.2.2.1.1.2.2.1 ?_
  refine ww_callV (κ := 0) (r := (RJx4a65c, TJx4a65c, 3)) wk_X6_52 dX6_comes_124 (l_size hls2) rfl rfl (show ww_is _ _ 0 from hwl2).1 (show ww_is _ _ 0 from hwl2).2 rfl rfl (by omega) (by omega) (by omega) (by first | exact Nat.le_of_ble_eq_true rfl | (simp [ww_rf_cat, Value.category])) rfl (fun E M9 h9 => h9.elim) (fun v9 M9 h9 => ?_)
  obtain ⟨rfl, rfl⟩ := h9
  exact ww_ireturn dX6_comes_127 rfl (by first | rfl | exact ww_b_nar) ⟨rfl, ea', hfin, ww_ck_tr hck1 hck2⟩
end WWA8
