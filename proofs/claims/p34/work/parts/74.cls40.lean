/-! ===== the works are made ===== -/
section WWB8
variable {g : ww_G} {M0 M M1 M2 M3 : ww_M} {a q x : Nat} {Pp A : Nat → Prop} {c kl : Nat → Nat}
theorem ww_ft_a {a : Nat} {A : Nat → Prop} (h : ww_ft M M1 (fun y => y = a) A) (h' : ww_ft M1 M2 (fun y => y = a) A) : ww_ft M M2 (fun y => y = a) A := ww_ft_wk (ww_ft_tr h h') (fun y _ e => e.elim id id) (fun y _ e => e.elim id id)
/-- the works but for their limits: k of them are there -/
def ww_wi (g : ww_G) (M : ww_M) (x : Nat) (c : Nat → Nat) (kl : Nat → Nat) (k : Nat) : Prop := (c 0 = x ∧ ww_is M.1 x 7 ∧ ww_R M 280 x = some (c 1) ∧ ww_R M 281 x = some (c 9) ∧ ww_R M 282 x = some (c 5) ∧ ww_R M 283 x = some (c 6)) ∧ (∀ κ f, ww_ls g M κ (c 1) (ww_ge g) 0 f ∧ ww_ls g M κ (c 2) (ww_ge g) 0 f ∧ ww_ls g M κ (c 3) (ww_ge g) 0 f ∧ ww_ls g M κ (c 4) (ww_ge g) 0 f) ∧ (ww_is M.1 (c 9) 11 ∧ ww_N M (c 9) = 5 ∧ ∀ i, i < k → ww_Y M (c 9) i = some (kl i) ∧ ww_is M.1 (kl i) 2 ∧ ww_I M 80 (kl i) = 0 ∧ ww_I M 81 (kl i) = 0 ∧ ww_I M 82 (kl i) = 0) ∧ (∀ i j, i < k → j < k → kl i = kl j → i = j) ∧ (ww_is M.1 (c 5) 3 ∧ ww_R M 120 (c 5) = some (c 2) ∧ ww_R M 121 (c 5) = some (c 8) ∧ ww_is M.1 (c 8) 9 ∧ ww_N M (c 8) = 60) ∧ (ww_is M.1 (c 6) 6 ∧ ww_R M 240 (c 6) = some (c 3) ∧ ww_R M 241 (c 6) = some (c 4) ∧ ww_R M 242 (c 6) = some (c 7) ∧ ww_I M 244 (c 6) = 0 ∧ ww_is M.1 (c 7) 9 ∧ ww_N M (c 7) = 8) ∧ (∀ i j, 1 ≤ i → i ≤ 4 → 1 ≤ j → j ≤ 4 → c i = c j → i = j) ∧ ¬ c 7 = c 8
theorem ww_wi_rc {ea P W f z D : Nat → Nat} {E S : Nat → Nat → Int32} (h : ww_wi g M x c kl 5) (hea : ∀ i, ea i = ww_ge g) (hS : ∀ k, k < 5 → S 20 k = 0 ∧ S 21 k = 0 ∧ S 22 k = 0) (hge : ww_ge g ∉ ww_L M) : ww_rc g M c ea P W kl f z D E 0 0 0 0 S := by
  obtain ⟨⟨h0, h1, h2, h3, h4, h5⟩, hl, ⟨k1, k2, k3⟩, ki, ⟨l1, l2, l3, l4, l5⟩, ⟨y1, y2, y3, y4, y5, y6, y7⟩, a1, a2⟩ := h
  subst h0
  refine ⟨⟨⟨h1, h2, by rw [hea]; exact (hl 4 _).1, by omega⟩, ⟨⟨fun i hi => by omega, fun j hj => ?_, fun i j hi => by omega⟩, fun i j hi => by omega⟩, ⟨h3, k1, k2, fun k hk => (k3 k hk).1⟩, ki⟩, ⟨h4, l1, l2, l3, l4, l5, by omega, by rw [hea]; exact (hl 1 _).2.1, fun i hi => by omega⟩, ⟨⟨h5, y1, y2, y4, y6, y7, by omega, by rw [hea]; exact (hl 4 _).2.2.1⟩, ⟨y3, by rw [hea]; exact (hl 4 _).2.2.2⟩, fun i hi => by omega, 0, by decide, y5.trans nI_0.symm⟩, a1, fun i j _ _ _ => Or.inr (hea i), a2, hge⟩
  obtain ⟨_, b1, b2, b3, b4⟩ := k3 j hj
  obtain ⟨c1, c2, c3⟩ := hS j hj
  exact ⟨b1, b2.trans c1.symm, b3.trans c2.symm, b4.trans c3.symm⟩
/-- one more of the limits -/
theorem ww_wi_s {k q : Nat} (h : ww_wi g M x c kl k) (hk : k < 5) (hq : q ∉ ww_L M) : ww_wi g (ww_sY (ww_nw M q 2 0) (c 9) k (some q)) x c (q_ea kl k q) (k + 1) ∧ ww_ft M (ww_sY (ww_nw M q 2 0) (c 9) k (some q)) (fun _ => False) (fun y => y = c 9) := by
  have t : ww_ft M (ww_sY (ww_nw M q 2 0) (c 9) k (some q)) (fun _ => False) (fun y => y = c 9) := by
    have t1 : ww_ft M (ww_nw M q 2 0) (fun _ => False) (fun y => y = c 9) := ww_ft_nw ww_ft_rf hq
    refine ⟨t1.1, t1.2.1, fun y hy hn => ⟨(t1.2.2 y hy hn).1, ?_, (t1.2.2 y hy hn).2.2⟩⟩
    rw [← (t1.2.2 y hy hn).2.1]
    funext j
    exact ww_u2n (fun e => hn e.1)
  refine ⟨?_, t⟩
  obtain ⟨⟨h0, h1, h2, h3, h4, h5⟩, hl, ⟨k1, k2, k3⟩, ki, ⟨l1, l2, l3, l4, l5⟩, ⟨y1, y2, y3, y4, y5, y6, y7⟩, a1, a2⟩ := h
  have nf : ∀ y, ¬ (fun _ : Nat => False) y := fun y e => e
  have q9 : ¬ q = c 9 := fun e => hq (e ▸ k1.1)
  have qn : ∀ i, i < k → ¬ kl i = q := fun i hi e => hq (e ▸ (k3 i hi).2.1.1)
  have I0 : ∀ f', ww_I (ww_sY (ww_nw M q 2 0) (c 9) k (some q)) f' q = 0 := fun f' => if_pos rfl
  have hls : ∀ {κ aa nn : Nat} {f : Nat → Nat}, nn = 0 → ww_ls g M κ aa (ww_ge g) nn f → ww_ls g (ww_sY (ww_nw M q 2 0) (c 9) k (some q)) κ aa (ww_ge g) nn f := fun h0 h => by
    obtain ⟨b1, b2, b3, b4⟩ := h
    exact ⟨ww_ft_in t b1, (ww_ft_I t b1 (fun e => e) rfl).trans b2, (ww_ft_R t b1 (fun e => e) rfl).trans b3, Or.inl ⟨rfl, h0⟩⟩
  refine ⟨⟨h0, ww_ft_in t h1, (ww_ft_R t h1 (fun e => e) rfl).trans h2, (ww_ft_R t h1 (fun e => e) rfl).trans h3, (ww_ft_R t h1 (fun e => e) rfl).trans h4, (ww_ft_R t h1 (fun e => e) rfl).trans h5⟩, fun κ f => ⟨hls rfl (hl κ f).1, hls rfl (hl κ f).2.1, hls rfl (hl κ f).2.2.1, hls rfl (hl κ f).2.2.2⟩, ⟨ww_ft_in t k1, (t.1 _ k1.1).2.2.trans k2, fun i hi => ?_⟩, fun i j hi hj e => ?_, ⟨ww_ft_in t l1, (ww_ft_R t l1 (fun e => e) rfl).trans l2, (ww_ft_R t l1 (fun e => e) rfl).trans l3, ww_ft_in t l4, (t.1 _ l4.1).2.2.trans l5⟩, ⟨ww_ft_in t y1, (ww_ft_R t y1 (fun e => e) rfl).trans y2, (ww_ft_R t y1 (fun e => e) rfl).trans y3, (ww_ft_R t y1 (fun e => e) rfl).trans y4, (ww_ft_I t y1 (fun e => e) rfl).trans y5, ww_ft_in t y6, (t.1 _ y6.1).2.2.trans y7⟩, a1, a2⟩
  · unfold q_ea
    by_cases e : i = k
    · rw [if_pos e, e]
      exact ⟨ww_u2s, ⟨ww_nw_q.1, ww_nw_q.2.1⟩, I0 80, I0 81, I0 82⟩
    · rw [if_neg e]
      obtain ⟨b0, b1, b2, b3, b4⟩ := k3 i (by omega)
      refine ⟨(show ww_u2 (ww_Y (ww_nw M q 2 0)) (c 9) k (some q) (c 9) i = ww_Y (ww_nw M q 2 0) (c 9) i from ww_u2n (fun y => e y.2)).trans ((show ww_Y (ww_nw M q 2 0) (c 9) i = ww_Y M (c 9) i from if_neg (fun y => q9 y.symm)).trans b0), ww_ft_in t b1, (ww_ft_I t b1 (fun e => e) rfl).trans b2, (ww_ft_I t b1 (fun e => e) rfl).trans b3, (ww_ft_I t b1 (fun e => e) rfl).trans b4⟩
  · unfold q_ea at e
    by_cases c1 : i = k
    · by_cases c2 : j = k
      · omega
      · rw [if_pos c1, if_neg c2] at e
        exact absurd e.symm (qn j (by omega))
    · by_cases c2 : j = k
      · rw [if_neg c1, if_pos c2] at e
        exact absurd e (qn i (by omega))
      · rw [if_neg c1, if_neg c2] at e
        exact ki i j (by omega) (by omega) e
/-- the works are made -/
def ww_wiQ (g : ww_G) (M : ww_M) (x : Nat) : Option Value → ww_M → Prop := fun v M' => v = none ∧ ww_ft M M' (fun y => y = x) (fun _ => False) ∧ ∃ c kl, ww_wi g M' x c kl 5 ∧ c 7 ∉ ww_L M ∧ c 8 ∉ ww_L M
set_option maxRecDepth 20000 in
set_option maxHeartbeats 8000000 in
theorem c_works_l (hc9 : c 9 ∉ ww_L M0) (h7 : c 7 ∉ ww_L M0) (h8 : c 8 ∉ ww_L M0) : ∀ (m k : Nat) (M : ww_M) (kl : Nat → Nat), k + m = 5 → ww_wi g M x c kl k → ww_ft M0 M (fun y => y = x) (fun _ => False) → ww_A g wy_X6_init 6 m (3 * m) M 47 [(0, .ref x), (1, .int (nI k))] [] (ww_wiQ g M0 x) ww_no
  | 0, k, M, kl, hm, h, t => by
    have e0 : k = 5 := by omega
    subst e0
    have k9 := h.2.2.1.1
    have e11 : ww_K M (c 9) = 11 := k9.2
    refine ww_iload_n (i := 1) dX6_init_47 rfl rfl ?_
    refine ww_aload_n (i := 0) dX6_init_48 rfl rfl ?_
    refine ww_getR (f := 281) wf_X6_18 dX6_init_49 rfl rfl (show ww_is _ _ 7 from h.1.2.1).1 (show ww_is _ _ 7 from h.1.2.1).2 h.1.2.2.2.1 ?_
    -- at 52, locals [0, 1]
    refine ww_alen dX6_init_52 k9.1 (by rw [e11]; decide) (by rw [e11]; decide) ?_
    rw [h.2.2.1.2.1]
    refine ww_icmp_ge_t (tgt := 75) dX6_init_53 (by decide) (by decide) ?_
    exact ww_vreturn dX6_init_75 rfl ⟨rfl, t, c, kl, h, h7, h8⟩
  | m + 1, k, M, kl, hm, h, t => by
    have k9 := h.2.2.1.1
    have e11 : ww_K M (c 9) = 11 := k9.2
    refine ww_iload_n (i := 1) dX6_init_47 rfl rfl ?_
    refine ww_aload_n (i := 0) dX6_init_48 rfl rfl ?_
    refine ww_getR (f := 281) wf_X6_18 dX6_init_49 rfl rfl (show ww_is _ _ 7 from h.1.2.1).1 (show ww_is _ _ 7 from h.1.2.1).2 h.1.2.2.2.1 ?_
    -- at 52, locals [0, 1]
    refine ww_alen dX6_init_52 k9.1 (by rw [e11]; decide) (by rw [e11]; decide) ?_
    rw [h.2.2.1.2.1]
    refine ww_icmp_ge_f (tgt := 75) dX6_init_53 (by decide) (nI_ge (by omega) (by decide)) ?_
    refine ww_aload_n (i := 0) dX6_init_56 rfl rfl ?_
    refine ww_getR (f := 281) wf_X6_18 dX6_init_57 rfl rfl (show ww_is _ _ 7 from h.1.2.1).1 (show ww_is _ _ 7 from h.1.2.1).2 h.1.2.2.2.1 ?_
    refine ww_iload_n (i := 1) dX6_init_60 rfl rfl ?_
    -- at 61, locals [0, 1]
    refine ww_newO (κ := 2) wn_X6_16 dX6_init_61 (by omega) (show 3 ≤ 3 * (m + 1) by omega) (fun q hq => ?_)
    refine ww_less (kc2 := m) (ks2 := 3 * m) (by omega) (show 3 * m ≤ 3 * (m + 1) - 3 by omega) ?_
    have hq2 : ww_is (ww_nw M q 2 0).1 q 2 := ⟨ww_nw_q.1, ww_nw_q.2.1⟩
    obtain ⟨n1, n2, n3⟩ := ww_nw_in (κ := 2) (n := 0) k9.1 hq
    obtain ⟨hs, t2⟩ := ww_wi_s h (by omega) hq
    have t3 : ww_ft M0 (ww_sY (ww_nw M q 2 0) (c 9) k (some q)) (fun y => y = x) (fun _ => False) := ww_ft_wk (ww_ft_tr t t2) (fun y _ e => e.elim id (fun s => s.elim)) (fun y hy e => e.elim id (fun s => hc9 (s ▸ hy)))
    have hl := c_works_l hc9 h7 h8 m (k + 1) _ (q_ea kl k q) (by omega) hs t3
    refine ww_dup dX6_init_64 (by first | rfl | exact ww_rf_cat _) ?_
    refine ww_callIN wk_X6_36 rfl dX6_init_65 (c_limitsInit hq2) rfl rfl (by omega) (by omega) (by omega) (by first | exact Nat.le_of_ble_eq_true rfl | (simp [ww_rf_cat, Value.category])) (fun v9 M9 h9 => ?_)
    obtain ⟨rfl, rfl⟩ := h9
    -- at 68, locals [0, 1]
    refine ww_aastK (j := k) dX6_init_68 n1 (n2.trans e11) ww_nw_q.1 ww_nw_q.2.1 rfl (by rw [n3, h.2.2.1.2.1]; omega) (by rw [n3, h.2.2.1.2.1]; decide) ?_
    refine ww_iinc (i := 1) (v := _ + 1) (lv2 := [(0, _), (1, _)]) dX6_init_69 rfl (by rfl) (Nat.le_of_ble_eq_true rfl) rfl ?_
    refine ww_goto (tgt := 47) dX6_init_72 (by decide) ?_
    -- at 47, locals [0, 1]
    rw [nI_1]
    exact hl
set_option maxRecDepth 20000 in
set_option maxHeartbeats 8000000 in
theorem c_worksInit (hx : ww_is M.1 x 7) : ww_C g wy_X6_init 6 14 110 [.ref x] M (ww_wiQ g M x) ww_no := by
  refine ww_ent (by decide +kernel) (Nat.le_of_ble_eq_true rfl) ⟨rfl, trivial⟩ ?_
  refine ww_aload_n (i := 0) dX6_init_0 rfl rfl ?_
  refine ww_objInit dX6_init_1 wm_53 wm_54 wm_55 (by omega) (by first | exact Nat.le_of_ble_eq_true rfl | (simp [ww_rf_cat, Value.category])) ?_
  refine ww_aload_n (i := 0) dX6_init_4 rfl rfl ?_
  -- at 5, locals [0]
  refine n_list wn_X6_7 wk_X6_9 wf_X6_10 wt_7_0 rfl rfl hx dX6_init_5 dX6_init_8 dX6_init_9 dX6_init_12 (fun _ => rfl) (fun _ => rfl) (by omega) (by omega) (by omega) (fun p1 M1 o1 ls1 => ?_)
  refine ww_less (kc2 := 13) (ks2 := 107) (Nat.le_of_ble_eq_true rfl) (Nat.le_of_ble_eq_true rfl) ?_
  obtain ⟨t1, r1, s1, i1, u1, v1⟩ := o1
  have hx1 := ww_ft_in t1 hx
  refine ww_aload_n (i := 0) dX6_init_15 rfl rfl ?_
  refine ww_iconst (v := 5) dX6_init_16 (by decide) ?_
  -- at 17, locals [0]
  refine ww_newQ (κ := 11) (n := 5) (C0 := "WheelWorks$KindLimits") dX6_init_17 (Or.inl ⟨rfl, rfl⟩) wm_82 rfl (by decide) (by omega) (by omega) (fun k9 hk9 => ?_)
  refine ww_less (kc2 := 12) (ks2 := 102) (Nat.le_of_ble_eq_true rfl) (Nat.le_of_ble_eq_true rfl) ?_
  have tk : ww_ft M1 (ww_nw M1 k9 11 5) (fun _ => False) (fun _ => False) := ww_ft_nw ww_ft_rf hk9
  have hxk : ww_is (ww_nw M1 k9 11 5).1 x 7 := ww_ft_in tk hx1
  refine ww_putQ (f := 281) wf_X6_18 wt_7_1 dX6_init_20 rfl rfl hxk.1 hxk.2 (r := some k9) rfl rfl rfl ?_
  have o2 := ww_on_sR (f := 281) hx1 tk hk9 ww_nw_q.1
  have kk2 : ww_is (ww_sR (ww_nw M1 k9 11 5) 281 x (some k9)).1 k9 11 := ⟨ww_nw_q.1, ww_nw_q.2.1⟩
  have kN : ww_N (ww_sR (ww_nw M1 k9 11 5) 281 x (some k9)) k9 = 5 := ww_nw_q.2.2
  generalize ww_sR (ww_nw M1 k9 11 5) 281 x (some k9) = M2 at o2 kk2 kN
  obtain ⟨t2, r2, s2, i2, u2, v2⟩ := o2
  have hx2 := ww_ft_in t2 hx1
  refine ww_aload_n (i := 0) dX6_init_23 rfl rfl ?_
  -- at 24, locals [0]
  refine ww_newO (κ := 3) wn_X6_22 dX6_init_24 (by omega) (show 2 ≤ 102 by decide) (fun lg hlg => ?_)
  refine ww_less (kc2 := 11) (ks2 := 100) (Nat.le_of_ble_eq_true rfl) (Nat.le_of_ble_eq_true rfl) ?_
  have tl0 : ww_ft M2 (ww_nw M2 lg 3 0) (fun _ => False) (fun _ => False) := ww_ft_nw ww_ft_rf hlg
  have hlg3 : ww_is (ww_nw M2 lg 3 0).1 lg 3 := ⟨ww_nw_q.1, ww_nw_q.2.1⟩
  have hlgin : ∀ y, y ∈ ww_L M2 → y ∈ ww_L (ww_nw M2 lg 3 0) := fun y hy => (tl0.1 y hy).1
  generalize ww_nw M2 lg 3 0 = M2a at tl0 hlg3 hlgin
  have hx2a := ww_ft_in tl0 hx2
  refine ww_dup dX6_init_27 (by first | rfl | exact ww_rf_cat _) ?_
  refine ww_callIN wk_X6_24 rfl dX6_init_28 (c_logInit hlg3) rfl rfl (by omega) (by omega) (by omega) (by first | exact Nat.le_of_ble_eq_true rfl | (simp [ww_rf_cat, Value.category])) (fun v9 M9 h9 => ?_)
  obtain ⟨rfl, tl1, ll, lh, ⟨e120, e121⟩, ⟨ul, uh⟩, ⟨lh9, lhN⟩, lsl⟩ := h9
  -- at 31, locals [0]
  refine ww_less (kc2 := 9) (ks2 := 37) (Nat.le_of_ble_eq_true rfl) (Nat.le_of_ble_eq_true rfl) ?_
  have tl2 : ww_ft M2 M9 (fun _ => False) (fun _ => False) := ww_ft_wk (ww_ft_tr tl0 tl1) (fun y hy e => e.elim id (fun s => hlg (s ▸ hy))) (fun y _ e => e.elim id id)
  have hx9 := ww_ft_in tl2 hx2
  have hlg9 := ww_ft_in tl1 hlg3
  refine ww_putQ (f := 282) wf_X6_25 wt_7_2 dX6_init_31 rfl rfl hx9.1 hx9.2 (r := some lg) rfl rfl rfl ?_
  have o3 := ww_on_sR (f := 282) hx2 tl2 hlg hlg9.1
  have t93 : ww_ft M9 (ww_sR M9 282 x (some lg)) (fun y => y = x) (fun _ => False) := ww_ft_sR ww_ft_rf rfl
  generalize ww_sR M9 282 x (some lg) = M3 at o3 t93
  obtain ⟨t3, r3, s3, i3, u3, v3⟩ := o3
  have hx3 := ww_ft_in t3 hx2
  refine ww_aload_n (i := 0) dX6_init_34 rfl rfl ?_
  -- at 35, locals [0]
  refine ww_newO (κ := 6) wn_X6_29 dX6_init_35 (by omega) (show 5 ≤ 37 by decide) (fun yd hyd => ?_)
  refine ww_less (kc2 := 8) (ks2 := 32) (Nat.le_of_ble_eq_true rfl) (Nat.le_of_ble_eq_true rfl) ?_
  have ty0 : ww_ft M3 (ww_nw M3 yd 6 0) (fun _ => False) (fun _ => False) := ww_ft_nw ww_ft_rf hyd
  have hyd6 : ww_is (ww_nw M3 yd 6 0).1 yd 6 := ⟨ww_nw_q.1, ww_nw_q.2.1⟩
  have y244 : ww_I (ww_nw M3 yd 6 0) 244 yd = 0 := if_pos rfl
  generalize ww_nw M3 yd 6 0 = M3a at ty0 hyd6 y244
  have hx3a := ww_ft_in ty0 hx3
  refine ww_dup dX6_init_38 (by first | rfl | exact ww_rf_cat _) ?_
  refine ww_callIN wk_X6_31 rfl dX6_init_39 (c_yardInit hyd6) rfl rfl (by omega) (by omega) (by omega) (by first | exact Nat.le_of_ble_eq_true rfl | (simp [ww_rf_cat, Value.category])) (fun v9 M9 h9 => ?_)
  obtain ⟨rfl, ty1, wl, sl, yb, ⟨e240, e241, e242, e244⟩, ⟨uw, us, ub, wsn⟩, ⟨yb9, ybN⟩, lsw, lss⟩ := h9
  -- at 42, locals [0]
  refine ww_less (kc2 := 5) (ks2 := 15) (Nat.le_of_ble_eq_true rfl) (Nat.le_of_ble_eq_true rfl) ?_
  have ty2 : ww_ft M3 M9 (fun _ => False) (fun _ => False) := ww_ft_wk (ww_ft_tr ty0 ty1) (fun y hy e => e.elim id (fun s => hyd (s ▸ hy))) (fun y _ e => e.elim id id)
  have hx9y := ww_ft_in ty2 hx3
  have hyd9 := ww_ft_in ty1 hyd6
  refine ww_putQ (f := 283) wf_X6_32 wt_7_3 dX6_init_42 rfl rfl hx9y.1 hx9y.2 (r := some yd) rfl rfl rfl ?_
  have o4 := ww_on_sR (f := 283) hx3 ty2 hyd hyd9.1
  have t94 : ww_ft M9 (ww_sR M9 283 x (some yd)) (fun y => y = x) (fun _ => False) := ww_ft_sR ww_ft_rf rfl
  generalize ww_sR M9 283 x (some yd) = M4 at o4 t94
  obtain ⟨t4, r4, s4, i4, u4, v4⟩ := o4
  have hx4 := ww_ft_in t4 hx3
  have nx : ∀ {y κ : Nat} {N : ww_M}, ww_is N.1 x 7 → ww_is N.1 y κ → ¬ κ = 7 → ¬ y = x := fun hX hy hk e => hk (by
    have h1 : ww_K _ _ = 7 := hX.2
    have h2 : ww_K _ _ = _ := hy.2
    rw [e] at h2
    exact h2.symm.trans h1)
  have t24 : ww_ft M2 M4 (fun y => y = x) (fun _ => False) := ww_ft_a t3 t4
  have t14 : ww_ft M1 M4 (fun y => y = x) (fun _ => False) := ww_ft_a t2 t24
  have t04 : ww_ft M M4 (fun y => y = x) (fun _ => False) := ww_ft_a t1 t14
  have tM3 : ww_ft M M3 (fun y => y = x) (fun _ => False) := ww_ft_a t1 (ww_ft_a t2 t3)
  have hll3 : ww_is M3.1 ll 0 := ww_ft_in t93 (lsl 0 (fun _ => 0)).1
  have p12 : p1 ∈ ww_L M2 := (t2.1 p1 v1).1
  have p13 : p1 ∈ ww_L M3 := (t3.1 p1 p12).1
  have hwi : ww_wi g M4 x (fun i => match i with | 0 => x | 1 => p1 | 2 => ll | 3 => wl | 4 => sl | 5 => lg | 6 => yd | 7 => yb | 8 => lh | _ => k9) (fun _ => 0) 0 := by
    have xl : ¬ lg = x := nx hx9 hlg9 (by decide)
    have xy : ¬ yd = x := nx hx9y hyd9 (by decide)
    have lg3 := ww_ft_in t93 hlg9
    refine ⟨⟨rfl, hx4, (s4 280 (by decide) rfl).trans ((s3 280 (by decide) rfl).trans ((s2 280 (by decide) rfl).trans r1)), (s4 281 (by decide) rfl).trans ((s3 281 (by decide) rfl).trans r2), (s4 282 (by decide) rfl).trans r3, r4⟩, fun κ f => ⟨ww_ls_ft (ls1 κ f) t14 (nx hx1 (ls1 κ f).1 (by decide)) (fun _ s => s), ww_ls_ft (ww_ls_ft (lsl κ f) t93 (nx hx9 (lsl κ f).1 (by decide)) (fun _ s => s)) t4 (nx hx3 (ww_ft_in t93 (lsl κ f).1) (by decide)) (fun _ s => s), ww_ls_ft (lsw κ f) t94 (nx hx9y (lsw κ f).1 (by decide)) (fun _ s => s), ww_ls_ft (lss κ f) t94 (nx hx9y (lss κ f).1 (by decide)) (fun _ s => s)⟩, ⟨ww_ft_in t24 kk2, (t24.1 k9 kk2.1).2.2.trans kN, fun i hi => by omega⟩, fun i j hi => by omega, ⟨ww_ft_in t4 lg3, (ww_ft_R t4 lg3 xl rfl).trans ((ww_ft_R t93 hlg9 xl rfl).trans e120), (ww_ft_R t4 lg3 xl rfl).trans ((ww_ft_R t93 hlg9 xl rfl).trans e121), ww_ft_in t4 (ww_ft_in t93 lh9), (t4.1 _ (ww_ft_in t93 lh9).1).2.2.trans ((t93.1 _ lh9.1).2.2.trans lhN)⟩, ⟨ww_ft_in t94 hyd9, (ww_ft_R t94 hyd9 xy rfl).trans e240, (ww_ft_R t94 hyd9 xy rfl).trans e241, (ww_ft_R t94 hyd9 xy rfl).trans e242, (ww_ft_I t94 hyd9 xy rfl).trans (e244.trans y244), ww_ft_in t94 yb9, (t94.1 _ yb9.1).2.2.trans ybN⟩, ?_, ?_⟩
    · have n12 : ¬ p1 = ll := fun e => ul (e ▸ hlgin p1 p12)
      have in3 : ∀ y, y ∈ ww_L M3 → y ∈ ww_L M3a := fun y hy => (ty0.1 y hy).1
      have n13 : ¬ p1 = wl := fun e => uw (e ▸ in3 p1 p13)
      have n14 : ¬ p1 = sl := fun e => us (e ▸ in3 p1 p13)
      have n23 : ¬ ll = wl := fun e => uw (e ▸ in3 ll hll3.1)
      have n24 : ¬ ll = sl := fun e => us (e ▸ in3 ll hll3.1)
      intro i j h1 h2 h3 h4
      have hi : i = 1 ∨ i = 2 ∨ i = 3 ∨ i = 4 := by omega
      have hj : j = 1 ∨ j = 2 ∨ j = 3 ∨ j = 4 := by omega
      rcases hi with rfl | rfl | rfl | rfl <;> rcases hj with rfl | rfl | rfl | rfl <;> intro e <;> first | rfl | exact absurd e n12 | exact absurd e n13 | exact absurd e n14 | exact absurd e n23 | exact absurd e n24 | exact absurd e wsn | exact absurd e.symm n12 | exact absurd e.symm n13 | exact absurd e.symm n14 | exact absurd e.symm n23 | exact absurd e.symm n24 | exact absurd e.symm wsn
    · exact fun e => ub (by rw [show yb = lh from e]; exact (ty0.1 _ (ww_ft_in t93 lh9).1).1)
  have f9 : k9 ∉ ww_L M := fun e => hk9 (t1.1 k9 e).1
  have f7 : yb ∉ ww_L M := fun e => ub (ty0.1 _ (tM3.1 yb e).1).1
  have f8 : lh ∉ ww_L M := fun e => uh (tl0.1 _ (t2.1 lh (t1.1 lh e).1).1).1
  have hl := c_works_l (g := g) (M0 := M) (c := fun i => match i with | 0 => x | 1 => p1 | 2 => ll | 3 => wl | 4 => sl | 5 => lg | 6 => yd | 7 => yb | 8 => lh | _ => k9) f9 f7 f8 5 0 M4 (fun _ => 0) (by omega) hwi t04
  rw [nI_0] at hl
  refine ww_iconst (v := 0) dX6_init_45 (by decide) ?_
  refine ww_istore_n (i := 1) (lv2 := [(0, _), (1, _)]) dX6_init_46 rfl (Nat.le_of_ble_eq_true rfl) rfl ?_
  -- at 47, locals [0, 1]
  exact hl
end WWB8
