/-! ===== the night ===== -/
/-- those that waited stand -/
def q_st (S : Nat → Nat → Int32) : Nat → Nat → Nat → Int32
  | 0 => S
  | i + 1 => ww_u2 (q_st S i) 12 (q_wq S i) 1
theorem q_st_k {S : Nat → Nat → Int32} {k : Nat} (h : k ≠ 12) : ∀ i, q_st S i k = S k
  | 0 => rfl
  | i + 1 => by
    funext j
    exact (ww_u2n (fun y => h y.1)).trans (congrFun (q_st_k h i) j)
theorem q_wq_st {S : Nat → Nat → Int32} {i j : Nat} : q_wq (q_st S i) j = q_wq S j := by unfold q_wq; rw [q_st_k (by decide)]
theorem q_bw_cg {T T' : Nat → Int32} {w : Nat} {bl : Nat → Nat} (h : q_bw T w bl) (e : ∀ i, i < w → T i = T' i) : q_bw T' w bl := by
  intro i hi
  obtain ⟨h1, h2⟩ := h i hi
  refine ⟨h1, fun j hj => (h2 j hj).trans ⟨fun y => ⟨y.1, ?_⟩, fun y => ⟨y.1, ?_⟩⟩⟩
  · rw [← e j (by omega), ← e i hi]; exact y.2
  · rw [e j (by omega), e i hi]; exact y.2
section WWB3
variable {g : ww_G} {M0 M M1 M' : ww_M} {c ea P W kl f z D dd : Nat → Nat} {E : Nat → Nat → Int32} {n u w m pl best : Nat} {S S1 : Nat → Nat → Int32} {v : Int32}
def ww_pkQ (g : ww_G) (M : ww_M) (c P W kl f z D : Nat → Nat) (E : Nat → Nat → Int32) (n u w : Nat) (v0 : Option Value) (S' : Nat → Nat → Int32) : Option Value → ww_M → Prop := fun v M' => v = v0 ∧ ∃ ea', ww_rc g M' c ea' P W kl f z D E n u 0 w S' ∧ ww_ck c M M'
set_option maxRecDepth 20000 in
set_option maxHeartbeats 8000000 in
theorem c_park_l (hG : q_G S n) (hW : q_W S n w) (hw0 : 0 < w) (hinj : ∀ i j, i < w → j < w → q_wq S i = q_wq S j → i = j) (hm : q_mk dd w pl) (hd3 : ∀ i, i < w → dd i < 3) : ∀ (k i : Nat) (M : ww_M) (ea : Nat → Nat), i + k = w → ww_rc g M c ea P W kl f (q_wq S) dd E n u w i (q_st S i) → ww_I M 244 (c 6) = nI pl → ww_ck c M0 M → ww_A g wy_X5_park 12 k (26 * k) M 7 [(0, .ref (c 6)), (1, .int (nI best)), (2, .int (nI i))] [] (ww_pkQ g M0 c P W kl f (q_wq S) dd E n u w (some (.int (nI best))) (q_st S w)) ww_no
  | 0, i, M, ea, hk, hr, h244, hck => by
    have e0 : i = w := by omega
    subst e0
    have hy := hr.2.2.1.1.2
    have hls := hy.2.2.2.2.2.2
    have h8 := hW.2.1
    refine ww_iload_n (i := 2) dX5_park_7 rfl rfl ?_
    refine ww_aload_n (i := 0) dX5_park_8 rfl rfl ?_
    refine ww_getR (f := 240) wf_X5_12 dX5_park_9 rfl rfl (show ww_is _ _ 6 from hy.1).1 (show ww_is _ _ 6 from hy.1).2 hy.2.1 ?_
    refine ww_callV (κ := 0) (r := (RJx4a65c, TJx4a65c, 3)) wk_X5_25 dX5_park_12 (l_size hls) rfl rfl (show ww_is _ _ 0 from hls.1).1 (show ww_is _ _ 0 from hls.1).2 rfl rfl (by omega) (by omega) (by omega) (by first | exact Nat.le_of_ble_eq_true rfl | (simp [ww_rf_cat, Value.category])) rfl (fun E M9 h9 => h9.elim) (fun v9 M9 h9 => ?_)
    obtain ⟨rfl, rfl⟩ := h9
    refine ww_icmp_ge_t (tgt := 57) dX5_park_15 (by decide) (nI_le (Nat.le_refl _) (by omega)) ?_
    refine ww_aload_n (i := 0) dX5_park_57 rfl rfl ?_
    refine ww_getR (f := 240) wf_X5_12 dX5_park_58 rfl rfl (show ww_is _ _ 6 from hy.1).1 (show ww_is _ _ 6 from hy.1).2 hy.2.1 ?_
    -- at 61, locals [0, 1, 2]
    refine ww_callV (κ := 0) (r := (RJx4a65c, TJx4a65c, 3)) wk_X5_70 dX5_park_61 (j_clear hls) rfl rfl (show ww_is _ _ 0 from hls.1).1 (show ww_is _ _ 0 from hls.1).2 rfl rfl (by omega) (by omega) (by omega) (by first | exact Nat.le_of_ble_eq_true rfl | (simp [ww_rf_cat, Value.category])) rfl (fun E M9 h9 => h9.elim) (fun v9 M9 h9 => ?_)
    obtain ⟨rfl, k1, k2⟩ := h9
    -- at 64, locals [0, 1, 2]
    refine ww_geL (fun hge => ?_)
    obtain ⟨hr2, hck2⟩ := ww_rc_clear hr hw0 k1 k2 hge
    refine ww_iload_n (i := 1) dX5_park_64 rfl rfl ?_
    exact ww_ireturn dX5_park_65 rfl (by first | rfl | exact ww_b_nar) ⟨rfl, ea, hr2, ww_ck_tr hck hck2⟩
  | k + 1, i, M, ea, hk, hr, h244, hck => by
    have hi : i < w := by omega
    have hy := hr.2.2.1.1.2
    have h8 := hW.2.1
    have h6 := hG.2.1
    have hls : ww_ls g M 4 (c 3) (ea 2) w (fun j => P (q_wq S j)) := ww_ls_cg hy.2.2.2.2.2.2 (fun j _ => by rw [q_wq_st])
    have ht := (hW.2.2 i hi).1
    have ht4 := ww_rc_is hr ht
    have hf := hr.1.2.1.1
    have hroad := c_roadIn (g := g) (M := M) hm hi h8 (hd3 i hi)
    have hd := hd3 i hi
    have f1 : ww_pf (ww_sI M 176 (P (q_wq S i)) (nI (dd i))) P W kl n (q_st S (i + 1)) := ww_pf_176 hf ht ⟨fun y => absurd y (by
      rw [ww_eq, nI_toInt (by omega), show (-1 : Int32).toInt = -1 from rfl]; omega), fun y => absurd y (by decide)⟩
    have t1 : ww_ft M (ww_sI M 176 (P (q_wq S i)) (nI (dd i))) (ww_pk M) (fun _ => False) := ww_ft_sI ww_ft_rf (Or.inr (Or.inl ht4.2))
    have hr1 := ww_rc_up hr t1 f1 (fun j hj => ww_sI_a (fun e => by
      have e1 := hinj j i (by omega) hi (hf.2.2 _ _ (hW.2.2 j (by omega)).1 ht e)
      omega)) ((q_st_k (by decide) (i + 1)).trans (q_st_k (by decide) i).symm) ((q_st_k (by decide) (i + 1)).trans (q_st_k (by decide) i).symm) rfl
    have hsl := hr1.2.2.1.2.1.2
    have hs := hr1.2.2.1.2.1.1
    have hy1 := hr1.2.2.1.1.2
    have h176 : ww_I (ww_sI M 176 (P (q_wq S i)) (nI (dd i))) 176 (P (q_wq S i)) = nI (dd i) := ww_sI_s
    have hadd := j_add (g := g) (b := P (q_wq S i)) hsl (by omega) ⟨ht4.1, ht4.2⟩ (r := (RX3, TX3, 18)) rfl (by decide)
    refine ww_iload_n (i := 2) dX5_park_7 rfl rfl ?_
    refine ww_aload_n (i := 0) dX5_park_8 rfl rfl ?_
    refine ww_getR (f := 240) wf_X5_12 dX5_park_9 rfl rfl (show ww_is _ _ 6 from hy.1).1 (show ww_is _ _ 6 from hy.1).2 hy.2.1 ?_
    refine ww_callV (κ := 0) (r := (RJx4a65c, TJx4a65c, 3)) wk_X5_25 dX5_park_12 (l_size hls) rfl rfl (show ww_is _ _ 0 from hls.1).1 (show ww_is _ _ 0 from hls.1).2 rfl rfl (by omega) (by omega) (by omega) (by first | exact Nat.le_of_ble_eq_true rfl | (simp [ww_rf_cat, Value.category])) rfl (fun E M9 h9 => h9.elim) (fun v9 M9 h9 => ?_)
    obtain ⟨rfl, rfl⟩ := h9
    refine ww_icmp_ge_f (tgt := 57) dX5_park_15 (by decide) (nI_ge (by omega) (by omega)) ?_
    refine ww_aload_n (i := 0) dX5_park_18 rfl rfl ?_
    refine ww_getR (f := 240) wf_X5_12 dX5_park_19 rfl rfl (show ww_is _ _ 6 from hy.1).1 (show ww_is _ _ 6 from hy.1).2 hy.2.1 ?_
    refine ww_iload_n (i := 2) dX5_park_22 rfl rfl ?_
    refine ww_callV (κ := 0) (r := (RJx4a65c, TJx4a65c, 3)) wk_X5_29 dX5_park_23 (l_get hls hi) rfl rfl (show ww_is _ _ 0 from hls.1).1 (show ww_is _ _ 0 from hls.1).2 rfl rfl (by omega) (by omega) (by omega) (by first | exact Nat.le_of_ble_eq_true rfl | (simp [ww_rf_cat, Value.category])) rfl (fun E M9 h9 => h9.elim) (fun v9 M9 h9 => ?_)
    obtain ⟨rfl, rfl⟩ := h9
    refine ww_cast (nm := "") (κ := 4) (r := (RX3, TX3, 18)) dX5_park_26 (show ww_is _ _ 4 from ht4).1 (show ww_is _ _ 4 from ht4).2 rfl wm_683 ?_
    first | refine ww_astore_n (i := 3) (lv2 := [(0, _), (1, _), (2, _), (3, _)]) dX5_park_29 rfl (Nat.le_of_ble_eq_true rfl) rfl ?_ | refine ww_astore_nQ (i := 3) (lv2 := [(0, _), (1, _), (2, _), (3, _)]) dX5_park_29 rfl (Nat.le_of_ble_eq_true rfl) rfl ?_
    refine ww_aload_n (i := 3) dX5_park_30 rfl rfl ?_
    refine ww_aload_n (i := 0) dX5_park_31 rfl rfl ?_
    refine ww_getI (f := 244) wf_X5_56 dX5_park_32 rfl rfl (show ww_is _ _ 6 from hy.1).1 (show ww_is _ _ 6 from hy.1).2 ?_
    -- at 35, locals [0, 1, 2, 3]
    refine ww_top _ h244 ?_
    refine ww_iload_n (i := 2) dX5_park_35 rfl rfl ?_
    refine ww_callS wk_X5_59 rfl dX5_park_36 (hroad) rfl rfl (by omega) (by omega) (by omega) (by first | exact Nat.le_of_ble_eq_true rfl | (simp [ww_rf_cat, Value.category])) rfl (fun E M9 h9 => h9.elim) (fun v9 M9 h9 => ?_)
    obtain ⟨rfl, rfl⟩ := h9
    refine ww_putI (f := 176) wf_X5_63 wt_4_16 dX5_park_39 rfl rfl (show ww_is _ _ 4 from ht4).1 (show ww_is _ _ 4 from ht4).2 rfl rfl ?_
    -- at 42, locals [0, 1, 2, 3]
    refine ww_aload_n (i := 0) dX5_park_42 rfl rfl ?_
    refine ww_getR (f := 241) wf_X5_18 dX5_park_43 rfl rfl (show ww_is _ _ 6 from hy1.1).1 (show ww_is _ _ 6 from hy1.1).2 hs ?_
    refine ww_aload_n (i := 3) dX5_park_46 rfl rfl ?_
    refine ww_callV (κ := 0) (r := (RJx4a65c, TJx4a65c, 3)) wk_X5_66 dX5_park_47 (hadd) rfl rfl (show ww_is _ _ 0 from hsl.1).1 (show ww_is _ _ 0 from hsl.1).2 rfl rfl (by omega) (by omega) (by omega) (by first | exact Nat.le_of_ble_eq_true rfl | (simp [ww_rf_cat, Value.category])) rfl (fun E M9 h9 => h9.elim) (fun v9 M9 h9 => ?_)
    skip
    -- at 50, locals [0, 1, 2, 3]
    refine ww_geL (fun hge => ?_)
    obtain ⟨ea', hr2, hck2, e244⟩ := ww_rc_stand hr1 h9 hge ht rfl h176
    obtain ⟨rfl, _⟩ := h9
    have n244 : ww_I M9 244 (c 6) = nI pl := e244.trans ((ww_sI_f (by decide)).trans h244)
    have hl := c_park_l hG hW hw0 hinj hm hd3 k (i + 1) M9 ea' (by omega) hr2 n244 (ww_ck_tr (ww_ck_tr hck (ww_ck_pk t1)) hck2)
    refine ww_pop dX5_park_50 (by first | rfl | exact ww_rf_cat _) ?_
    refine ww_iinc (i := 2) (v := _ + 1) (lv2 := [(0, _), (1, _), (2, _), (3, _)]) dX5_park_51 rfl (by rfl) (Nat.le_of_ble_eq_true rfl) rfl ?_
    refine ww_goto (tgt := 7) dX5_park_54 (by decide) ?_
    -- at 7, locals [0, 1, 2, 3]
    rw [nI_1]
    refine ww_less (kc2 := k) (ks2 := 26 * k) (by omega) (by omega) ?_
    exact ww_subk hl ⟨rfl, rfl, rfl, trivial⟩
set_option maxRecDepth 20000 in
set_option maxHeartbeats 8000000 in
theorem c_park (hr : ww_rc g M c ea P W kl f z D E n u w 0 S) (hG : q_G S n) (hW : q_W S n w) (hw0 : 0 < w) (hinj : ∀ i j, i < w → j < w → q_wq S i = q_wq S j → i = j) (hd3 : ∀ i, i < w → dd i < 3) (hdf : ∀ bl p0, q_bw (fun j => S 28 (q_wq S j)) w bl → p0 < 2 ^ 24 → (q_df bl w 0 0 0 (1000, p0)).1 = best ∧ q_mk dd w (q_df bl w 0 0 0 (1000, p0)).2) : ww_C g wy_X5_park 12 8 208 [.ref (c 6)] M (ww_pkQ g M c P W kl f (q_wq S) dd E n u w (some (.int (nI best))) (q_st S w)) ww_no := by
  refine ww_ent (by decide +kernel) (Nat.le_of_ble_eq_true rfl) ⟨rfl, trivial⟩ ?_
  have h8 := hW.2.1
  obtain ⟨⟨y1, hy⟩, ⟨y3, y4⟩, y5, p0, hp0, y6⟩ := hr.2.2.1
  have hf := hr.1.2.1.1
  have e28 : ∀ j, j < w → ww_I M 177 (P (q_wq S j)) = S 28 (q_wq S j) := fun j hj => (hf.1 _ (hW.2.2 j hj).1).2.2.2.2.2.1.2.2.2.2.2.2.2.2
  refine ww_aload_n (i := 0) dX5_park_0 rfl rfl ?_
  refine ww_callV (κ := 6) (r := (RX5, TX5, 5)) wk_X5_53 dX5_park_1 (c_makePlan hy hp0 y6) rfl rfl (show ww_is _ _ 6 from hy.1).1 (show ww_is _ _ 6 from hy.1).2 rfl rfl (by omega) (by omega) (by omega) (by first | exact Nat.le_of_ble_eq_true rfl | (simp [ww_rf_cat, Value.category])) rfl (fun E M9 h9 => h9.elim) (fun v9 M9 h9 => ?_)
  obtain ⟨bl, F, hbw, rfl, rfl⟩ := h9
  -- at 4, locals [0]
  obtain ⟨eb, hmk⟩ := hdf bl p0 (q_bw_cg hbw e28) hp0
  have hpl := (q_df_ok (bl := bl) w 0 0 0 (1000, p0) (by omega) (by decide) (by decide) (Nat.le_refl 1000) hp0).2
  obtain ⟨hr1, hck1⟩ := ww_rc_cX7 (F := F) hr
  obtain ⟨hr2, hck2⟩ := ww_rc_pl (b := (q_df bl w 0 0 0 (1000, p0)).1) (p := (q_df bl w 0 0 0 (1000, p0)).2) hr1 hpl
  have hr3 : ww_rc g (ww_pl (ww_cX M (c 7) F) (c 6) (q_df bl w 0 0 0 (1000, p0)).1 (q_df bl w 0 0 0 (1000, p0)).2) c ea P W kl f (q_wq S) dd E n u w 0 (q_st S 0) := by
    obtain ⟨a1, a2, ⟨b1, ⟨b2, b3⟩, b4, b5⟩, a4⟩ := hr2
    exact ⟨a1, a2, ⟨b1, ⟨b2, ww_ls_cg b3 (fun i hi => by omega)⟩, fun i hi => by omega, b5⟩, a4⟩
  have hl := c_park_l (g := g) (M0 := M) (best := best) hG hW hw0 hinj hmk hd3 w 0 _ ea (by omega) hr3 ww_sI_s (ww_ck_tr hck1 hck2)
  rw [eb, nI_0] at *
  refine ww_istore_n (i := 1) (lv2 := [(0, _), (1, _)]) dX5_park_4 rfl (Nat.le_of_ble_eq_true rfl) rfl ?_
  refine ww_iconst (v := 0) dX5_park_5 (by decide) ?_
  refine ww_istore_n (i := 2) (lv2 := [(0, _), (1, _), (2, _)]) dX5_park_6 rfl (Nat.le_of_ble_eq_true rfl) rfl ?_
  -- at 7, locals [0, 1, 2]
  refine ww_less (kc2 := w) (ks2 := 26 * w) (by omega) (by omega) ?_
  exact hl
set_option maxRecDepth 20000 in
theorem c_night_1 (hr : ww_rc g M c ea P W kl f z D E n u w m S) (h8 : w ≤ 8) (h9 : m ≤ 8) (hc : ¬ (0 < w ∧ m = 0)) : ww_C g wy_X6_night 9 1 6 [.ref (c 0)] M ww_nr (ww_th "java/lang/IllegalStateException" M) := by
  refine ww_ent (by decide +kernel) (Nat.le_of_ble_eq_true rfl) ⟨rfl, trivial⟩ ?_
  have hls := hr.2.2.1.1.2.2.2.2.2.2.2
  have hsl := hr.2.2.1.2.1.2
  have e1 := l_isEmpty (g := g) hls (by omega)
  have e2 := l_isEmpty (g := g) hsl (by omega)
  by_cases c1 : w = 0
  · rw [if_pos c1] at e1
    refine ww_aload_n (i := 0) dX6_night_0 rfl rfl ?_
    refine ww_getR (f := 283) wf_X6_32 dX6_night_1 rfl rfl (show ww_is _ _ 7 from hr.1.1.1).1 (show ww_is _ _ 7 from hr.1.1.1).2 hr.2.2.1.1.1 ?_
    refine ww_getR (f := 240) wf_X6_263 dX6_night_4 rfl rfl (show ww_is _ _ 6 from hr.2.2.1.1.2.1).1 (show ww_is _ _ 6 from hr.2.2.1.1.2.1).2 hr.2.2.1.1.2.2.1 ?_
    refine ww_callV (κ := 0) (r := (RJx4a65c, TJx4a65c, 3)) wk_X6_277 dX6_night_7 (e1) rfl rfl (show ww_is _ _ 0 from hls.1).1 (show ww_is _ _ 0 from hls.1).2 rfl rfl (by omega) (by omega) (by omega) (by first | exact Nat.le_of_ble_eq_true rfl | (simp [ww_rf_cat, Value.category])) rfl (fun E M9 h9 => h9.elim) (fun v9 M9 h9 => ?_)
    obtain ⟨rfl, rfl⟩ := h9
    refine ww_if_ne_t (tgt := 26) dX6_night_10 (by decide) (by decide) ?_
    exact ww_throwW wx_X6_56_283 dX6_night_26 dX6_night_29 dX6_night_30 dX6_night_33 dX6_night_36 rfl (Nat.le_of_ble_eq_true rfl) (by omega) (by omega) (by first | exact Nat.le_of_ble_eq_true rfl | (simp [ww_rf_cat, Value.category])) ⟨rfl, rfl⟩
  · rw [if_neg c1] at e1
    rw [if_neg (fun y => hc ⟨by omega, y⟩)] at e2
    refine ww_aload_n (i := 0) dX6_night_0 rfl rfl ?_
    refine ww_getR (f := 283) wf_X6_32 dX6_night_1 rfl rfl (show ww_is _ _ 7 from hr.1.1.1).1 (show ww_is _ _ 7 from hr.1.1.1).2 hr.2.2.1.1.1 ?_
    refine ww_getR (f := 240) wf_X6_263 dX6_night_4 rfl rfl (show ww_is _ _ 6 from hr.2.2.1.1.2.1).1 (show ww_is _ _ 6 from hr.2.2.1.1.2.1).2 hr.2.2.1.1.2.2.1 ?_
    refine ww_callV (κ := 0) (r := (RJx4a65c, TJx4a65c, 3)) wk_X6_277 dX6_night_7 (e1) rfl rfl (show ww_is _ _ 0 from hls.1).1 (show ww_is _ _ 0 from hls.1).2 rfl rfl (by omega) (by omega) (by omega) (by first | exact Nat.le_of_ble_eq_true rfl | (simp [ww_rf_cat, Value.category])) rfl (fun E M9 h9 => h9.elim) (fun v9 M9 h9 => ?_)
    obtain ⟨rfl, rfl⟩ := h9
    refine ww_if_ne_f (tgt := 26) dX6_night_10 (by decide) (by decide) ?_
    refine ww_aload_n (i := 0) dX6_night_13 rfl rfl ?_
    refine ww_getR (f := 283) wf_X6_32 dX6_night_14 rfl rfl (show ww_is _ _ 7 from hr.1.1.1).1 (show ww_is _ _ 7 from hr.1.1.1).2 hr.2.2.1.1.1 ?_
    refine ww_getR (f := 241) wf_X6_280 dX6_night_17 rfl rfl (show ww_is _ _ 6 from hr.2.2.1.1.2.1).1 (show ww_is _ _ 6 from hr.2.2.1.1.2.1).2 hr.2.2.1.2.1.1 ?_
    refine ww_callV (κ := 0) (r := (RJx4a65c, TJx4a65c, 3)) wk_X6_277 dX6_night_20 (e2) rfl rfl (show ww_is _ _ 0 from hsl.1).1 (show ww_is _ _ 0 from hsl.1).2 rfl rfl (by omega) (by omega) (by omega) (by first | exact Nat.le_of_ble_eq_true rfl | (simp [ww_rf_cat, Value.category])) rfl (fun E M9 h9 => h9.elim) (fun v9 M9 h9 => ?_)
    obtain ⟨rfl, rfl⟩ := h9
    refine ww_if_ne_f (tgt := 37) dX6_night_23 (by decide) (by decide) ?_
    exact ww_throwW wx_X6_56_283 dX6_night_26 dX6_night_29 dX6_night_30 dX6_night_33 dX6_night_36 rfl (Nat.le_of_ble_eq_true rfl) (by omega) (by omega) (by first | exact Nat.le_of_ble_eq_true rfl | (simp [ww_rf_cat, Value.category])) ⟨rfl, rfl⟩
set_option maxRecDepth 20000 in
theorem c_night_0 (hr : ww_rc g M c ea P W kl f z D E n u w 0 S) (hG : q_G S n) (hW : q_W S n w) (hw0 : 0 < w) (hinj : ∀ i j, i < w → j < w → q_wq S i = q_wq S j → i = j) (hd3 : ∀ i, i < w → dd i < 3) (hdf : ∀ bl p0, q_bw (fun j => S 28 (q_wq S j)) w bl → p0 < 2 ^ 24 → (q_df bl w 0 0 0 (1000, p0)).1 = best ∧ q_mk dd w (q_df bl w 0 0 0 (1000, p0)).2) : ww_C g wy_X6_night 13 8 208 [.ref (c 0)] M (ww_pkQ g M c P W kl f (q_wq S) dd E n u w (some (.int (nI best))) (q_st S w)) ww_no := by
  refine ww_ent (by decide +kernel) (Nat.le_of_ble_eq_true rfl) ⟨rfl, trivial⟩ ?_
  have h8 := hW.2.1
  have hls := hr.2.2.1.1.2.2.2.2.2.2.2
  have hsl := hr.2.2.1.2.1.2
  have e1 := l_isEmpty (g := g) hls (by omega)
  have e2 := l_isEmpty (g := g) hsl (by omega)
  rw [if_neg (by omega)] at e1
  rw [if_pos rfl] at e2
  refine ww_aload_n (i := 0) dX6_night_0 rfl rfl ?_
  refine ww_getR (f := 283) wf_X6_32 dX6_night_1 rfl rfl (show ww_is _ _ 7 from hr.1.1.1).1 (show ww_is _ _ 7 from hr.1.1.1).2 hr.2.2.1.1.1 ?_
  refine ww_getR (f := 240) wf_X6_263 dX6_night_4 rfl rfl (show ww_is _ _ 6 from hr.2.2.1.1.2.1).1 (show ww_is _ _ 6 from hr.2.2.1.1.2.1).2 hr.2.2.1.1.2.2.1 ?_
  refine ww_callV (κ := 0) (r := (RJx4a65c, TJx4a65c, 3)) wk_X6_277 dX6_night_7 (e1) rfl rfl (show ww_is _ _ 0 from hls.1).1 (show ww_is _ _ 0 from hls.1).2 rfl rfl (by omega) (by omega) (by omega) (by first | exact Nat.le_of_ble_eq_true rfl | (simp [ww_rf_cat, Value.category])) rfl (fun E M9 h9 => h9.elim) (fun v9 M9 h9 => ?_)
  obtain ⟨rfl, rfl⟩ := h9
  refine ww_if_ne_f (tgt := 26) dX6_night_10 (by decide) (by decide) ?_
  refine ww_aload_n (i := 0) dX6_night_13 rfl rfl ?_
  refine ww_getR (f := 283) wf_X6_32 dX6_night_14 rfl rfl (show ww_is _ _ 7 from hr.1.1.1).1 (show ww_is _ _ 7 from hr.1.1.1).2 hr.2.2.1.1.1 ?_
  refine ww_getR (f := 241) wf_X6_280 dX6_night_17 rfl rfl (show ww_is _ _ 6 from hr.2.2.1.1.2.1).1 (show ww_is _ _ 6 from hr.2.2.1.1.2.1).2 hr.2.2.1.2.1.1 ?_
  refine ww_callV (κ := 0) (r := (RJx4a65c, TJx4a65c, 3)) wk_X6_277 dX6_night_20 (e2) rfl rfl (show ww_is _ _ 0 from hsl.1).1 (show ww_is _ _ 0 from hsl.1).2 rfl rfl (by omega) (by omega) (by omega) (by first | exact Nat.le_of_ble_eq_true rfl | (simp [ww_rf_cat, Value.category])) rfl (fun E M9 h9 => h9.elim) (fun v9 M9 h9 => ?_)
  obtain ⟨rfl, rfl⟩ := h9
  refine ww_if_ne_t (tgt := 37) dX6_night_23 (by decide) (by decide) ?_
  refine ww_aload_n (i := 0) dX6_night_37 rfl rfl ?_
  refine ww_getR (f := 283) wf_X6_32 dX6_night_38 rfl rfl (show ww_is _ _ 7 from hr.1.1.1).1 (show ww_is _ _ 7 from hr.1.1.1).2 hr.2.2.1.1.1 ?_
  refine ww_callV (κ := 6) (r := (RX5, TX5, 5)) wk_X6_285 dX6_night_41 (c_park hr hG hW hw0 hinj hd3 hdf) rfl rfl (show ww_is _ _ 6 from hr.2.2.1.1.2.1).1 (show ww_is _ _ 6 from hr.2.2.1.1.2.1).2 rfl rfl (by omega) (by omega) (by omega) (by first | exact Nat.le_of_ble_eq_true rfl | (simp [ww_rf_cat, Value.category])) rfl (fun E M9 h9 => h9.elim) (fun v9 M9 h9 => ?_)
  obtain ⟨rfl, k1⟩ := h9
  exact ww_ireturn dX6_night_44 rfl (by first | rfl | exact ww_b_nar) ⟨rfl, k1⟩
/-! out -/
theorem q_mi_cg {T T' : Nat → Int32} : ∀ {m : Nat}, (∀ i, i < m → T i = T' i) → q_mi T m = q_mi T' m
  | 0, _ => rfl
  | i + 1, h => by
    unfold q_mi
    rw [q_mi_cg (fun j hj => h j (by omega)), h i (by omega)]
    by_cases c : 0 < i
    · rw [h _ (by have := q_mi_lt T' c; omega)]
    · have e : i = 0 := by omega
      subst e
      rw [show q_mi T' 0 = 0 from rfl, h 0 (by omega)]
theorem ww_rc_out {i : Nat} (hr : ww_rc g M c ea P W kl f z D E n u w m S) (hi : i < m) (hz : ∀ j, j < m → z j < n) (hinj : ∀ i j, i < m → j < m → z i = z j → i = j) (k1 : ww_ls g M1 4 (c 4) (ea 3) (m - 1) (q_del (fun i => P (z i)) i)) (k3 : ww_fr M M1 (fun y => y = c 4) (fun y => y = ea 3)) (hL : ww_ge g ∉ ww_L M1) : ww_rc g (ww_sI M1 176 (P (z i)) (-1)) c ea P W kl f (q_del z i) (q_del D i) E n u w (m - 1) (ww_u2 S 12 (z i) 0) ∧ ww_ck c M (ww_sI M1 176 (P (z i)) (-1)) ∧ ∀ j, j < m → ww_I M1 176 (P (z j)) = nI (D j) := by
  have t3 := ww_ft_fr k3
  obtain ⟨h0, h5, ⟨⟨y1, y2⟩, ⟨y3, y4⟩, y5, b, hb, y6⟩, hap⟩ := id hr
  obtain ⟨d1, d2, d3, d4, d5, d6, d7⟩ := id y2
  have ho := (ww_ls_ow y4 (by omega)).1
  obtain ⟨l1, l2, l3, l4, l5⟩ := ww_rc_li hr (Or.inr rfl) t3 (fun y hy ha => ⟨ha, by rw [ha]; exact ho.2⟩)
  have n6 := l3 _ d1.1 (by rw [show ww_K M (c 6) = 6 from d1.2]; decide)
  have h17 : ∀ j, j < m → ww_I M1 176 (P (z j)) = nI (D j) := fun j hj => by
    have h4 := ww_ls_el y4 hj
    exact (ww_ft_I t3 h4 (l3 _ h4.1 (by rw [show ww_K M (P (z j)) = 4 from h4.2]; decide)) rfl).trans (y5 j hj)
  have hr1 : ww_rc g M1 c ea P W kl f (q_del z i) (q_del D i) E n u w (m - 1) S := by
    refine ⟨l1, l2, ⟨⟨?_, ?_⟩, ⟨?_, ?_⟩, ?_, b, hb, ?_⟩, hap.1, hap.2.1, hap.2.2.1, hL⟩
    · exact (ww_ft_R t3 h0.1.1 (l3 _ h0.1.1.1 (by rw [show ww_K M (c 0) = 7 from h0.1.1.2]; decide)) rfl).trans y1
    · exact ww_yd_ft y2 t3 n6 (fun e => absurd (hap.1 3 4 (by decide) (by decide) (by decide) (by decide) e) (by decide)) (fun he ha => l4 _ 2 he.1 ha (by decide) (by decide) rfl)
    · exact (ww_ft_R t3 d1 n6 rfl).trans y3
    · refine ww_ls_cg k1 (fun j _ => ?_)
      unfold q_del
      by_cases e : j < i
      · rw [if_pos e, if_pos e]
      · rw [if_neg e, if_neg e]
    · intro j hj
      unfold q_del
      by_cases e : j < i
      · rw [if_pos e, if_pos e]; exact h17 j (by omega)
      · rw [if_neg e, if_neg e]; exact h17 (j + 1) (by omega)
    · exact (ww_ft_I t3 d1 n6 rfl).trans y6
  have hf1 := hr1.1.2.1.1
  have ht4 := ww_rc_is hr1 (hz i hi)
  have t1 : ww_ft M1 (ww_sI M1 176 (P (z i)) (-1)) (ww_pk M1) (fun _ => False) := ww_ft_sI ww_ft_rf (Or.inr (Or.inl ht4.2))
  refine ⟨ww_rc_up hr1 t1 (ww_pf_176 hf1 (hz i hi) ⟨fun _ => rfl, fun _ => rfl⟩) (fun j hj => ww_sI_a (fun e => ?_)) rfl rfl rfl, ww_ck_tr l5 (ww_ck_pk t1), h17⟩
  unfold q_del at e
  by_cases e2 : j < i
  · rw [if_pos e2] at e
    have := hinj j i (by omega) hi (hf1.2.2 _ _ (hz j (by omega)) (hz i hi) e)
    omega
  · rw [if_neg e2] at e
    have := hinj (j + 1) i (by omega) hi (hf1.2.2 _ _ (hz (j + 1) (by omega)) (hz i hi) e)
    omega
def ww_outQ (g : ww_G) (M : ww_M) (c ea P W kl f z D : Nat → Nat) (E : Nat → Nat → Int32) (n u w m i : Nat) (S : Nat → Nat → Int32) : Option Value → ww_M → Prop := fun v M' => v = some (.int (nI (q_cnt (fun j => i ≤ j ∧ D (j + 1) = D i) (m - 1)))) ∧ ww_rc g M' c ea P W kl f (q_del z i) (q_del D i) E n u w (m - 1) (ww_u2 S 12 (z i) 0) ∧ ww_ck c M M'
set_option maxRecDepth 20000 in
theorem c_out_0 (hr : ww_rc g M c ea P W kl f z D E n u w m S) (h8 : m ≤ 8) (h0 : 0 < m) (hz : ∀ j, j < m → z j < n) (hD : ∀ j, j < m → D j < 3) (hinj : ∀ i j, i < m → j < m → z i = z j → i = j) : ww_C g wy_X6_out 6 0 0 [.ref (c 0)] M (ww_outQ g M c ea P W kl f z D E n u w m (q_mi (fun j => S 28 (z j)) m) S) ww_no := by
  refine ww_ent (by decide +kernel) (Nat.le_of_ble_eq_true rfl) ⟨rfl, trivial⟩ ?_
  have hsl := hr.2.2.1.2.1.2
  have e2 := l_isEmpty (g := g) hsl (by omega)
  rw [if_neg (by omega)] at e2
  have hs := c_send (g := g) hr.2.2.1.1.2.1 hr.2.2.1.2.1.1 hsl h8 h0
  have ei : q_mi (fun j => ww_I M 177 (P (z j))) m = q_mi (fun j => S 28 (z j)) m := q_mi_cg (fun j hj => (hr.1.2.1.1.1 _ (hz j hj)).2.2.2.2.2.1.2.2.2.2.2.2.2.2)
  have hlt := q_mi_lt (fun j => S 28 (z j)) h0
  rw [ei] at hs
  generalize hi : q_mi (fun j => S 28 (z j)) m = i at *
  refine ww_aload_n (i := 0) dX6_out_0 rfl rfl ?_
  refine ww_getR (f := 283) wf_X6_32 dX6_out_1 rfl rfl (show ww_is _ _ 7 from hr.1.1.1).1 (show ww_is _ _ 7 from hr.1.1.1).2 hr.2.2.1.1.1 ?_
  refine ww_getR (f := 241) wf_X6_280 dX6_out_4 rfl rfl (show ww_is _ _ 6 from hr.2.2.1.1.2.1).1 (show ww_is _ _ 6 from hr.2.2.1.1.2.1).2 hr.2.2.1.2.1.1 ?_
  refine ww_callV (κ := 0) (r := (RJx4a65c, TJx4a65c, 3)) wk_X6_277 dX6_out_7 (e2) rfl rfl (show ww_is _ _ 0 from hsl.1).1 (show ww_is _ _ 0 from hsl.1).2 rfl rfl (by omega) (by omega) (by omega) (by first | exact Nat.le_of_ble_eq_true rfl | (simp [ww_rf_cat, Value.category])) rfl (fun E M9 h9 => h9.elim) (fun v9 M9 h9 => ?_)
  obtain ⟨rfl, rfl⟩ := h9
  refine ww_if_eq_t (tgt := 24) dX6_out_10 (by decide) (by decide) ?_
  refine ww_aload_n (i := 0) dX6_out_24 rfl rfl ?_
  refine ww_getR (f := 283) wf_X6_32 dX6_out_25 rfl rfl (show ww_is _ _ 7 from hr.1.1.1).1 (show ww_is _ _ 7 from hr.1.1.1).2 hr.2.2.1.1.1 ?_
  refine ww_callV (κ := 6) (r := (RX5, TX5, 5)) wk_X6_290 dX6_out_28 (hs) rfl rfl (show ww_is _ _ 6 from hr.2.2.1.1.2.1).1 (show ww_is _ _ 6 from hr.2.2.1.1.2.1).2 rfl rfl (by omega) (by omega) (by omega) (by first | exact Nat.le_of_ble_eq_true rfl | (simp [ww_rf_cat, Value.category])) rfl (fun E M9 h9 => h9.elim) (fun v9 M9 h9 => ?_)
  obtain ⟨M2, k1, k2, rfl, rfl⟩ := h9
  -- at 31, locals [0]
  refine ww_geL (fun hge => ?_)
  obtain ⟨hr2, hck2, h17⟩ := ww_rc_out hr hlt hz hinj k1 k2 hge
  have ev : q_cnt (fun j => i ≤ j ∧ ww_I M2 176 (q_del (fun i => P (z i)) i j) = ww_I M2 176 (P (z i))) (m - 1) = q_cnt (fun j => i ≤ j ∧ D (j + 1) = D i) (m - 1) := q_cnt_cg (fun j hj => by
    constructor
    · rintro ⟨a1, a2⟩
      unfold q_del at a2
      rw [if_neg (by omega), h17 (j + 1) (by omega), h17 i hlt] at a2
      exact ⟨a1, (nI_eq (by have := hD (j + 1) (by omega); omega) (by have := hD i hlt; omega)).mp a2⟩
    · rintro ⟨a1, a2⟩
      unfold q_del
      rw [if_neg (by omega), h17 (j + 1) (by omega), h17 i hlt, a2]
      exact ⟨a1, rfl⟩)
  rw [ev]
  exact ww_ireturn dX6_out_31 rfl rfl ⟨rfl, hr2, hck2⟩
set_option maxRecDepth 20000 in
theorem c_out_1 (hr : ww_rc g M c ea P W kl f z D E n u w 0 S) : ww_C g wy_X6_out 9 1 6 [.ref (c 0)] M ww_nr (ww_th "java/lang/IllegalStateException" M) := by
  refine ww_ent (by decide +kernel) (Nat.le_of_ble_eq_true rfl) ⟨rfl, trivial⟩ ?_
  have hsl := hr.2.2.1.2.1.2
  have e2 := l_isEmpty (g := g) hsl (by decide)
  rw [if_pos rfl] at e2
  refine ww_aload_n (i := 0) dX6_out_0 rfl rfl ?_
  refine ww_getR (f := 283) wf_X6_32 dX6_out_1 rfl rfl (show ww_is _ _ 7 from hr.1.1.1).1 (show ww_is _ _ 7 from hr.1.1.1).2 hr.2.2.1.1.1 ?_
  refine ww_getR (f := 241) wf_X6_280 dX6_out_4 rfl rfl (show ww_is _ _ 6 from hr.2.2.1.1.2.1).1 (show ww_is _ _ 6 from hr.2.2.1.1.2.1).2 hr.2.2.1.2.1.1 ?_
  refine ww_callV (κ := 0) (r := (RJx4a65c, TJx4a65c, 3)) wk_X6_277 dX6_out_7 (e2) rfl rfl (show ww_is _ _ 0 from hsl.1).1 (show ww_is _ _ 0 from hsl.1).2 rfl rfl (by omega) (by omega) (by omega) (by first | exact Nat.le_of_ble_eq_true rfl | (simp [ww_rf_cat, Value.category])) rfl (fun E M9 h9 => h9.elim) (fun v9 M9 h9 => ?_)
  obtain ⟨rfl, rfl⟩ := h9
  refine ww_if_eq_f (tgt := 24) dX6_out_10 (by decide) (by decide) ?_
  exact ww_throwW wx_X6_56_288 dX6_out_13 dX6_out_16 dX6_out_17 dX6_out_20 dX6_out_23 rfl (Nat.le_of_ble_eq_true rfl) (by omega) (by omega) (by first | exact Nat.le_of_ble_eq_true rfl | (simp [ww_rf_cat, Value.category])) ⟨rfl, rfl⟩
end WWB3
