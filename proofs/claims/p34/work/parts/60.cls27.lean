/-! ===== the yard's plans, and who stands where ===== -/
theorem ww_sI_id {M : ww_M} {f a : Nat} {v : Int32} (h : ww_I M f a = v) : ww_sI M f a v = M := by
  unfold ww_sI
  rw [show ww_u2 (ww_I M) f a v = ww_I M from ww_u2_id h]
  rfl
/-- the number of the one found -/
def q_on (N : Nat → Int32) : Option Nat → Int32
  | none => -1
  | some i => N i
section WWU1
variable {g : ww_G} {M M1 : ww_M} {a e n w y wl we yb sl se m : Nat} {f : Nat → Nat} {v : Int32}
set_option maxRecDepth 20000 in
set_option maxHeartbeats 4000000 in
theorem c_trainOn_l (hy : ww_is M.1 y 6) (hs : ww_R M 241 y = some sl) (hl : ww_ls g M 4 sl se m f) (h8 : m ≤ 8) (k : Int32) : ∀ d i j, i + d = m → j ≤ i → ww_A g wy_X5_trainOn 4 0 0 M 5 [(0, .ref y), (1, .int v), (2, .int k), (3, .int (nI j)), (4, .int (nI i))] [] (ww_ret (some (.int (q_on (fun i => ww_I M 160 (f i)) (q_fj (fun i => ww_I M 176 (f i) = v) k d i j)))) M) ww_no
  | 0, i, j, hm, hj => by
    have e0 : i = m := by omega
    subst e0
    refine ww_iload (i := 4) dX5_trainOn_5 rfl ?_
    refine ww_aload_n (i := 0) dX5_trainOn_7 rfl rfl ?_
    refine ww_getR (f := 241) wf_X5_18 dX5_trainOn_8 rfl rfl (show ww_is _ _ 6 from hy).1 (show ww_is _ _ 6 from hy).2 hs ?_
    refine ww_callV (κ := 0) (r := (RJx4a65c, TJx4a65c, 3)) wk_X5_25 dX5_trainOn_11 (l_size hl) rfl rfl (show ww_is _ _ 0 from hl.1).1 (show ww_is _ _ 0 from hl.1).2 rfl rfl (by omega) (by omega) (by omega) (by first | exact Nat.le_of_ble_eq_true rfl | (simp [ww_rf_cat, Value.category])) rfl (fun E M9 h9 => h9.elim) (fun v9 M9 h9 => ?_)
    obtain ⟨rfl, rfl⟩ := h9
    refine ww_icmp_ge_t (tgt := 60) dX5_trainOn_14 (by decide) (nI_le (Nat.le_refl _) (by omega)) ?_
    refine ww_iconst (v := (-1)) dX5_trainOn_60 (by decide) ?_
    exact ww_ireturn dX5_trainOn_61 rfl (by first | rfl | exact ww_b_nar) ⟨rfl, rfl⟩
  | d + 1, i, j, hm, hj => by
    have hp := ww_ls_el hl (i := i) (by omega)
    unfold q_fj
    by_cases c : ww_I M 176 (f i) = v
    · rw [q_if_t c]
      by_cases c2 : nI j = k
      · rw [if_pos c2]
        refine ww_iload (i := 4) dX5_trainOn_5 rfl ?_
        refine ww_aload_n (i := 0) dX5_trainOn_7 rfl rfl ?_
        refine ww_getR (f := 241) wf_X5_18 dX5_trainOn_8 rfl rfl (show ww_is _ _ 6 from hy).1 (show ww_is _ _ 6 from hy).2 hs ?_
        refine ww_callV (κ := 0) (r := (RJx4a65c, TJx4a65c, 3)) wk_X5_25 dX5_trainOn_11 (l_size hl) rfl rfl (show ww_is _ _ 0 from hl.1).1 (show ww_is _ _ 0 from hl.1).2 rfl rfl (by omega) (by omega) (by omega) (by first | exact Nat.le_of_ble_eq_true rfl | (simp [ww_rf_cat, Value.category])) rfl (fun E M9 h9 => h9.elim) (fun v9 M9 h9 => ?_)
        obtain ⟨rfl, rfl⟩ := h9
        refine ww_icmp_ge_f (tgt := 60) dX5_trainOn_14 (by decide) (nI_ge (by omega) (by omega)) ?_
        refine ww_aload_n (i := 0) dX5_trainOn_17 rfl rfl ?_
        refine ww_getR (f := 241) wf_X5_18 dX5_trainOn_18 rfl rfl (show ww_is _ _ 6 from hy).1 (show ww_is _ _ 6 from hy).2 hs ?_
        refine ww_iload (i := 4) dX5_trainOn_21 rfl ?_
        refine ww_callV (κ := 0) (r := (RJx4a65c, TJx4a65c, 3)) wk_X5_29 dX5_trainOn_23 (l_get hl (by omega)) rfl rfl (show ww_is _ _ 0 from hl.1).1 (show ww_is _ _ 0 from hl.1).2 rfl rfl (by omega) (by omega) (by omega) (by first | exact Nat.le_of_ble_eq_true rfl | (simp [ww_rf_cat, Value.category])) rfl (fun E M9 h9 => h9.elim) (fun v9 M9 h9 => ?_)
        obtain ⟨rfl, rfl⟩ := h9
        refine ww_cast (nm := "") (κ := 4) (r := (RX3, TX3, 18)) dX5_trainOn_26 (show ww_is _ _ 4 from hp).1 (show ww_is _ _ 4 from hp).2 rfl wm_683 ?_
        first | refine ww_astore (i := 5) (lv2 := [(0, _), (1, _), (2, _), (3, _), (4, _), (5, _)]) dX5_trainOn_29 (Nat.le_of_ble_eq_true rfl) rfl ?_ | refine ww_astoreQ (i := 5) (lv2 := [(0, _), (1, _), (2, _), (3, _), (4, _), (5, _)]) dX5_trainOn_29 (Nat.le_of_ble_eq_true rfl) rfl ?_
        refine ww_aload (i := 5) dX5_trainOn_31 rfl ?_
        refine ww_getI (f := 176) wf_X5_63 dX5_trainOn_33 rfl rfl (show ww_is _ _ 4 from hp).1 (show ww_is _ _ 4 from hp).2 ?_
        refine ww_iload_n (i := 1) dX5_trainOn_36 rfl rfl ?_
        refine ww_icmp_ne_f (tgt := 54) dX5_trainOn_37 (by decide) c ?_
        refine ww_iload_n (i := 3) dX5_trainOn_40 rfl rfl ?_
        refine ww_iload_n (i := 2) dX5_trainOn_41 rfl rfl ?_
        refine ww_icmp_ne_f (tgt := 51) dX5_trainOn_42 (by decide) c2 ?_
        refine ww_aload (i := 5) dX5_trainOn_45 rfl ?_
        refine ww_getI (f := 160) wf_X5_76 dX5_trainOn_47 rfl rfl (show ww_is _ _ 4 from hp).1 (show ww_is _ _ 4 from hp).2 ?_
        exact ww_ireturn dX5_trainOn_50 rfl (by first | rfl | exact ww_b_nar) ⟨rfl, rfl⟩
      · rw [if_neg c2]
        have hcl := c_trainOn_l hy hs hl h8 k d (i + 1) (j + 1) (by omega) (by omega)
        refine ww_iload (i := 4) dX5_trainOn_5 rfl ?_
        refine ww_aload_n (i := 0) dX5_trainOn_7 rfl rfl ?_
        refine ww_getR (f := 241) wf_X5_18 dX5_trainOn_8 rfl rfl (show ww_is _ _ 6 from hy).1 (show ww_is _ _ 6 from hy).2 hs ?_
        refine ww_callV (κ := 0) (r := (RJx4a65c, TJx4a65c, 3)) wk_X5_25 dX5_trainOn_11 (l_size hl) rfl rfl (show ww_is _ _ 0 from hl.1).1 (show ww_is _ _ 0 from hl.1).2 rfl rfl (by omega) (by omega) (by omega) (by first | exact Nat.le_of_ble_eq_true rfl | (simp [ww_rf_cat, Value.category])) rfl (fun E M9 h9 => h9.elim) (fun v9 M9 h9 => ?_)
        obtain ⟨rfl, rfl⟩ := h9
        refine ww_icmp_ge_f (tgt := 60) dX5_trainOn_14 (by decide) (nI_ge (by omega) (by omega)) ?_
        refine ww_aload_n (i := 0) dX5_trainOn_17 rfl rfl ?_
        refine ww_getR (f := 241) wf_X5_18 dX5_trainOn_18 rfl rfl (show ww_is _ _ 6 from hy).1 (show ww_is _ _ 6 from hy).2 hs ?_
        refine ww_iload (i := 4) dX5_trainOn_21 rfl ?_
        refine ww_callV (κ := 0) (r := (RJx4a65c, TJx4a65c, 3)) wk_X5_29 dX5_trainOn_23 (l_get hl (by omega)) rfl rfl (show ww_is _ _ 0 from hl.1).1 (show ww_is _ _ 0 from hl.1).2 rfl rfl (by omega) (by omega) (by omega) (by first | exact Nat.le_of_ble_eq_true rfl | (simp [ww_rf_cat, Value.category])) rfl (fun E M9 h9 => h9.elim) (fun v9 M9 h9 => ?_)
        obtain ⟨rfl, rfl⟩ := h9
        refine ww_cast (nm := "") (κ := 4) (r := (RX3, TX3, 18)) dX5_trainOn_26 (show ww_is _ _ 4 from hp).1 (show ww_is _ _ 4 from hp).2 rfl wm_683 ?_
        first | refine ww_astore (i := 5) (lv2 := [(0, _), (1, _), (2, _), (3, _), (4, _), (5, _)]) dX5_trainOn_29 (Nat.le_of_ble_eq_true rfl) rfl ?_ | refine ww_astoreQ (i := 5) (lv2 := [(0, _), (1, _), (2, _), (3, _), (4, _), (5, _)]) dX5_trainOn_29 (Nat.le_of_ble_eq_true rfl) rfl ?_
        refine ww_aload (i := 5) dX5_trainOn_31 rfl ?_
        refine ww_getI (f := 176) wf_X5_63 dX5_trainOn_33 rfl rfl (show ww_is _ _ 4 from hp).1 (show ww_is _ _ 4 from hp).2 ?_
        refine ww_iload_n (i := 1) dX5_trainOn_36 rfl rfl ?_
        refine ww_icmp_ne_f (tgt := 54) dX5_trainOn_37 (by decide) c ?_
        refine ww_iload_n (i := 3) dX5_trainOn_40 rfl rfl ?_
        refine ww_iload_n (i := 2) dX5_trainOn_41 rfl rfl ?_
        refine ww_icmp_ne_t (tgt := 51) dX5_trainOn_42 (by decide) c2 ?_
        refine ww_iinc (i := 3) (v := _ + 1) (lv2 := [(0, _), (1, _), (2, _), (3, _), (4, _), (5, _)]) dX5_trainOn_51 rfl (by rfl) (Nat.le_of_ble_eq_true rfl) rfl ?_
        refine ww_iinc (i := 4) (v := _ + 1) (lv2 := [(0, _), (1, _), (2, _), (3, _), (4, _), (5, _)]) dX5_trainOn_54 rfl (by rfl) (Nat.le_of_ble_eq_true rfl) rfl ?_
        refine ww_goto (tgt := 5) dX5_trainOn_57 (by decide) ?_
        -- at 5, locals [0, 1, 2, 3, 4, 5]
        rw [nI_1, nI_1]
        exact ww_subk hcl ⟨rfl, rfl, rfl, rfl, rfl, trivial⟩
    · rw [q_if_f c]
      have hcl := c_trainOn_l hy hs hl h8 k d (i + 1) j (by omega) (by omega)
      refine ww_iload (i := 4) dX5_trainOn_5 rfl ?_
      refine ww_aload_n (i := 0) dX5_trainOn_7 rfl rfl ?_
      refine ww_getR (f := 241) wf_X5_18 dX5_trainOn_8 rfl rfl (show ww_is _ _ 6 from hy).1 (show ww_is _ _ 6 from hy).2 hs ?_
      refine ww_callV (κ := 0) (r := (RJx4a65c, TJx4a65c, 3)) wk_X5_25 dX5_trainOn_11 (l_size hl) rfl rfl (show ww_is _ _ 0 from hl.1).1 (show ww_is _ _ 0 from hl.1).2 rfl rfl (by omega) (by omega) (by omega) (by first | exact Nat.le_of_ble_eq_true rfl | (simp [ww_rf_cat, Value.category])) rfl (fun E M9 h9 => h9.elim) (fun v9 M9 h9 => ?_)
      obtain ⟨rfl, rfl⟩ := h9
      refine ww_icmp_ge_f (tgt := 60) dX5_trainOn_14 (by decide) (nI_ge (by omega) (by omega)) ?_
      refine ww_aload_n (i := 0) dX5_trainOn_17 rfl rfl ?_
      refine ww_getR (f := 241) wf_X5_18 dX5_trainOn_18 rfl rfl (show ww_is _ _ 6 from hy).1 (show ww_is _ _ 6 from hy).2 hs ?_
      refine ww_iload (i := 4) dX5_trainOn_21 rfl ?_
      refine ww_callV (κ := 0) (r := (RJx4a65c, TJx4a65c, 3)) wk_X5_29 dX5_trainOn_23 (l_get hl (by omega)) rfl rfl (show ww_is _ _ 0 from hl.1).1 (show ww_is _ _ 0 from hl.1).2 rfl rfl (by omega) (by omega) (by omega) (by first | exact Nat.le_of_ble_eq_true rfl | (simp [ww_rf_cat, Value.category])) rfl (fun E M9 h9 => h9.elim) (fun v9 M9 h9 => ?_)
      obtain ⟨rfl, rfl⟩ := h9
      refine ww_cast (nm := "") (κ := 4) (r := (RX3, TX3, 18)) dX5_trainOn_26 (show ww_is _ _ 4 from hp).1 (show ww_is _ _ 4 from hp).2 rfl wm_683 ?_
      first | refine ww_astore (i := 5) (lv2 := [(0, _), (1, _), (2, _), (3, _), (4, _), (5, _)]) dX5_trainOn_29 (Nat.le_of_ble_eq_true rfl) rfl ?_ | refine ww_astoreQ (i := 5) (lv2 := [(0, _), (1, _), (2, _), (3, _), (4, _), (5, _)]) dX5_trainOn_29 (Nat.le_of_ble_eq_true rfl) rfl ?_
      refine ww_aload (i := 5) dX5_trainOn_31 rfl ?_
      refine ww_getI (f := 176) wf_X5_63 dX5_trainOn_33 rfl rfl (show ww_is _ _ 4 from hp).1 (show ww_is _ _ 4 from hp).2 ?_
      refine ww_iload_n (i := 1) dX5_trainOn_36 rfl rfl ?_
      refine ww_icmp_ne_t (tgt := 54) dX5_trainOn_37 (by decide) c ?_
      refine ww_iinc (i := 4) (v := _ + 1) (lv2 := [(0, _), (1, _), (2, _), (3, _), (4, _), (5, _)]) dX5_trainOn_54 rfl (by rfl) (Nat.le_of_ble_eq_true rfl) rfl ?_
      refine ww_goto (tgt := 5) dX5_trainOn_57 (by decide) ?_
      -- at 5, locals [0, 1, 2, 3, 4, 5]
      rw [nI_1]
      exact ww_subk hcl ⟨rfl, rfl, rfl, rfl, rfl, trivial⟩
set_option maxRecDepth 20000 in
theorem c_trainOn (hy : ww_is M.1 y 6) (hs : ww_R M 241 y = some sl) (hl : ww_ls g M 4 sl se m f) (h8 : m ≤ 8) (k : Int32) : ww_C g wy_X5_trainOn 4 0 0 [.ref y, .int v, .int k] M (ww_ret (some (.int (q_on (fun i => ww_I M 160 (f i)) (q_fj (fun i => ww_I M 176 (f i) = v) k m 0 0)))) M) ww_no := by
  refine ww_ent (by decide +kernel) (Nat.le_of_ble_eq_true rfl) ⟨rfl, rfl, rfl, trivial⟩ ?_
  have hcl := c_trainOn_l (g := g) (v := v) hy hs hl h8 k m 0 0 (by omega) (by omega)
  rw [nI_0] at hcl
  refine ww_iconst (v := 0) dX5_trainOn_0 (by decide) ?_
  refine ww_istore_n (i := 3) (lv2 := [(0, _), (1, _), (2, _), (3, _)]) dX5_trainOn_1 rfl (Nat.le_of_ble_eq_true rfl) rfl ?_
  refine ww_iconst (v := 0) dX5_trainOn_2 (by decide) ?_
  refine ww_istore (i := 4) (lv2 := [(0, _), (1, _), (2, _), (3, _), (4, _)]) dX5_trainOn_3 (Nat.le_of_ble_eq_true rfl) rfl ?_
  -- at 5, locals [0, 1, 2, 3, 4]
  exact hcl
/-- the masks of those that are in the way -/
def q_bw (T : Nat → Int32) (w : Nat) (bl : Nat → Nat) : Prop := ∀ i, i < w → q_bmask T i i (bl i)
theorem q_bl_bw {T F : Nat → Int32} {w : Nat} (h : q_bl T w F) : ∃ bl, q_bw T w bl ∧ ∀ i, i < w → F i = nI (bl i) := by
  have h2 : ∀ i, ∃ b, i < w → q_bmask T i i b ∧ F i = nI b := fun i => by
    by_cases c : i < w
    · obtain ⟨b, hb⟩ := h i c
      exact ⟨b, fun _ => hb⟩
    · exact ⟨0, fun z => absurd z c⟩
  exact ⟨fun i => Classical.choose (h2 i), fun i hi => (Classical.choose_spec (h2 i) hi).1, fun i hi => (Classical.choose_spec (h2 i) hi).2⟩
def ww_mpQ (M : ww_M) (y yb w p0 : Nat) (T : Nat → Int32) : Option Value → ww_M → Prop := fun v M' => ∃ bl F, q_bw T w bl ∧ v = some (.int (nI (q_df bl w 0 0 0 (1000, p0)).1)) ∧ ww_pl (ww_cX M yb F) y (q_df bl w 0 0 0 (1000, p0)).1 (q_df bl w 0 0 0 (1000, p0)).2 = M'
set_option maxRecDepth 20000 in
set_option maxHeartbeats 4000000 in
theorem c_makePlan (hy : ww_yd g M y wl we yb w f) {p0 : Nat} (hp0 : p0 < 2 ^ 24) (hb0 : ww_I M 244 y = nI p0) : ww_C g wy_X5_makePlan 11 0 0 [.ref y] M (ww_mpQ M y yb w p0 (fun j => ww_I M 177 (f j))) ww_no := by
  refine ww_ent (by decide +kernel) (Nat.le_of_ble_eq_true rfl) ⟨rfl, trivial⟩ ?_
  have h8 := hy.2.2.2.2.2.1
  refine ww_aload_n (i := 0) dX5_makePlan_0 rfl rfl ?_
  refine ww_callV (κ := 6) (r := (RX5, TX5, 5)) wk_X5_39 dX5_makePlan_1 (c_mark hy) rfl rfl (show ww_is _ _ 6 from hy.1).1 (show ww_is _ _ 6 from hy.1).2 rfl rfl (by omega) (by omega) (by omega) (by first | exact Nat.le_of_ble_eq_true rfl | (simp [ww_rf_cat, Value.category])) rfl (fun E M9 h9 => h9.elim) (fun v9 M9 h9 => ?_)
  obtain ⟨rfl, F, hF, rfl⟩ := h9
  refine ww_aload_n (i := 0) dX5_makePlan_4 rfl rfl ?_
  refine ww_sipush (v := 1000) dX5_makePlan_5 (by decide) ?_
  -- at 8, locals [0]
  obtain ⟨bl, hbw, hbF⟩ := q_bl_bw hF
  have hy' : ww_yd g (ww_cX M yb F) y wl we yb w f := hy
  have hb : ∀ i, i < w → bl i < 256 ∧ ww_X (ww_cX M yb F) yb i = nI (bl i) := fun i hi => ⟨(hbw i hi).1, ww_cX_X.trans (hbF i hi)⟩
  have hs := c_search (g := g) hy' hb w 0 0 0 (1000, p0) (by omega) (by decide) (by decide) (Nat.le_refl 1000) hp0
  rw [nI_0] at hs
  have e : ww_sI (ww_cX M yb F) 243 y 1000 = ww_pl (ww_cX M yb F) y 1000 p0 := (ww_sI_id (M := ww_sI (ww_cX M yb F) 243 y 1000) (show ww_I (ww_sI (ww_cX M yb F) 243 y 1000) 244 y = nI p0 from (ww_sI_f (by decide)).trans hb0)).symm
  refine ww_putI (f := 243) wf_X5_42 wt_6_3 dX5_makePlan_8 rfl rfl (show ww_is _ _ 6 from hy.1).1 (show ww_is _ _ 6 from hy.1).2 rfl rfl ?_
  -- at 11, locals [0]
  refine ww_mem _ e ?_
  have hz : ww_is (ww_pl (ww_cX M yb F) y 1000 p0).1 y 6 := hy.1
  refine ww_aload_n (i := 0) dX5_makePlan_11 rfl rfl ?_
  refine ww_iconst (v := 0) dX5_makePlan_12 (by decide) ?_
  refine ww_iconst (v := 0) dX5_makePlan_13 (by decide) ?_
  refine ww_iconst (v := 0) dX5_makePlan_14 (by decide) ?_
  refine ww_callS wk_X5_45 rfl dX5_makePlan_15 (hs) rfl rfl (by omega) (by omega) (by omega) (by first | exact Nat.le_of_ble_eq_true rfl | (simp [ww_rf_cat, Value.category])) rfl (fun E M9 h9 => h9.elim) (fun v9 M9 h9 => ?_)
  obtain ⟨rfl, rfl⟩ := h9
  -- at 18, locals [0]
  have hz2 : ww_is (ww_pl (ww_cX M yb F) y (q_df bl w 0 0 0 (1000, p0)).1 (q_df bl w 0 0 0 (1000, p0)).2).1 y 6 := hy.1
  have e2 : ww_I (ww_pl (ww_cX M yb F) y (q_df bl w 0 0 0 (1000, p0)).1 (q_df bl w 0 0 0 (1000, p0)).2) 243 y = nI (q_df bl w 0 0 0 (1000, p0)).1 := (ww_sI_f (by decide)).trans ww_sI_s
  refine ww_aload_n (i := 0) dX5_makePlan_18 rfl rfl ?_
  refine ww_getI (f := 243) wf_X5_42 dX5_makePlan_19 rfl rfl (show ww_is _ _ 6 from hz2).1 (show ww_is _ _ 6 from hz2).2 ?_
  -- at 22, locals [0]
  rw [e2]
  exact ww_ireturn dX5_makePlan_22 rfl rfl ⟨bl, F, hbw, rfl, rfl⟩
set_option maxRecDepth 20000 in
set_option maxHeartbeats 4000000 in
theorem c_makePlanAnew (hy : ww_yd g M y wl we yb w f) : ww_C g wy_X5_makePlanAnew 11 0 0 [.ref y] M (fun v M' => ∃ bl F, q_bw (fun j => ww_I M 177 (f j)) w bl ∧ v = some (.int (nI (q_fm bl w 0 0))) ∧ ww_cX M yb F = M') ww_no := by
  refine ww_ent (by decide +kernel) (Nat.le_of_ble_eq_true rfl) ⟨rfl, trivial⟩ ?_
  have h8 := hy.2.2.2.2.2.1
  refine ww_aload_n (i := 0) dX5_makePlanAnew_0 rfl rfl ?_
  refine ww_callV (κ := 6) (r := (RX5, TX5, 5)) wk_X5_39 dX5_makePlanAnew_1 (c_mark hy) rfl rfl (show ww_is _ _ 6 from hy.1).1 (show ww_is _ _ 6 from hy.1).2 rfl rfl (by omega) (by omega) (by omega) (by first | exact Nat.le_of_ble_eq_true rfl | (simp [ww_rf_cat, Value.category])) rfl (fun E M9 h9 => h9.elim) (fun v9 M9 h9 => ?_)
  obtain ⟨rfl, F, hF, rfl⟩ := h9
  -- at 4, locals [0]
  obtain ⟨bl, hbw, hbF⟩ := q_bl_bw hF
  have hy' : ww_yd g (ww_cX M yb F) y wl we yb w f := hy
  have hb : ∀ i, i < w → bl i < 256 ∧ ww_X (ww_cX M yb F) yb i = nI (bl i) := fun i hi => ⟨(hbw i hi).1, ww_cX_X.trans (hbF i hi)⟩
  have hs := c_fewest (g := g) hy' hb w 0 0 (by omega) (by decide)
  rw [nI_0] at hs
  refine ww_aload_n (i := 0) dX5_makePlanAnew_4 rfl rfl ?_
  refine ww_iconst (v := 0) dX5_makePlanAnew_5 (by decide) ?_
  refine ww_iconst (v := 0) dX5_makePlanAnew_6 (by decide) ?_
  refine ww_callS wk_X5_49 rfl dX5_makePlanAnew_7 (hs) rfl rfl (by omega) (by omega) (by omega) (by first | exact Nat.le_of_ble_eq_true rfl | (simp [ww_rf_cat, Value.category])) rfl (fun E M9 h9 => h9.elim) (fun v9 M9 h9 => ?_)
  obtain ⟨rfl, rfl⟩ := h9
  exact ww_ireturn dX5_makePlanAnew_10 rfl (by first | rfl | exact ww_b_nar) ⟨bl, F, hbw, rfl, rfl⟩
/-! sending the first one out -/
/-- the index of the least, of the first i -/
def q_mi (T : Nat → Int32) : Nat → Nat
  | 0 => 0
  | i + 1 => if T i < T (q_mi T i) then i else q_mi T i
theorem q_mi_lt (T : Nat → Int32) : ∀ {i : Nat}, 0 < i → q_mi T i < i
  | 0, h => by omega
  | i + 1, _ => by
    unfold q_mi
    by_cases c : T i < T (q_mi T i)
    · rw [if_pos c]; omega
    · rw [if_neg c]
      by_cases h : 0 < i
      · have := q_mi_lt T h; omega
      · have e : i = 0 := by omega
        rw [e]; show (0 : Nat) < _; omega
set_option maxRecDepth 20000 in
set_option maxHeartbeats 4000000 in
theorem c_send_l (hy : ww_is M.1 y 6) (hs : ww_R M 241 y = some sl) (hl : ww_ls g M 4 sl se m f) (h8 : m ≤ 8) {Q : Option Value → ww_M → Prop} {X : String → ww_M → Prop} (kk : ww_A g wy_X5_sendFirst 5 0 0 M 54 [(0, .ref y), (1, .int (nI (q_mi (fun j => ww_I M 177 (f j)) m)))] [] Q X) : ∀ d i, i + d = m → 1 ≤ i → ww_A g wy_X5_sendFirst 5 0 0 M 4 [(0, .ref y), (1, .int (nI (q_mi (fun j => ww_I M 177 (f j)) i))), (2, .int (nI i))] [] Q X
  | 0, i, hm, h1 => by
    have e0 : i = m := by omega
    subst e0
    refine ww_iload_n (i := 2) dX5_sendFirst_4 rfl rfl ?_
    refine ww_aload_n (i := 0) dX5_sendFirst_5 rfl rfl ?_
    refine ww_getR (f := 241) wf_X5_18 dX5_sendFirst_6 rfl rfl (show ww_is _ _ 6 from hy).1 (show ww_is _ _ 6 from hy).2 hs ?_
    refine ww_callV (κ := 0) (r := (RJx4a65c, TJx4a65c, 3)) wk_X5_25 dX5_sendFirst_9 (l_size hl) rfl rfl (show ww_is _ _ 0 from hl.1).1 (show ww_is _ _ 0 from hl.1).2 rfl rfl (by omega) (by omega) (by omega) (by first | exact Nat.le_of_ble_eq_true rfl | (simp [ww_rf_cat, Value.category])) rfl (fun E M9 h9 => h9.elim) (fun v9 M9 h9 => ?_)
    obtain ⟨rfl, rfl⟩ := h9
    refine ww_icmp_ge_t (tgt := 54) dX5_sendFirst_12 (by decide) (nI_le (Nat.le_refl _) (by omega)) ?_
    -- at 54, locals [0, 1, 2]
    exact ww_subk kk ⟨rfl, rfl, trivial⟩
  | d + 1, i, hm, h1 => by
    have hp := ww_ls_el hl (i := i) (by omega)
    have hlt := q_mi_lt (fun j => ww_I M 177 (f j)) h1
    have hq := ww_ls_el hl (i := q_mi (fun j => ww_I M 177 (f j)) i) (by omega)
    have hcl := c_send_l hy hs hl h8 kk d (i + 1) (by omega) (by omega)
    by_cases c : ww_I M 177 (f i) < ww_I M 177 (f (q_mi (fun j => ww_I M 177 (f j)) i))
    · rw [show q_mi (fun j => ww_I M 177 (f j)) (i + 1) = i from if_pos c] at hcl
      have c' : ¬ ww_I M 177 (f (q_mi (fun j => ww_I M 177 (f j)) i)) ≤ ww_I M 177 (f i) := by rw [ww_le']; rw [ww_lt] at c; omega
      refine ww_iload_n (i := 2) dX5_sendFirst_4 rfl rfl ?_
      refine ww_aload_n (i := 0) dX5_sendFirst_5 rfl rfl ?_
      refine ww_getR (f := 241) wf_X5_18 dX5_sendFirst_6 rfl rfl (show ww_is _ _ 6 from hy).1 (show ww_is _ _ 6 from hy).2 hs ?_
      refine ww_callV (κ := 0) (r := (RJx4a65c, TJx4a65c, 3)) wk_X5_25 dX5_sendFirst_9 (l_size hl) rfl rfl (show ww_is _ _ 0 from hl.1).1 (show ww_is _ _ 0 from hl.1).2 rfl rfl (by omega) (by omega) (by omega) (by first | exact Nat.le_of_ble_eq_true rfl | (simp [ww_rf_cat, Value.category])) rfl (fun E M9 h9 => h9.elim) (fun v9 M9 h9 => ?_)
      obtain ⟨rfl, rfl⟩ := h9
      refine ww_icmp_ge_f (tgt := 54) dX5_sendFirst_12 (by decide) (nI_ge (by omega) (by omega)) ?_
      refine ww_aload_n (i := 0) dX5_sendFirst_15 rfl rfl ?_
      refine ww_getR (f := 241) wf_X5_18 dX5_sendFirst_16 rfl rfl (show ww_is _ _ 6 from hy).1 (show ww_is _ _ 6 from hy).2 hs ?_
      refine ww_iload_n (i := 2) dX5_sendFirst_19 rfl rfl ?_
      refine ww_callV (κ := 0) (r := (RJx4a65c, TJx4a65c, 3)) wk_X5_29 dX5_sendFirst_20 (l_get hl (by omega)) rfl rfl (show ww_is _ _ 0 from hl.1).1 (show ww_is _ _ 0 from hl.1).2 rfl rfl (by omega) (by omega) (by omega) (by first | exact Nat.le_of_ble_eq_true rfl | (simp [ww_rf_cat, Value.category])) rfl (fun E M9 h9 => h9.elim) (fun v9 M9 h9 => ?_)
      obtain ⟨rfl, rfl⟩ := h9
      refine ww_cast (nm := "") (κ := 4) (r := (RX3, TX3, 18)) dX5_sendFirst_23 (show ww_is _ _ 4 from hp).1 (show ww_is _ _ 4 from hp).2 rfl wm_683 ?_
      refine ww_getI (f := 177) wf_X5_35 dX5_sendFirst_26 rfl rfl (show ww_is _ _ 4 from hp).1 (show ww_is _ _ 4 from hp).2 ?_
      refine ww_aload_n (i := 0) dX5_sendFirst_29 rfl rfl ?_
      refine ww_getR (f := 241) wf_X5_18 dX5_sendFirst_30 rfl rfl (show ww_is _ _ 6 from hy).1 (show ww_is _ _ 6 from hy).2 hs ?_
      refine ww_iload_n (i := 1) dX5_sendFirst_33 rfl rfl ?_
      refine ww_callV (κ := 0) (r := (RJx4a65c, TJx4a65c, 3)) wk_X5_29 dX5_sendFirst_34 (l_get hl (by omega)) rfl rfl (show ww_is _ _ 0 from hl.1).1 (show ww_is _ _ 0 from hl.1).2 rfl rfl (by omega) (by omega) (by omega) (by first | exact Nat.le_of_ble_eq_true rfl | (simp [ww_rf_cat, Value.category])) rfl (fun E M9 h9 => h9.elim) (fun v9 M9 h9 => ?_)
      obtain ⟨rfl, rfl⟩ := h9
      refine ww_cast (nm := "") (κ := 4) (r := (RX3, TX3, 18)) dX5_sendFirst_37 (show ww_is _ _ 4 from hq).1 (show ww_is _ _ 4 from hq).2 rfl wm_683 ?_
      refine ww_getI (f := 177) wf_X5_35 dX5_sendFirst_40 rfl rfl (show ww_is _ _ 4 from hq).1 (show ww_is _ _ 4 from hq).2 ?_
      refine ww_icmp_ge_f (tgt := 48) dX5_sendFirst_43 (by decide) c' ?_
      refine ww_iload_n (i := 2) dX5_sendFirst_46 rfl rfl ?_
      refine ww_istore_n (i := 1) (lv2 := [(0, _), (1, _), (2, _)]) dX5_sendFirst_47 rfl (Nat.le_of_ble_eq_true rfl) rfl ?_
      refine ww_iinc (i := 2) (v := _ + 1) (lv2 := [(0, _), (1, _), (2, _)]) dX5_sendFirst_48 rfl (by rfl) (Nat.le_of_ble_eq_true rfl) rfl ?_
      refine ww_goto (tgt := 4) dX5_sendFirst_51 (by decide) ?_
      -- at 4, locals [0, 1, 2]
      rw [nI_1]
      exact hcl
    · rw [show q_mi (fun j => ww_I M 177 (f j)) (i + 1) = q_mi (fun j => ww_I M 177 (f j)) i from if_neg c] at hcl
      have c' : ww_I M 177 (f (q_mi (fun j => ww_I M 177 (f j)) i)) ≤ ww_I M 177 (f i) := by rw [ww_le']; rw [ww_lt] at c; omega
      refine ww_iload_n (i := 2) dX5_sendFirst_4 rfl rfl ?_
      refine ww_aload_n (i := 0) dX5_sendFirst_5 rfl rfl ?_
      refine ww_getR (f := 241) wf_X5_18 dX5_sendFirst_6 rfl rfl (show ww_is _ _ 6 from hy).1 (show ww_is _ _ 6 from hy).2 hs ?_
      refine ww_callV (κ := 0) (r := (RJx4a65c, TJx4a65c, 3)) wk_X5_25 dX5_sendFirst_9 (l_size hl) rfl rfl (show ww_is _ _ 0 from hl.1).1 (show ww_is _ _ 0 from hl.1).2 rfl rfl (by omega) (by omega) (by omega) (by first | exact Nat.le_of_ble_eq_true rfl | (simp [ww_rf_cat, Value.category])) rfl (fun E M9 h9 => h9.elim) (fun v9 M9 h9 => ?_)
      obtain ⟨rfl, rfl⟩ := h9
      refine ww_icmp_ge_f (tgt := 54) dX5_sendFirst_12 (by decide) (nI_ge (by omega) (by omega)) ?_
      refine ww_aload_n (i := 0) dX5_sendFirst_15 rfl rfl ?_
      refine ww_getR (f := 241) wf_X5_18 dX5_sendFirst_16 rfl rfl (show ww_is _ _ 6 from hy).1 (show ww_is _ _ 6 from hy).2 hs ?_
      refine ww_iload_n (i := 2) dX5_sendFirst_19 rfl rfl ?_
      refine ww_callV (κ := 0) (r := (RJx4a65c, TJx4a65c, 3)) wk_X5_29 dX5_sendFirst_20 (l_get hl (by omega)) rfl rfl (show ww_is _ _ 0 from hl.1).1 (show ww_is _ _ 0 from hl.1).2 rfl rfl (by omega) (by omega) (by omega) (by first | exact Nat.le_of_ble_eq_true rfl | (simp [ww_rf_cat, Value.category])) rfl (fun E M9 h9 => h9.elim) (fun v9 M9 h9 => ?_)
      obtain ⟨rfl, rfl⟩ := h9
      refine ww_cast (nm := "") (κ := 4) (r := (RX3, TX3, 18)) dX5_sendFirst_23 (show ww_is _ _ 4 from hp).1 (show ww_is _ _ 4 from hp).2 rfl wm_683 ?_
      refine ww_getI (f := 177) wf_X5_35 dX5_sendFirst_26 rfl rfl (show ww_is _ _ 4 from hp).1 (show ww_is _ _ 4 from hp).2 ?_
      refine ww_aload_n (i := 0) dX5_sendFirst_29 rfl rfl ?_
      refine ww_getR (f := 241) wf_X5_18 dX5_sendFirst_30 rfl rfl (show ww_is _ _ 6 from hy).1 (show ww_is _ _ 6 from hy).2 hs ?_
      refine ww_iload_n (i := 1) dX5_sendFirst_33 rfl rfl ?_
      refine ww_callV (κ := 0) (r := (RJx4a65c, TJx4a65c, 3)) wk_X5_29 dX5_sendFirst_34 (l_get hl (by omega)) rfl rfl (show ww_is _ _ 0 from hl.1).1 (show ww_is _ _ 0 from hl.1).2 rfl rfl (by omega) (by omega) (by omega) (by first | exact Nat.le_of_ble_eq_true rfl | (simp [ww_rf_cat, Value.category])) rfl (fun E M9 h9 => h9.elim) (fun v9 M9 h9 => ?_)
      obtain ⟨rfl, rfl⟩ := h9
      refine ww_cast (nm := "") (κ := 4) (r := (RX3, TX3, 18)) dX5_sendFirst_37 (show ww_is _ _ 4 from hq).1 (show ww_is _ _ 4 from hq).2 rfl wm_683 ?_
      refine ww_getI (f := 177) wf_X5_35 dX5_sendFirst_40 rfl rfl (show ww_is _ _ 4 from hq).1 (show ww_is _ _ 4 from hq).2 ?_
      refine ww_icmp_ge_t (tgt := 48) dX5_sendFirst_43 (by decide) c' ?_
      refine ww_iinc (i := 2) (v := _ + 1) (lv2 := [(0, _), (1, _), (2, _)]) dX5_sendFirst_48 rfl (by rfl) (Nat.le_of_ble_eq_true rfl) rfl ?_
      refine ww_goto (tgt := 4) dX5_sendFirst_51 (by decide) ?_
      -- at 4, locals [0, 1, 2]
      rw [nI_1]
      exact hcl
set_option maxRecDepth 20000 in
set_option maxHeartbeats 4000000 in
theorem c_send_f (hy : ww_is M.1 y 6) (hs : ww_R M 241 y = some sl) (hl : ww_ls g M 4 sl se m f) (h8 : m ≤ 8) (hq : ww_is M.1 a 4) {Q : Option Value → ww_M → Prop} {X : String → ww_M → Prop} {i0 : Nat} (kk : ww_A g wy_X5_sendFirst 5 0 0 M 127 [(0, .ref y), (2, .ref a), (3, .int (nI (q_cnt (fun j => i0 ≤ j ∧ ww_I M 176 (f j) = ww_I M 176 a) m)))] [] Q X) : ∀ d i, i + d = m → i0 ≤ i → ww_A g wy_X5_sendFirst 5 0 0 M 84 [(0, .ref y), (2, .ref a), (3, .int (nI (q_cnt (fun j => i0 ≤ j ∧ ww_I M 176 (f j) = ww_I M 176 a) i))), (4, .int (nI i))] [] Q X
  | 0, i, hm, h1 => by
    have e0 : i = m := by omega
    subst e0
    refine ww_iload (i := 4) dX5_sendFirst_84 rfl ?_
    refine ww_aload_n (i := 0) dX5_sendFirst_86 rfl rfl ?_
    refine ww_getR (f := 241) wf_X5_18 dX5_sendFirst_87 rfl rfl (show ww_is _ _ 6 from hy).1 (show ww_is _ _ 6 from hy).2 hs ?_
    refine ww_callV (κ := 0) (r := (RJx4a65c, TJx4a65c, 3)) wk_X5_25 dX5_sendFirst_90 (l_size hl) rfl rfl (show ww_is _ _ 0 from hl.1).1 (show ww_is _ _ 0 from hl.1).2 rfl rfl (by omega) (by omega) (by omega) (by first | exact Nat.le_of_ble_eq_true rfl | (simp [ww_rf_cat, Value.category])) rfl (fun E M9 h9 => h9.elim) (fun v9 M9 h9 => ?_)
    obtain ⟨rfl, rfl⟩ := h9
    refine ww_icmp_ge_t (tgt := 127) dX5_sendFirst_93 (by decide) (nI_le (Nat.le_refl _) (by omega)) ?_
    -- at 127, locals [0, 2, 3, 4]
    exact ww_subk kk ⟨rfl, rfl, rfl, trivial⟩
  | d + 1, i, hm, h1 => by
    have hp := ww_ls_el hl (i := i) (by omega)
    have hcl := c_send_f hy hs hl h8 hq kk d (i + 1) (by omega) (by omega)
    by_cases c : ww_I M 176 (f i) = ww_I M 176 a
    · rw [q_cnt_s (P := fun j => i0 ≤ j ∧ ww_I M 176 (f j) = ww_I M 176 a) ⟨h1, c⟩] at hcl
      refine ww_iload (i := 4) dX5_sendFirst_84 rfl ?_
      refine ww_aload_n (i := 0) dX5_sendFirst_86 rfl rfl ?_
      refine ww_getR (f := 241) wf_X5_18 dX5_sendFirst_87 rfl rfl (show ww_is _ _ 6 from hy).1 (show ww_is _ _ 6 from hy).2 hs ?_
      refine ww_callV (κ := 0) (r := (RJx4a65c, TJx4a65c, 3)) wk_X5_25 dX5_sendFirst_90 (l_size hl) rfl rfl (show ww_is _ _ 0 from hl.1).1 (show ww_is _ _ 0 from hl.1).2 rfl rfl (by omega) (by omega) (by omega) (by first | exact Nat.le_of_ble_eq_true rfl | (simp [ww_rf_cat, Value.category])) rfl (fun E M9 h9 => h9.elim) (fun v9 M9 h9 => ?_)
      obtain ⟨rfl, rfl⟩ := h9
      refine ww_icmp_ge_f (tgt := 127) dX5_sendFirst_93 (by decide) (nI_ge (by omega) (by omega)) ?_
      refine ww_aload_n (i := 0) dX5_sendFirst_96 rfl rfl ?_
      refine ww_getR (f := 241) wf_X5_18 dX5_sendFirst_97 rfl rfl (show ww_is _ _ 6 from hy).1 (show ww_is _ _ 6 from hy).2 hs ?_
      refine ww_iload (i := 4) dX5_sendFirst_100 rfl ?_
      refine ww_callV (κ := 0) (r := (RJx4a65c, TJx4a65c, 3)) wk_X5_29 dX5_sendFirst_102 (l_get hl (by omega)) rfl rfl (show ww_is _ _ 0 from hl.1).1 (show ww_is _ _ 0 from hl.1).2 rfl rfl (by omega) (by omega) (by omega) (by first | exact Nat.le_of_ble_eq_true rfl | (simp [ww_rf_cat, Value.category])) rfl (fun E M9 h9 => h9.elim) (fun v9 M9 h9 => ?_)
      obtain ⟨rfl, rfl⟩ := h9
      refine ww_cast (nm := "") (κ := 4) (r := (RX3, TX3, 18)) dX5_sendFirst_105 (show ww_is _ _ 4 from hp).1 (show ww_is _ _ 4 from hp).2 rfl wm_683 ?_
      refine ww_getI (f := 176) wf_X5_63 dX5_sendFirst_108 rfl rfl (show ww_is _ _ 4 from hp).1 (show ww_is _ _ 4 from hp).2 ?_
      refine ww_aload_n (i := 2) dX5_sendFirst_111 rfl rfl ?_
      refine ww_getI (f := 176) wf_X5_63 dX5_sendFirst_112 rfl rfl (show ww_is _ _ 4 from hq).1 (show ww_is _ _ 4 from hq).2 ?_
      refine ww_icmp_ne_f (tgt := 121) dX5_sendFirst_115 (by decide) c ?_
      refine ww_iinc (i := 3) (v := _ + 1) (lv2 := [(0, _), (2, _), (3, _), (4, _)]) dX5_sendFirst_118 rfl (by rfl) (Nat.le_of_ble_eq_true rfl) rfl ?_
      refine ww_iinc (i := 4) (v := _ + 1) (lv2 := [(0, _), (2, _), (3, _), (4, _)]) dX5_sendFirst_121 rfl (by rfl) (Nat.le_of_ble_eq_true rfl) rfl ?_
      refine ww_goto (tgt := 84) dX5_sendFirst_124 (by decide) ?_
      -- at 84, locals [0, 2, 3, 4]
      rw [nI_1, nI_1]
      exact hcl
    · rw [q_cnt_n (P := fun j => i0 ≤ j ∧ ww_I M 176 (f j) = ww_I M 176 a) (fun z => c z.2)] at hcl
      refine ww_iload (i := 4) dX5_sendFirst_84 rfl ?_
      refine ww_aload_n (i := 0) dX5_sendFirst_86 rfl rfl ?_
      refine ww_getR (f := 241) wf_X5_18 dX5_sendFirst_87 rfl rfl (show ww_is _ _ 6 from hy).1 (show ww_is _ _ 6 from hy).2 hs ?_
      refine ww_callV (κ := 0) (r := (RJx4a65c, TJx4a65c, 3)) wk_X5_25 dX5_sendFirst_90 (l_size hl) rfl rfl (show ww_is _ _ 0 from hl.1).1 (show ww_is _ _ 0 from hl.1).2 rfl rfl (by omega) (by omega) (by omega) (by first | exact Nat.le_of_ble_eq_true rfl | (simp [ww_rf_cat, Value.category])) rfl (fun E M9 h9 => h9.elim) (fun v9 M9 h9 => ?_)
      obtain ⟨rfl, rfl⟩ := h9
      refine ww_icmp_ge_f (tgt := 127) dX5_sendFirst_93 (by decide) (nI_ge (by omega) (by omega)) ?_
      refine ww_aload_n (i := 0) dX5_sendFirst_96 rfl rfl ?_
      refine ww_getR (f := 241) wf_X5_18 dX5_sendFirst_97 rfl rfl (show ww_is _ _ 6 from hy).1 (show ww_is _ _ 6 from hy).2 hs ?_
      refine ww_iload (i := 4) dX5_sendFirst_100 rfl ?_
      refine ww_callV (κ := 0) (r := (RJx4a65c, TJx4a65c, 3)) wk_X5_29 dX5_sendFirst_102 (l_get hl (by omega)) rfl rfl (show ww_is _ _ 0 from hl.1).1 (show ww_is _ _ 0 from hl.1).2 rfl rfl (by omega) (by omega) (by omega) (by first | exact Nat.le_of_ble_eq_true rfl | (simp [ww_rf_cat, Value.category])) rfl (fun E M9 h9 => h9.elim) (fun v9 M9 h9 => ?_)
      obtain ⟨rfl, rfl⟩ := h9
      refine ww_cast (nm := "") (κ := 4) (r := (RX3, TX3, 18)) dX5_sendFirst_105 (show ww_is _ _ 4 from hp).1 (show ww_is _ _ 4 from hp).2 rfl wm_683 ?_
      refine ww_getI (f := 176) wf_X5_63 dX5_sendFirst_108 rfl rfl (show ww_is _ _ 4 from hp).1 (show ww_is _ _ 4 from hp).2 ?_
      refine ww_aload_n (i := 2) dX5_sendFirst_111 rfl rfl ?_
      refine ww_getI (f := 176) wf_X5_63 dX5_sendFirst_112 rfl rfl (show ww_is _ _ 4 from hq).1 (show ww_is _ _ 4 from hq).2 ?_
      refine ww_icmp_ne_t (tgt := 121) dX5_sendFirst_115 (by decide) c ?_
      refine ww_iinc (i := 4) (v := _ + 1) (lv2 := [(0, _), (2, _), (3, _), (4, _)]) dX5_sendFirst_121 rfl (by rfl) (Nat.le_of_ble_eq_true rfl) rfl ?_
      refine ww_goto (tgt := 84) dX5_sendFirst_124 (by decide) ?_
      -- at 84, locals [0, 2, 3, 4]
      rw [nI_1]
      exact hcl
/-- the end of sending out -/
def ww_sdQ (g : ww_G) (M : ww_M) (sl se m : Nat) (f : Nat → Nat) (i : Nat) : Option Value → ww_M → Prop := fun v M' => ∃ M2, ww_ls g M2 4 sl se (m - 1) (q_del f i) ∧ ww_fr M M2 (fun y => y = sl) (fun y => y = se) ∧ v = some (.int (nI (q_cnt (fun j => i ≤ j ∧ ww_I M2 176 (q_del f i j) = ww_I M2 176 (f i)) (m - 1)))) ∧ ww_sI M2 176 (f i) (-1) = M'
set_option maxRecDepth 20000 in
set_option maxHeartbeats 4000000 in
theorem c_send (hy : ww_is M.1 y 6) (hs : ww_R M 241 y = some sl) (hl : ww_ls g M 4 sl se m f) (h8 : m ≤ 8) (h0 : 0 < m) : ww_C g wy_X5_sendFirst 5 0 0 [.ref y] M (ww_sdQ g M sl se m f (q_mi (fun j => ww_I M 177 (f j)) m)) ww_no := by
  refine ww_ent (by decide +kernel) (Nat.le_of_ble_eq_true rfl) ⟨rfl, trivial⟩ ?_
  have hlt := q_mi_lt (fun j => ww_I M 177 (f j)) h0
  generalize hi : q_mi (fun j => ww_I M 177 (f j)) m = i at *
  have hq := ww_ls_el hl hlt
  have main : ww_A g wy_X5_sendFirst 5 0 0 M 54 [(0, .ref y), (1, .int (nI i))] [] (ww_sdQ g M sl se m f i) ww_no := by
    refine ww_iload_n (i := 1) dX5_sendFirst_54 rfl rfl ?_
    refine ww_aload_n (i := 0) dX5_sendFirst_55 rfl rfl ?_
    refine ww_getR (f := 241) wf_X5_18 dX5_sendFirst_56 rfl rfl (show ww_is _ _ 6 from hy).1 (show ww_is _ _ 6 from hy).2 hs ?_
    refine ww_callV (κ := 0) (r := (RJx4a65c, TJx4a65c, 3)) wk_X5_25 dX5_sendFirst_59 (l_size hl) rfl rfl (show ww_is _ _ 0 from hl.1).1 (show ww_is _ _ 0 from hl.1).2 rfl rfl (by omega) (by omega) (by omega) (by first | exact Nat.le_of_ble_eq_true rfl | (simp [ww_rf_cat, Value.category])) rfl (fun E M9 h9 => h9.elim) (fun v9 M9 h9 => ?_)
    obtain ⟨rfl, rfl⟩ := h9
    refine ww_icmp_lt_t (tgt := 67) dX5_sendFirst_62 (by decide) (nI_lt hlt (by omega)) ?_
    refine ww_aload_n (i := 0) dX5_sendFirst_67 rfl rfl ?_
    refine ww_getR (f := 241) wf_X5_18 dX5_sendFirst_68 rfl rfl (show ww_is _ _ 6 from hy).1 (show ww_is _ _ 6 from hy).2 hs ?_
    refine ww_iload_n (i := 1) dX5_sendFirst_71 rfl rfl ?_
    -- at 72, locals [0, 1]
    have hr := j_remove (g := g) hl hlt (r := (RX3, TX3, 18)) rfl (by decide)
    refine ww_callV (κ := 0) (r := (RJx4a65c, TJx4a65c, 3)) wk_X5_73 dX5_sendFirst_72 (hr) rfl rfl (show ww_is _ _ 0 from hl.1).1 (show ww_is _ _ 0 from hl.1).2 rfl rfl (by omega) (by omega) (by omega) (by first | exact Nat.le_of_ble_eq_true rfl | (simp [ww_rf_cat, Value.category])) rfl (fun E M9 h9 => h9.elim) (fun v9 M9 h9 => ?_)
    obtain ⟨rfl, k1, k2⟩ := h9
    -- at 75, locals [0, 1]
    have hyM : ww_is M9.1 y 6 := ⟨(k2.1 y hy.1).1, (k2.1 y hy.1).2.1.trans hy.2⟩
    have hqM : ww_is M9.1 (f i) 4 := ⟨(k2.1 _ hq.1).1, (k2.1 _ hq.1).2.1.trans hq.2⟩
    have hne : ¬ y = sl := fun z => by
      have e6 : ww_K M y = 6 := hy.2
      have e0 : ww_K M sl = 0 := hl.1.2
      rw [z, e0] at e6
      cases e6
    have hsM : ww_R M9 241 y = some sl := ((k2.2.1 241 y hy.1 hne).2).trans hs
    have fin : ww_A g wy_X5_sendFirst 5 0 0 M9 127 [(0, .ref y), (2, .ref (f i)), (3, .int (nI (q_cnt (fun j => i ≤ j ∧ ww_I M9 176 (q_del f i j) = ww_I M9 176 (f i)) (m - 1))))] [] (ww_sdQ g M sl se m f i) ww_no := by
      refine ww_aload_n (i := 2) dX5_sendFirst_127 rfl rfl ?_
      refine ww_iconst (v := (-1)) dX5_sendFirst_128 (by decide) ?_
      refine ww_putI (f := 176) wf_X5_63 wt_4_16 dX5_sendFirst_129 rfl rfl (show ww_is _ _ 4 from hqM).1 (show ww_is _ _ 4 from hqM).2 rfl rfl ?_
      refine ww_iload_n (i := 3) dX5_sendFirst_132 rfl rfl ?_
      exact ww_ireturn dX5_sendFirst_133 rfl (by first | rfl | exact ww_b_nar) ⟨M9, k1, k2, rfl, rfl⟩
    have e0 : q_cnt (fun j => i ≤ j ∧ ww_I M9 176 (q_del f i j) = ww_I M9 176 (f i)) i = 0 := by
      have z : ∀ k, k ≤ i → q_cnt (fun j => i ≤ j ∧ ww_I M9 176 (q_del f i j) = ww_I M9 176 (f i)) k = 0 := by
        intro k
        induction k with
        | zero => intro _; rfl
        | succ k ih => intro hk; rw [q_cnt_n (fun z => by have := z.1; omega)]; exact ih (by omega)
      exact z i (Nat.le_refl _)
    have hloop := c_send_f (g := g) hyM hsM k1 (by omega) hqM (i0 := i) fin (m - 1 - i) i (by omega) (Nat.le_refl _)
    rw [e0, nI_0] at hloop
    refine ww_cast (nm := "") (κ := 4) (r := (RX3, TX3, 18)) dX5_sendFirst_75 (show ww_is _ _ 4 from hqM).1 (show ww_is _ _ 4 from hqM).2 rfl wm_683 ?_
    first | refine ww_astore_n (i := 2) (lv2 := [(0, _), (1, _), (2, _)]) dX5_sendFirst_78 rfl (Nat.le_of_ble_eq_true rfl) rfl ?_ | refine ww_astore_nQ (i := 2) (lv2 := [(0, _), (1, _), (2, _)]) dX5_sendFirst_78 rfl (Nat.le_of_ble_eq_true rfl) rfl ?_
    refine ww_iconst (v := 0) dX5_sendFirst_79 (by decide) ?_
    refine ww_istore_n (i := 3) (lv2 := [(0, _), (1, _), (2, _), (3, _)]) dX5_sendFirst_80 rfl (Nat.le_of_ble_eq_true rfl) rfl ?_
    refine ww_iload_n (i := 1) dX5_sendFirst_81 rfl rfl ?_
    refine ww_istore (i := 4) (lv2 := [(0, _), (1, _), (2, _), (3, _), (4, _)]) dX5_sendFirst_82 (Nat.le_of_ble_eq_true rfl) rfl ?_
    -- at 84, locals [0, 1, 2, 3, 4]
    exact ww_subk hloop ⟨rfl, rfl, rfl, rfl, trivial⟩
  have hl2 := c_send_l (g := g) hy hs hl h8 (by rw [hi]; exact main) (m - 1) 1 (by omega) (Nat.le_refl _)
  have e1 : q_mi (fun j => ww_I M 177 (f j)) 1 = 0 := by
    unfold q_mi
    split
    · rfl
    · rfl
  rw [e1] at hl2
  refine ww_iconst (v := 0) dX5_sendFirst_0 (by decide) ?_
  refine ww_istore_n (i := 1) (lv2 := [(0, _), (1, _)]) dX5_sendFirst_1 rfl (Nat.le_of_ble_eq_true rfl) rfl ?_
  refine ww_iconst (v := 1) dX5_sendFirst_2 (by decide) ?_
  refine ww_istore_n (i := 2) (lv2 := [(0, _), (1, _), (2, _)]) dX5_sendFirst_3 rfl (Nat.le_of_ble_eq_true rfl) rfl ?_
  -- at 4, locals [0, 1, 2]
  exact ww_subk hl2 ⟨rfl, rfl, rfl, trivial⟩
end WWU1
