section WWC2
variable {g : ww_G} {Y : ww_Yd} {d kc ks : Nat} {M : ww_M} {pc : Nat} {lv : List (Nat × Value)} {st : List Value} {Q : Option Value → ww_M → Prop} {X : String → ww_M → Prop}
theorem ww_getN {κ k idx f a : Nat} (h : ww_fld Y.1.cls idx κ k) (hd : decode Y.2.1 pc = .ok (.getfield idx, 3)) (hf : 40 * κ + k = f) (hr : ww_ir f = true) (ha : a ∈ ww_L M) (hK : ww_K M a = κ) (hb : ww_R M f a = none) (kk : ww_A g Y d kc ks M (pc + 3) lv (.null :: st) Q X) : ww_A g Y d kc ks M pc lv (.ref a :: st) Q X :=
  ww_getQ h hd hf hr ha hK (by rw [hb]; exact kk)
end WWC2
section WWC3
variable {g : ww_G} {M M1 : ww_M} {a b n : Nat} {P : Nat → Nat} {kd ho : Nat → Int32}
theorem ww_hs_0 (h : ww_hs M P n ho) {i : Nat} (hi : i < n) (h0 : ho i < 0) : ww_R M 166 (P i) = none := by rw [(h i hi).2, if_pos h0]
theorem ww_hs_1 (h : ww_hs M P n ho) (h6 : n ≤ 60) {i j : Nat} (hi : i < n) (h0 : ho i = nI j) (hj : j < n) : ww_R M 166 (P i) = some (P j) := by
  rw [(h i hi).2, h0, if_neg (nI_pos (by omega)), nI_clamp (by omega)]
set_option maxRecDepth 20000 in
theorem c_top_l (hh : ww_hs M P n ho) (hg : q_gh n kd ho) (h6 : n ≤ 60) : ∀ (m k q : Nat), k + m = 5 → q < n → ww_A g wy_X3_top 1 0 0 M 4 [(0, .ref a), (1, .ref (P q)), (2, .int (nI k))] [] (ww_ret (some (.ref (P (q_hd ho m q)))) M) ww_no
  | 0, k, q, hm, hq => by
    have e : k = 5 := by omega
    subst e
    refine ww_iload_n (i := 2) dX3_top_4 rfl rfl ?_
    refine ww_iconst (v := 4) dX3_top_5 (by decide) ?_
    refine ww_icmp_gt_t (tgt := 27) dX3_top_6 (by decide) (by decide) ?_
    refine ww_aload_n (i := 1) dX3_top_27 rfl rfl ?_
    exact ww_areturn dX3_top_28 rfl (by first | exact Or.inl ⟨_, rfl⟩ | exact Or.inr ⟨_, rfl⟩) (r := some _) rfl ⟨rfl, rfl⟩
  | m + 1, k, q, hm, hq => by
    have hk : ¬ (4 : Int32) < nI k := nI_nlt (b := k) (a := 4) (by omega) (by decide)
    have hb := (hh q hq).1
    rcases q_gh_cases hg h6 hq with h1 | ⟨j, hj, e, hl⟩
    · rw [q_hd_neg h1]
      have hn := ww_hs_0 hh hq h1
      refine ww_iload_n (i := 2) dX3_top_4 rfl rfl ?_
      refine ww_iconst (v := 4) dX3_top_5 (by decide) ?_
      refine ww_icmp_gt_f (tgt := 27) dX3_top_6 (by decide) hk ?_
      refine ww_aload_n (i := 1) dX3_top_9 rfl rfl ?_
      refine ww_getN (f := 166) wf_X3_38 dX3_top_10 rfl rfl (show ww_is _ _ 4 from hb).1 (show ww_is _ _ 4 from hb).2 hn ?_
      refine ww_ifnull_t (tgt := 27) dX3_top_13 (by decide) ?_
      refine ww_aload_n (i := 1) dX3_top_27 rfl rfl ?_
      exact ww_areturn dX3_top_28 rfl (by first | exact Or.inl ⟨_, rfl⟩ | exact Or.inr ⟨_, rfl⟩) (r := some _) rfl ⟨rfl, rfl⟩
    · rw [q_hd_pos e (by omega)]
      have hn := ww_hs_1 hh h6 hq e hj
      refine ww_iload_n (i := 2) dX3_top_4 rfl rfl ?_
      refine ww_iconst (v := 4) dX3_top_5 (by decide) ?_
      refine ww_icmp_gt_f (tgt := 27) dX3_top_6 (by decide) hk ?_
      refine ww_aload_n (i := 1) dX3_top_9 rfl rfl ?_
      refine ww_getR (f := 166) wf_X3_38 dX3_top_10 rfl rfl (show ww_is _ _ 4 from hb).1 (show ww_is _ _ 4 from hb).2 hn ?_
      refine ww_ifnull_f dX3_top_13 ?_
      refine ww_aload_n (i := 1) dX3_top_16 rfl rfl ?_
      refine ww_getR (f := 166) wf_X3_38 dX3_top_17 rfl rfl (show ww_is _ _ 4 from hb).1 (show ww_is _ _ 4 from hb).2 hn ?_
      first | refine ww_astore_n (i := 1) (lv2 := [(0, _), (1, _), (2, _)]) dX3_top_20 rfl (Nat.le_of_ble_eq_true rfl) rfl ?_ | refine ww_astore_nQ (i := 1) (lv2 := [(0, _), (1, _), (2, _)]) dX3_top_20 rfl (Nat.le_of_ble_eq_true rfl) rfl ?_
      refine ww_iinc (i := 2) (v := _ + 1) (lv2 := [(0, _), (1, _), (2, _)]) dX3_top_21 rfl (by rfl) (Nat.le_of_ble_eq_true rfl) rfl ?_
      refine ww_goto (tgt := 4) dX3_top_24 (by decide) ?_
      -- at 4, locals [0, 1, 2]
      rw [nI_1]
      exact c_top_l hh hg h6 m (k + 1) j (by omega) hj
set_option maxRecDepth 20000 in
theorem c_top (hh : ww_hs M P n ho) (hg : q_gh n kd ho) (h6 : n ≤ 60) {p : Nat} (hp : p < n) : ww_C g wy_X3_top 1 0 0 [.ref (P p)] M (ww_ret (some (.ref (P (q_hd ho 5 p)))) M) ww_no := by
  refine ww_ent (by decide +kernel) (Nat.le_of_ble_eq_true rfl) ⟨rfl, trivial⟩ ?_
  have hl := c_top_l (g := g) (a := P p) hh hg h6 5 0 p (by omega) hp
  rw [nI_0] at hl
  refine ww_aload_n (i := 0) dX3_top_0 rfl rfl ?_
  first | refine ww_astore_n (i := 1) (lv2 := [(0, _), (1, _)]) dX3_top_1 rfl (Nat.le_of_ble_eq_true rfl) rfl ?_ | refine ww_astore_nQ (i := 1) (lv2 := [(0, _), (1, _)]) dX3_top_1 rfl (Nat.le_of_ble_eq_true rfl) rfl ?_
  refine ww_iconst (v := 0) dX3_top_2 (by decide) ?_
  refine ww_istore_n (i := 2) (lv2 := [(0, _), (1, _), (2, _)]) dX3_top_3 rfl (Nat.le_of_ble_eq_true rfl) rfl ?_
  -- at 4, locals [0, 1, 2]
  exact hl
set_option maxRecDepth 20000 in
theorem c_isBound (hh : ww_hs M P n ho) (hg : q_gh n kd ho) (h6 : n ≤ 60) {p : Nat} (hp : p < n) : ww_C g wy_X3_isBound 2 0 0 [.ref (P p)] M (ww_ret (some (.int (if ww_I M 176 (P (q_hd ho 5 p)) = -1 then 0 else 1))) M) ww_no := by
  refine ww_ent (by decide +kernel) (Nat.le_of_ble_eq_true rfl) ⟨rfl, trivial⟩ ?_
  have ha := (hh p hp).1
  have ht := (hh _ (q_hd_lt hg h6 5 p hp)).1
  by_cases h1 : ww_I M 176 (P (q_hd ho 5 p)) = -1
  · rw [if_pos h1]
    refine ww_aload_n (i := 0) dX3_isBound_0 rfl rfl ?_
    refine ww_callV (κ := 4) (r := (RX3, TX3, 18)) wk_X3_46 dX3_isBound_1 (c_top hh hg h6 hp) rfl rfl (show ww_is _ _ 4 from ha).1 (show ww_is _ _ 4 from ha).2 rfl rfl (by omega) (by omega) (by omega) (by first | exact Nat.le_of_ble_eq_true rfl | (simp [ww_rf_cat, Value.category])) rfl (fun E M9 h9 => h9.elim) (fun v9 M9 h9 => ?_)
    obtain ⟨rfl, rfl⟩ := h9
    refine ww_getI (f := 176) wf_X3_9 dX3_isBound_4 rfl rfl (show ww_is _ _ 4 from ht).1 (show ww_is _ _ 4 from ht).2 ?_
    refine ww_iconst (v := (-1)) dX3_isBound_7 (by decide) ?_
    refine ww_icmp_eq_t (tgt := 15) dX3_isBound_8 (by decide) h1 ?_
    refine ww_iconst (v := 0) dX3_isBound_15 (by decide) ?_
    exact ww_ireturn dX3_isBound_16 rfl (by first | rfl | exact ww_b_nar) ⟨rfl, rfl⟩
  · rw [if_neg h1]
    refine ww_aload_n (i := 0) dX3_isBound_0 rfl rfl ?_
    refine ww_callV (κ := 4) (r := (RX3, TX3, 18)) wk_X3_46 dX3_isBound_1 (c_top hh hg h6 hp) rfl rfl (show ww_is _ _ 4 from ha).1 (show ww_is _ _ 4 from ha).2 rfl rfl (by omega) (by omega) (by omega) (by first | exact Nat.le_of_ble_eq_true rfl | (simp [ww_rf_cat, Value.category])) rfl (fun E M9 h9 => h9.elim) (fun v9 M9 h9 => ?_)
    obtain ⟨rfl, rfl⟩ := h9
    refine ww_getI (f := 176) wf_X3_9 dX3_isBound_4 rfl rfl (show ww_is _ _ 4 from ht).1 (show ww_is _ _ 4 from ht).2 ?_
    refine ww_iconst (v := (-1)) dX3_isBound_7 (by decide) ?_
    refine ww_icmp_eq_f (tgt := 15) dX3_isBound_8 (by decide) h1 ?_
    refine ww_iconst (v := 1) dX3_isBound_11 (by decide) ?_
    refine ww_goto (tgt := 16) dX3_isBound_12 (by decide) ?_
    exact ww_ireturn dX3_isBound_16 rfl (by first | rfl | exact ww_b_nar) ⟨rfl, rfl⟩
set_option maxRecDepth 20000 in
theorem c_isInStore (hh : ww_hs M P n ho) (hg : q_gh n kd ho) (h6 : n ≤ 60) {p : Nat} (hp : p < n) : ww_C g wy_X3_isInStore 1 0 0 [.ref (P p)] M (ww_ret (some (.int (if ho p < 0 ∧ ww_I M 167 (P p) = 0 then 1 else 0))) M) ww_no := by
  refine ww_ent (by decide +kernel) (Nat.le_of_ble_eq_true rfl) ⟨rfl, trivial⟩ ?_
  have ha := (hh p hp).1
  rcases q_gh_cases hg h6 hp with h1 | ⟨j, hj, e, hl⟩
  · have hn := ww_hs_0 hh hp h1
    by_cases h2 : ww_I M 167 (P p) = 0
    · rw [if_pos ⟨h1, h2⟩]
      refine ww_aload_n (i := 0) dX3_isInStore_0 rfl rfl ?_
      refine ww_getN (f := 166) wf_X3_38 dX3_isInStore_1 rfl rfl (show ww_is _ _ 4 from ha).1 (show ww_is _ _ 4 from ha).2 hn ?_
      refine ww_ifnonnull_f dX3_isInStore_4 ?_
      refine ww_aload_n (i := 0) dX3_isInStore_7 rfl rfl ?_
      refine ww_getI (f := 167) wf_X3_42 dX3_isInStore_8 rfl rfl (show ww_is _ _ 4 from ha).1 (show ww_is _ _ 4 from ha).2 ?_
      refine ww_if_ne_f (tgt := 18) dX3_isInStore_11 (by decide) h2 ?_
      refine ww_iconst (v := 1) dX3_isInStore_14 (by decide) ?_
      refine ww_goto (tgt := 19) dX3_isInStore_15 (by decide) ?_
      exact ww_ireturn dX3_isInStore_19 rfl (by first | rfl | exact ww_b_nar) ⟨rfl, rfl⟩
    · rw [if_neg (fun z => h2 z.2)]
      refine ww_aload_n (i := 0) dX3_isInStore_0 rfl rfl ?_
      refine ww_getN (f := 166) wf_X3_38 dX3_isInStore_1 rfl rfl (show ww_is _ _ 4 from ha).1 (show ww_is _ _ 4 from ha).2 hn ?_
      refine ww_ifnonnull_f dX3_isInStore_4 ?_
      refine ww_aload_n (i := 0) dX3_isInStore_7 rfl rfl ?_
      refine ww_getI (f := 167) wf_X3_42 dX3_isInStore_8 rfl rfl (show ww_is _ _ 4 from ha).1 (show ww_is _ _ 4 from ha).2 ?_
      refine ww_if_ne_t (tgt := 18) dX3_isInStore_11 (by decide) h2 ?_
      refine ww_iconst (v := 0) dX3_isInStore_18 (by decide) ?_
      exact ww_ireturn dX3_isInStore_19 rfl (by first | rfl | exact ww_b_nar) ⟨rfl, rfl⟩
  · have hn := ww_hs_1 hh h6 hp e hj
    rw [if_neg (fun z => absurd z.1 (by rw [e]; exact nI_pos (by omega)))]
    refine ww_aload_n (i := 0) dX3_isInStore_0 rfl rfl ?_
    refine ww_getR (f := 166) wf_X3_38 dX3_isInStore_1 rfl rfl (show ww_is _ _ 4 from ha).1 (show ww_is _ _ 4 from ha).2 hn ?_
    refine ww_ifnonnull_t (tgt := 18) dX3_isInStore_4 (by decide) ?_
    refine ww_iconst (v := 0) dX3_isInStore_18 (by decide) ?_
    exact ww_ireturn dX3_isInStore_19 rfl (by first | rfl | exact ww_b_nar) ⟨rfl, rfl⟩
/-- its number where it is in, -2 when scrapped, else -1 -/
theorem c_whereabouts (hh : ww_hs M P n ho) (hg : q_gh n kd ho) (h6 : n ≤ 60) (hnum : ∀ i, i < n → ww_I M 160 (P i) = nI i) {p : Nat} (hp : p < n) (hs : ho p < 0 → ww_I M 167 (P p) = if ho p = -2 then 1 else 0) (hc : ho p < 0 → ho p = -1 ∨ ho p = -2) : ww_C g wy_X3_whereabouts 1 0 0 [.ref (P p)] M (ww_ret (some (.int (ho p))) M) ww_no := by
  refine ww_ent (by decide +kernel) (Nat.le_of_ble_eq_true rfl) ⟨rfl, trivial⟩ ?_
  have ha := (hh p hp).1
  rcases q_gh_cases hg h6 hp with h1 | ⟨j, hj, e, hl⟩
  · have hn := ww_hs_0 hh hp h1
    have h7 := hs h1
    rcases hc h1 with h2 | h2
    · have h7 : ww_I M 167 (P p) = 0 := by rw [h7, h2]; decide
      rw [h2]
      refine ww_aload_n (i := 0) dX3_whereabouts_0 rfl rfl ?_
      refine ww_getN (f := 166) wf_X3_38 dX3_whereabouts_1 rfl rfl (show ww_is _ _ 4 from ha).1 (show ww_is _ _ 4 from ha).2 hn ?_
      refine ww_ifnull_t (tgt := 15) dX3_whereabouts_4 (by decide) ?_
      refine ww_aload_n (i := 0) dX3_whereabouts_15 rfl rfl ?_
      refine ww_getI (f := 167) wf_X3_42 dX3_whereabouts_16 rfl rfl (show ww_is _ _ 4 from ha).1 (show ww_is _ _ 4 from ha).2 ?_
      refine ww_if_eq_t (tgt := 27) dX3_whereabouts_19 (by decide) h7 ?_
      refine ww_iconst (v := (-1)) dX3_whereabouts_27 (by decide) ?_
      exact ww_ireturn dX3_whereabouts_28 rfl (by first | rfl | exact ww_b_nar) ⟨rfl, rfl⟩
    · have h7 : ¬ ww_I M 167 (P p) = 0 := by rw [h7, h2]; decide
      rw [h2]
      refine ww_aload_n (i := 0) dX3_whereabouts_0 rfl rfl ?_
      refine ww_getN (f := 166) wf_X3_38 dX3_whereabouts_1 rfl rfl (show ww_is _ _ 4 from ha).1 (show ww_is _ _ 4 from ha).2 hn ?_
      refine ww_ifnull_t (tgt := 15) dX3_whereabouts_4 (by decide) ?_
      refine ww_aload_n (i := 0) dX3_whereabouts_15 rfl rfl ?_
      refine ww_getI (f := 167) wf_X3_42 dX3_whereabouts_16 rfl rfl (show ww_is _ _ 4 from ha).1 (show ww_is _ _ 4 from ha).2 ?_
      refine ww_if_eq_f (tgt := 27) dX3_whereabouts_19 (by decide) h7 ?_
      refine ww_bipush (v := (-2)) dX3_whereabouts_22 (by decide) ?_
      refine ww_goto (tgt := 28) dX3_whereabouts_24 (by decide) ?_
      exact ww_ireturn dX3_whereabouts_28 rfl (by first | rfl | exact ww_b_nar) ⟨rfl, rfl⟩
  · have hn := ww_hs_1 hh h6 hp e hj
    have hb := (hh j hj).1
    rw [e, ← hnum j hj]
    refine ww_aload_n (i := 0) dX3_whereabouts_0 rfl rfl ?_
    refine ww_getR (f := 166) wf_X3_38 dX3_whereabouts_1 rfl rfl (show ww_is _ _ 4 from ha).1 (show ww_is _ _ 4 from ha).2 hn ?_
    refine ww_ifnull_f dX3_whereabouts_4 ?_
    refine ww_aload_n (i := 0) dX3_whereabouts_7 rfl rfl ?_
    refine ww_getR (f := 166) wf_X3_38 dX3_whereabouts_8 rfl rfl (show ww_is _ _ 4 from ha).1 (show ww_is _ _ 4 from ha).2 hn ?_
    refine ww_getI (f := 160) wf_X3_15 dX3_whereabouts_11 rfl rfl (show ww_is _ _ 4 from hb).1 (show ww_is _ _ 4 from hb).2 ?_
    exact ww_ireturn dX3_whereabouts_14 rfl (by first | rfl | exact ww_b_nar) ⟨rfl, rfl⟩
end WWC3
