/-! ===== the yard: the search for a plan ===== -/
/-- best b, plan p -/
def ww_pl (M : ww_M) (y b p : Nat) : ww_M := ww_sI (ww_sI M 243 y (nI b)) 244 y (nI p)
theorem ww_pl_s {M : ww_M} {y b p b' p' : Nat} : ww_sI (ww_sI (ww_pl M y b p) 243 y (nI b')) 244 y (nI p') = ww_pl M y b' p' := by
  show (M.1, ww_u2 (ww_u2 (ww_u2 (ww_u2 (ww_I M) 243 y (nI b)) 244 y (nI p)) 243 y (nI b')) 244 y (nI p'), M.2.2) = (M.1, ww_u2 (ww_u2 (ww_I M) 243 y (nI b')) 244 y (nI p'), M.2.2)
  rw [ww_u2_cm (k := 244) (k' := 243) (fun z => absurd z.1 (by decide)), ww_u2_u2, ww_u2_u2]
/-- one road tried, by rec -/
def q_df1 (rec : Nat → Nat → Nat × Nat → Nat × Nat) (bl : Nat → Nat) (i v mv r : Nat) (s : Nat × Nat) : Nat × Nat := if 4 ≤ q_pop (q_tr v r) then s else rec (v ||| 2 ^ (8 * r + i)) (mv + q_pop (q_tr v r &&& bl i)) s
def q_dfr (rec : Nat → Nat → Nat × Nat → Nat × Nat) (bl : Nat → Nat) (i v mv : Nat) : Nat → Nat × Nat → Nat × Nat
  | 0, s => s
  | k + 1, s => q_dfr rec bl i v mv k (q_df1 rec bl i v mv (2 - k) s)
/-- the search with i trains placed, m to come -/
def q_df (bl : Nat → Nat) : Nat → Nat → Nat → Nat → Nat × Nat → Nat × Nat
  | 0, _, v, mv, s => if s.1 ≤ mv then s else (mv, v)
  | m + 1, i, v, mv, s => if s.1 ≤ mv then s else q_dfr (fun v' mv' s' => q_df bl m (i + 1) v' mv' s') bl i v mv 3 s
theorem q_pop_le (x : Nat) : q_pop x ≤ 8 := by unfold q_pop; omega
section WWC9
variable {g : ww_G} {M M1 : ww_M} {a e n w y wl we yb κ : Nat} {f P bl : Nat → Nat} {v : Int32}
theorem ww_yd_pl {b p : Nat} (hy : ww_yd g M y wl we yb w f) : ww_yd g (ww_pl M y b p) y wl we yb w f := by
  obtain ⟨h1, h2, h3, h4, h5, h6, l1, l2, l3⟩ := hy
  exact ⟨h1, h2, h3, h4, h5, h6, l1, ((ww_sI_f (by decide)).trans (ww_sI_f (by decide))).trans l2, l3⟩
theorem q_df_ok {bl : Nat → Nat} : ∀ (m i v mv : Nat) (s : Nat × Nat), i + m ≤ 8 → v < 2 ^ 24 → mv ≤ 8 * i → s.1 ≤ 1000 → s.2 < 2 ^ 24 → (q_df bl m i v mv s).1 ≤ 1000 ∧ (q_df bl m i v mv s).2 < 2 ^ 24
  | 0, i, v, mv, s, h1, h2, h3, h4, h5 => by
    unfold q_df
    split
    · exact ⟨h4, h5⟩
    · exact ⟨by show mv ≤ 1000; omega, h2⟩
  | m + 1, i, v, mv, s, h1, h2, h3, h4, h5 => by
    unfold q_df
    split
    · exact ⟨h4, h5⟩
    · have step : ∀ (r : Nat) (s : Nat × Nat), r < 3 → s.1 ≤ 1000 → s.2 < 2 ^ 24 → (q_df1 (fun v' mv' s' => q_df bl m (i + 1) v' mv' s') bl i v mv r s).1 ≤ 1000 ∧ (q_df1 (fun v' mv' s' => q_df bl m (i + 1) v' mv' s') bl i v mv r s).2 < 2 ^ 24 := by
        intro r s hr k1 k2
        unfold q_df1
        have hp := q_pop_le (q_tr v r &&& bl i)
        split
        · exact ⟨k1, k2⟩
        · exact q_df_ok m (i + 1) _ _ s (by omega) (Nat.or_lt_two_pow h2 (Nat.pow_lt_pow_right (by decide) (by omega))) (by omega) k1 k2
      have a0 := step 0 s (by omega) h4 h5
      have a1 := step 1 _ (by omega) a0.1 a0.2
      exact step 2 _ (by omega) a1.1 a1.2
set_option maxRecDepth 20000 in
set_option maxHeartbeats 4000000 in
theorem c_search (hy : ww_yd g M y wl we yb w f) (hb : ∀ i, i < w → bl i < 256 ∧ ww_X M yb i = nI (bl i)) : ∀ (m i v mv : Nat) (s : Nat × Nat), i + m = w → v < 2 ^ 24 → mv ≤ 8 * i → s.1 ≤ 1000 → s.2 < 2 ^ 24 → ww_C g wy_X5_searchPlan (m + 2) 0 0 [.ref y, .int (nI i), .int (nI v), .int (nI mv)] (ww_pl M y s.1 s.2) (ww_ret none (ww_pl M y (q_df bl m i v mv s).1 (q_df bl m i v mv s).2)) ww_no
  | 0, i, v, mv, s, hm, hv, hmv, hs1, hs2 => by
    refine ww_ent (by decide +kernel) (Nat.le_of_ble_eq_true rfl) ⟨rfl, rfl, rfl, rfl, trivial⟩ ?_
    have hz := ww_yd_pl (b := s.1) (p := s.2) hy
    have h8 := hy.2.2.2.2.2.1
    have e0 : i = w := by omega
    have e3 : ww_I (ww_pl M y s.1 s.2) 243 y = nI s.1 := (ww_sI_f (by decide)).trans ww_sI_s
    unfold q_df
    by_cases c : s.1 ≤ mv
    · rw [if_pos c]
      refine ww_iload_n (i := 3) dX5_searchPlan_0 rfl rfl ?_
      refine ww_aload_n (i := 0) dX5_searchPlan_1 rfl rfl ?_
      refine ww_getI (f := 243) wf_X5_42 dX5_searchPlan_2 rfl rfl (show ww_is _ _ 6 from hz.1).1 (show ww_is _ _ 6 from hz.1).2 ?_
      refine ww_icmp_lt_f (tgt := 9) dX5_searchPlan_5 (by decide) (by rw [e3]; exact nI_nlt c (by omega)) ?_
      exact ww_vreturn dX5_searchPlan_8 rfl ⟨rfl, rfl⟩
    · rw [if_neg c]
      have hsz := l_size (g := g) hz.2.2.2.2.2.2
      refine ww_iload_n (i := 3) dX5_searchPlan_0 rfl rfl ?_
      refine ww_aload_n (i := 0) dX5_searchPlan_1 rfl rfl ?_
      refine ww_getI (f := 243) wf_X5_42 dX5_searchPlan_2 rfl rfl (show ww_is _ _ 6 from hz.1).1 (show ww_is _ _ 6 from hz.1).2 ?_
      refine ww_icmp_lt_t (tgt := 9) dX5_searchPlan_5 (by decide) (by rw [e3]; exact nI_lt (by omega) (by omega)) ?_
      refine ww_iload_n (i := 1) dX5_searchPlan_9 rfl rfl ?_
      refine ww_aload_n (i := 0) dX5_searchPlan_10 rfl rfl ?_
      refine ww_getR (f := 240) wf_X5_12 dX5_searchPlan_11 rfl rfl (show ww_is _ _ 6 from hz.1).1 (show ww_is _ _ 6 from hz.1).2 hz.2.1 ?_
      refine ww_callV (κ := 0) (r := (RJx4a65c, TJx4a65c, 3)) wk_X5_25 dX5_searchPlan_14 (hsz) rfl rfl (show ww_is _ _ 0 from hz.2.2.2.2.2.2.1).1 (show ww_is _ _ 0 from hz.2.2.2.2.2.2.1).2 rfl rfl (by omega) (by omega) (by omega) (by first | exact Nat.le_of_ble_eq_true rfl | (simp [ww_rf_cat, Value.category])) rfl (fun E M9 h9 => h9.elim) (fun v9 M9 h9 => ?_)
      obtain ⟨rfl, rfl⟩ := h9
      refine ww_icmp_ge_t (tgt := 29) dX5_searchPlan_17 (by decide) (by rw [e0]; exact nI_le (Nat.le_refl _) (by omega)) ?_
      refine ww_aload_n (i := 0) dX5_searchPlan_29 rfl rfl ?_
      refine ww_iload_n (i := 3) dX5_searchPlan_30 rfl rfl ?_
      refine ww_putI (f := 243) wf_X5_42 wt_6_3 dX5_searchPlan_31 rfl rfl (show ww_is _ _ 6 from hz.1).1 (show ww_is _ _ 6 from hz.1).2 rfl rfl ?_
      refine ww_aload_n (i := 0) dX5_searchPlan_34 rfl rfl ?_
      refine ww_iload_n (i := 2) dX5_searchPlan_35 rfl rfl ?_
      refine ww_putI (f := 244) wf_X5_56 wt_6_4 dX5_searchPlan_36 rfl rfl (show ww_is _ _ 6 from hz.1).1 (show ww_is _ _ 6 from hz.1).2 rfl rfl ?_
      exact ww_vreturn dX5_searchPlan_39 rfl ⟨rfl, ww_pl_s.symm⟩
  | m + 1, i, v, mv, s, hm, hv, hmv, hs1, hs2 => by
    refine ww_ent (by decide +kernel) (Nat.le_of_ble_eq_true rfl) ⟨rfl, rfl, rfl, rfl, trivial⟩ ?_
    have hz := ww_yd_pl (b := s.1) (p := s.2) hy
    have h8 := hy.2.2.2.2.2.1
    have e3 : ww_I (ww_pl M y s.1 s.2) 243 y = nI s.1 := (ww_sI_f (by decide)).trans ww_sI_s
    have hk9 : ww_K M yb = 9 := hy.2.2.2.1.2
    have loop : ∀ (k : Nat) (s : Nat × Nat), k ≤ 3 → s.1 ≤ 1000 → s.2 < 2 ^ 24 → ww_A g wy_X5_searchPlan (m + 1 + 2) 0 0 (ww_pl M y s.1 s.2) 43 [(0, .ref y), (1, .int (nI i)), (2, .int (nI v)), (3, .int (nI mv)), (4, .int (nI (3 - k)))] [] (ww_ret none (ww_pl M y (q_dfr (fun v' mv' s' => q_df bl m (i + 1) v' mv' s') bl i v mv k s).1 (q_dfr (fun v' mv' s' => q_df bl m (i + 1) v' mv' s') bl i v mv k s).2)) ww_no := by
      intro k
      induction k with
      | zero =>
        intro s _ k1 k2
        refine ww_iload (i := 4) dX5_searchPlan_43 rfl ?_
        refine ww_iconst (v := 3) dX5_searchPlan_45 (by decide) ?_
        refine ww_icmp_ge_t (tgt := 101) dX5_searchPlan_46 (by decide) (by decide) ?_
        exact ww_vreturn dX5_searchPlan_101 rfl ⟨rfl, rfl⟩
      | succ k ih =>
        intro s hk k1 k2
        have hz := ww_yd_pl (b := s.1) (p := s.2) hy
        have hp := q_pop_le (q_tr v (3 - (k + 1)) &&& bl i)
        have hp2 := q_pop_le (q_tr v (3 - (k + 1)))
        have ht : q_tr v (3 - (k + 1)) < 256 := Nat.mod_lt _ (by decide)
        have hr : 2 - k = 3 - (k + 1) := by omega
        have hpw : 2 ^ (8 * (3 - (k + 1)) + i) < 2 ^ 24 := Nat.pow_lt_pow_right (by decide) (by omega)
        have htr := c_trainsIn (g := g) (M := ww_pl M y s.1 s.2) hv (r := 3 - (k + 1)) (by omega)
        have hbc := j_bitCount (g := g) (M := ww_pl M y s.1 s.2) ht
        have hn : nI (3 - (k + 1)) + 1 = nI (3 - k) := by rw [nI_1, show 3 - (k + 1) + 1 = 3 - k by omega]
        have hst : q_dfr (fun v' mv' s' => q_df bl m (i + 1) v' mv' s') bl i v mv (k + 1) s = q_dfr (fun v' mv' s' => q_df bl m (i + 1) v' mv' s') bl i v mv k (q_df1 (fun v' mv' s' => q_df bl m (i + 1) v' mv' s') bl i v mv (3 - (k + 1)) s) := by rw [← hr]; rfl
        rw [hst]
        by_cases c : 4 ≤ q_pop (q_tr v (3 - (k + 1)))
        · rw [show q_df1 (fun v' mv' s' => q_df bl m (i + 1) v' mv' s') bl i v mv (3 - (k + 1)) s = s from if_pos c]
          refine ww_iload (i := 4) dX5_searchPlan_43 rfl ?_
          refine ww_iconst (v := 3) dX5_searchPlan_45 (by decide) ?_
          refine ww_icmp_ge_f (tgt := 101) dX5_searchPlan_46 (by decide) (nI_ge (b := 3) (by omega) (by decide)) ?_
          refine ww_iload_n (i := 2) dX5_searchPlan_49 rfl rfl ?_
          refine ww_iload (i := 4) dX5_searchPlan_50 rfl ?_
          refine ww_callS wk_X5_79 rfl dX5_searchPlan_52 (htr) rfl rfl (by omega) (by omega) (by omega) (by first | exact Nat.le_of_ble_eq_true rfl | (simp [ww_rf_cat, Value.category])) rfl (fun E M9 h9 => h9.elim) (fun v9 M9 h9 => ?_)
          obtain ⟨rfl, rfl⟩ := h9
          refine ww_istore (i := 5) (lv2 := [(0, _), (1, _), (2, _), (3, _), (4, _), (5, _)]) dX5_searchPlan_55 (Nat.le_of_ble_eq_true rfl) rfl ?_
          refine ww_iload (i := 5) dX5_searchPlan_57 rfl ?_
          refine ww_callS wk_X5_82 rfl dX5_searchPlan_59 (hbc) rfl rfl (by omega) (by omega) (by omega) (by first | exact Nat.le_of_ble_eq_true rfl | (simp [ww_rf_cat, Value.category])) rfl (fun E M9 h9 => h9.elim) (fun v9 M9 h9 => ?_)
          obtain ⟨rfl, rfl⟩ := h9
          refine ww_iconst (v := 4) dX5_searchPlan_62 (by decide) ?_
          refine ww_icmp_ge_t (tgt := 95) dX5_searchPlan_63 (by decide) (nI_le (a := 4) c (by omega)) ?_
          refine ww_iinc (i := 4) (v := _ + 1) (lv2 := [(0, _), (1, _), (2, _), (3, _), (4, _), (5, _)]) dX5_searchPlan_95 rfl (by rfl) (Nat.le_of_ble_eq_true rfl) rfl ?_
          refine ww_goto (tgt := 43) dX5_searchPlan_98 (by decide) ?_
          -- at 43, locals [0, 1, 2, 3, 4, 5]
          rw [hn]
          exact ww_subk (ih s (by omega) k1 k2) ⟨rfl, rfl, rfl, rfl, rfl, trivial⟩
        · rw [show q_df1 (fun v' mv' s' => q_df bl m (i + 1) v' mv' s') bl i v mv (3 - (k + 1)) s = q_df bl m (i + 1) (v ||| 2 ^ (8 * (3 - (k + 1)) + i)) (mv + q_pop (q_tr v (3 - (k + 1)) &&& bl i)) s from if_neg c]
          obtain ⟨hbi, hbX⟩ := hb i (by omega)
          have hbit := c_bitOf (g := g) (M := ww_pl M y s.1 s.2) (r := 3 - (k + 1)) (i := i) (by omega) (by omega)
          have hvv : v ||| 2 ^ (8 * (3 - (k + 1)) + i) < 2 ^ 24 := Nat.or_lt_two_pow hv hpw
          have hbc2 := j_bitCount (g := g) (M := ww_pl M y s.1 s.2) (i := q_tr v (3 - (k + 1)) &&& bl i) (Nat.lt_of_le_of_lt Nat.and_le_left ht)
          have hok := q_df_ok (bl := bl) m (i + 1) (v ||| 2 ^ (8 * (3 - (k + 1)) + i)) (mv + q_pop (q_tr v (3 - (k + 1)) &&& bl i)) s (by omega) hvv (by omega) k1 k2
          have hrec := c_search hy hb m (i + 1) (v ||| 2 ^ (8 * (3 - (k + 1)) + i)) (mv + q_pop (q_tr v (3 - (k + 1)) &&& bl i)) s (by omega) hvv (by omega) k1 k2
          refine ww_iload (i := 4) dX5_searchPlan_43 rfl ?_
          refine ww_iconst (v := 3) dX5_searchPlan_45 (by decide) ?_
          refine ww_icmp_ge_f (tgt := 101) dX5_searchPlan_46 (by decide) (nI_ge (b := 3) (by omega) (by decide)) ?_
          refine ww_iload_n (i := 2) dX5_searchPlan_49 rfl rfl ?_
          refine ww_iload (i := 4) dX5_searchPlan_50 rfl ?_
          refine ww_callS wk_X5_79 rfl dX5_searchPlan_52 (htr) rfl rfl (by omega) (by omega) (by omega) (by first | exact Nat.le_of_ble_eq_true rfl | (simp [ww_rf_cat, Value.category])) rfl (fun E M9 h9 => h9.elim) (fun v9 M9 h9 => ?_)
          obtain ⟨rfl, rfl⟩ := h9
          refine ww_istore (i := 5) (lv2 := [(0, _), (1, _), (2, _), (3, _), (4, _), (5, _)]) dX5_searchPlan_55 (Nat.le_of_ble_eq_true rfl) rfl ?_
          refine ww_iload (i := 5) dX5_searchPlan_57 rfl ?_
          refine ww_callS wk_X5_82 rfl dX5_searchPlan_59 (hbc) rfl rfl (by omega) (by omega) (by omega) (by first | exact Nat.le_of_ble_eq_true rfl | (simp [ww_rf_cat, Value.category])) rfl (fun E M9 h9 => h9.elim) (fun v9 M9 h9 => ?_)
          obtain ⟨rfl, rfl⟩ := h9
          refine ww_iconst (v := 4) dX5_searchPlan_62 (by decide) ?_
          refine ww_icmp_ge_f (tgt := 95) dX5_searchPlan_63 (by decide) (nI_ge (b := 4) (by omega) (by decide)) ?_
          refine ww_aload_n (i := 0) dX5_searchPlan_66 rfl rfl ?_
          refine ww_iload_n (i := 1) dX5_searchPlan_67 rfl rfl ?_
          refine ww_iconst (v := 1) dX5_searchPlan_68 (by decide) ?_
          refine ww_iadd dX5_searchPlan_69 ?_
          refine ww_iload_n (i := 2) dX5_searchPlan_70 rfl rfl ?_
          refine ww_iload (i := 4) dX5_searchPlan_71 rfl ?_
          refine ww_iload_n (i := 1) dX5_searchPlan_73 rfl rfl ?_
          refine ww_callS wk_X5_88 rfl dX5_searchPlan_74 (hbit) rfl rfl (by omega) (by omega) (by omega) (by first | exact Nat.le_of_ble_eq_true rfl | (simp [ww_rf_cat, Value.category])) rfl (fun E M9 h9 => h9.elim) (fun v9 M9 h9 => ?_)
          obtain ⟨rfl, rfl⟩ := h9
          -- at 77, locals [0, 1, 2, 3, 4, 5]
          refine ww_ior dX5_searchPlan_77 ?_
          rw [q_or (by omega) (by omega), nI_1]
          refine ww_iload_n (i := 3) dX5_searchPlan_78 rfl rfl ?_
          refine ww_iload (i := 5) dX5_searchPlan_79 rfl ?_
          refine ww_aload_n (i := 0) dX5_searchPlan_81 rfl rfl ?_
          refine ww_getR (f := 242) wf_X5_21 dX5_searchPlan_82 rfl rfl (show ww_is _ _ 6 from hz.1).1 (show ww_is _ _ 6 from hz.1).2 hz.2.2.1 ?_
          refine ww_iload_n (i := 1) dX5_searchPlan_85 rfl rfl ?_
          -- at 86, locals [0, 1, 2, 3, 4, 5]
          refine ww_iald dX5_searchPlan_86 hz.2.2.2.1.1 hz.2.2.2.1.2 rfl (show i < ww_N M yb by rw [hy.2.2.2.2.1]; omega) (show ww_N M yb < 2 ^ 31 by rw [hy.2.2.2.2.1]; decide) ?_
          rw [show ww_X (ww_pl M y s.1 s.2) yb i = nI (bl i) from hbX]
          refine ww_iand dX5_searchPlan_87 ?_
          rw [q_and (by omega) (by omega)]
          refine ww_callS wk_X5_82 rfl dX5_searchPlan_88 (hbc2) rfl rfl (by omega) (by omega) (by omega) (by first | exact Nat.le_of_ble_eq_true rfl | (simp [ww_rf_cat, Value.category])) rfl (fun E M9 h9 => h9.elim) (fun v9 M9 h9 => ?_)
          obtain ⟨rfl, rfl⟩ := h9
          -- at 91, locals [0, 1, 2, 3, 4, 5]
          refine ww_iadd dX5_searchPlan_91 ?_
          rw [nI_add]
          refine ww_callS wk_X5_45 rfl dX5_searchPlan_92 (hrec) rfl rfl (by omega) (by omega) (by omega) (by first | exact Nat.le_of_ble_eq_true rfl | (simp [ww_rf_cat, Value.category])) rfl (fun E M9 h9 => h9.elim) (fun v9 M9 h9 => ?_)
          obtain ⟨rfl, rfl⟩ := h9
          refine ww_iinc (i := 4) (v := _ + 1) (lv2 := [(0, _), (1, _), (2, _), (3, _), (4, _), (5, _)]) dX5_searchPlan_95 rfl (by rfl) (Nat.le_of_ble_eq_true rfl) rfl ?_
          refine ww_goto (tgt := 43) dX5_searchPlan_98 (by decide) ?_
          -- at 43, locals [0, 1, 2, 3, 4, 5]
          rw [hn]
          exact ww_subk (ih _ (by omega) hok.1 hok.2) ⟨rfl, rfl, rfl, rfl, rfl, trivial⟩
    unfold q_df
    by_cases c : s.1 ≤ mv
    · rw [if_pos c]
      refine ww_iload_n (i := 3) dX5_searchPlan_0 rfl rfl ?_
      refine ww_aload_n (i := 0) dX5_searchPlan_1 rfl rfl ?_
      refine ww_getI (f := 243) wf_X5_42 dX5_searchPlan_2 rfl rfl (show ww_is _ _ 6 from hz.1).1 (show ww_is _ _ 6 from hz.1).2 ?_
      refine ww_icmp_lt_f (tgt := 9) dX5_searchPlan_5 (by decide) (by rw [e3]; exact nI_nlt c (by omega)) ?_
      exact ww_vreturn dX5_searchPlan_8 rfl ⟨rfl, rfl⟩
    · rw [if_neg c]
      have hsz := l_size (g := g) hz.2.2.2.2.2.2
      have hl := loop 3 s (by omega) hs1 hs2
      refine ww_iload_n (i := 3) dX5_searchPlan_0 rfl rfl ?_
      refine ww_aload_n (i := 0) dX5_searchPlan_1 rfl rfl ?_
      refine ww_getI (f := 243) wf_X5_42 dX5_searchPlan_2 rfl rfl (show ww_is _ _ 6 from hz.1).1 (show ww_is _ _ 6 from hz.1).2 ?_
      refine ww_icmp_lt_t (tgt := 9) dX5_searchPlan_5 (by decide) (by rw [e3]; exact nI_lt (by omega) (by omega)) ?_
      refine ww_iload_n (i := 1) dX5_searchPlan_9 rfl rfl ?_
      refine ww_aload_n (i := 0) dX5_searchPlan_10 rfl rfl ?_
      refine ww_getR (f := 240) wf_X5_12 dX5_searchPlan_11 rfl rfl (show ww_is _ _ 6 from hz.1).1 (show ww_is _ _ 6 from hz.1).2 hz.2.1 ?_
      refine ww_callV (κ := 0) (r := (RJx4a65c, TJx4a65c, 3)) wk_X5_25 dX5_searchPlan_14 (hsz) rfl rfl (show ww_is _ _ 0 from hz.2.2.2.2.2.2.1).1 (show ww_is _ _ 0 from hz.2.2.2.2.2.2.1).2 rfl rfl (by omega) (by omega) (by omega) (by first | exact Nat.le_of_ble_eq_true rfl | (simp [ww_rf_cat, Value.category])) rfl (fun E M9 h9 => h9.elim) (fun v9 M9 h9 => ?_)
      obtain ⟨rfl, rfl⟩ := h9
      refine ww_icmp_ge_f (tgt := 29) dX5_searchPlan_17 (by decide) (nI_ge (by omega) (by omega)) ?_
      refine ww_iload_n (i := 1) dX5_searchPlan_20 rfl rfl ?_
      refine ww_aload_n (i := 0) dX5_searchPlan_21 rfl rfl ?_
      refine ww_getR (f := 242) wf_X5_21 dX5_searchPlan_22 rfl rfl (show ww_is _ _ 6 from hz.1).1 (show ww_is _ _ 6 from hz.1).2 hz.2.2.1 ?_
      -- at 25, locals [0, 1, 2, 3]
      refine ww_alen dX5_searchPlan_25 hz.2.2.2.1.1 (show 9 ≤ ww_K M yb by rw [hk9]; decide) (show ww_K M yb < 14 by rw [hk9]; decide) ?_
      rw [show ww_N (ww_pl M y s.1 s.2) yb = 8 from hy.2.2.2.2.1]
      refine ww_icmp_lt_t (tgt := 40) dX5_searchPlan_26 (by decide) (nI_lt (by omega) (by decide)) ?_
      refine ww_iconst (v := 0) dX5_searchPlan_40 (by decide) ?_
      refine ww_istore (i := 4) (lv2 := [(0, _), (1, _), (2, _), (3, _), (4, _)]) dX5_searchPlan_41 (Nat.le_of_ble_eq_true rfl) rfl ?_
      -- at 43, locals [0, 1, 2, 3, 4]
      exact hl
end WWC9
