section WWL
variable {g : ww_G} {M M1 : ww_M} {a b e e1 n κ : Nat} {f : Nat → Nat}
set_option maxRecDepth 20000 in
theorem j_grow0_e (ha : ww_is M.1 a 0) (he : ww_R M 1 a = some (ww_ge g)) (hn : ww_I M 2 a = nI 0) : ww_C g wy_Jx4a65c_grow_d5877 3 1 10 [.ref a] M (fun v M' => ∃ q, q ∉ ww_L M ∧ v = some (.ref q) ∧ ww_sR (ww_nw M q 12 10) 1 a (some q) = M') ww_no := by
  refine ww_ent (by decide +kernel) (Nat.le_of_ble_eq_true rfl) ⟨rfl, trivial⟩ ?_
  have hg := j_grow_e (g := g) ha he
  rw [show (1 : Int32) = ww_I M 2 a + 1 by rw [hn]; decide] at hg
  refine ww_aload_n (i := 0) dJx4a65c_grow_d5877_0 rfl rfl ?_
  refine ww_aload_n (i := 0) dJx4a65c_grow_d5877_1 rfl rfl ?_
  refine ww_getI (f := 2) wf_Jx4a65c_48 dJx4a65c_grow_d5877_2 rfl rfl (show ww_is _ _ 0 from ha).1 (show ww_is _ _ 0 from ha).2 ?_
  refine ww_iconst (v := 1) dJx4a65c_grow_d5877_5 (by decide) ?_
  refine ww_iadd dJx4a65c_grow_d5877_6 ?_
  refine ww_callV (κ := 0) (r := (RJx4a65c, TJx4a65c, 3)) wk_Jx4a65c_69 dJx4a65c_grow_d5877_7 (hg) rfl rfl (show ww_is _ _ 0 from ha).1 (show ww_is _ _ 0 from ha).2 rfl rfl (by omega) (by omega) (by omega) (by first | exact Nat.le_of_ble_eq_true rfl | (simp [ww_rf_cat, Value.category])) rfl (fun E M9 h9 => h9.elim) (fun v9 M9 h9 => ?_)
  obtain ⟨q, hq, rfl, rfl⟩ := h9
  exact ww_areturn dJx4a65c_grow_d5877_10 rfl (by first | exact Or.inl ⟨_, rfl⟩ | exact Or.inr ⟨_, rfl⟩) (r := some _) rfl ⟨q, hq, rfl, rfl⟩
set_option maxRecDepth 20000 in
theorem j_grow0_o {r : vw_C} (ha : ww_is M.1 a 0) (he : ww_R M 1 a = some e) (hz : ww_I M 2 a = nI n) (ho : ww_ow M κ e n f) (hn : n = ww_N M e) (hr : vwCl[κ]? = some r) (hca : (r.1, "java/lang/Object") ∈ ww_ca) : ww_C g wy_Jx4a65c_grow_d5877 5 1 (q_len n) [.ref a] M (fun v M' => ∃ q, q ∉ ww_L M ∧ v = some (.ref q) ∧ ww_sR (ww_cpM M e q n (q_len n)) 1 a (some q) = M') ww_no := by
  refine ww_ent (by decide +kernel) (Nat.le_of_ble_eq_true rfl) ⟨rfl, trivial⟩ ?_
  have hg := j_grow_o (g := g) ha he ho hn hr hca
  rw [← nI_1, ← hz] at hg
  refine ww_aload_n (i := 0) dJx4a65c_grow_d5877_0 rfl rfl ?_
  refine ww_aload_n (i := 0) dJx4a65c_grow_d5877_1 rfl rfl ?_
  refine ww_getI (f := 2) wf_Jx4a65c_48 dJx4a65c_grow_d5877_2 rfl rfl (show ww_is _ _ 0 from ha).1 (show ww_is _ _ 0 from ha).2 ?_
  refine ww_iconst (v := 1) dJx4a65c_grow_d5877_5 (by decide) ?_
  refine ww_iadd dJx4a65c_grow_d5877_6 ?_
  refine ww_callV (κ := 0) (r := (RJx4a65c, TJx4a65c, 3)) wk_Jx4a65c_69 dJx4a65c_grow_d5877_7 (hg) rfl rfl (show ww_is _ _ 0 from ha).1 (show ww_is _ _ 0 from ha).2 rfl rfl (by omega) (by omega) (by omega) (by first | exact Nat.le_of_ble_eq_true rfl | (simp [ww_rf_cat, Value.category])) rfl (fun E M9 h9 => h9.elim) (fun v9 M9 h9 => ?_)
  obtain ⟨q, hq, rfl, rfl⟩ := h9
  exact ww_areturn dJx4a65c_grow_d5877_10 rfl (by first | exact Or.inl ⟨_, rfl⟩ | exact Or.inr ⟨_, rfl⟩) (r := some _) rfl ⟨q, hq, rfl, rfl⟩
theorem q_len_b {n : Nat} (h : 10 ≤ n) : n < q_len n ∧ q_len n ≤ 2 * n := by unfold q_len; split <;> omega
set_option maxRecDepth 20000 in
set_option maxHeartbeats 4000000 in
theorem j_add3 {r : vw_C} (hl : ww_ls g M κ a e n f) (hn : n < 14000) (hb : b ∈ ww_L M ∧ ww_K M b = κ) (hr : vwCl[κ]? = some r) (hca : (r.1, "java/lang/Object") ∈ ww_ca) : ww_C g wy_Jx4a65c_add_72be8 6 1 (2 * n + 10) [.ref a, .ref b, .ref e, .int (nI n)] M (ww_adQ g M none κ a b e n f) ww_no := by
  refine ww_ent (by decide +kernel) (Nat.le_of_ble_eq_true rfl) ⟨rfl, rfl, rfl, rfl, trivial⟩ ?_
  obtain ⟨ha, h2, he, ho⟩ := hl
  rcases ho with ⟨rfl, rfl⟩ | ho
  · refine ww_iload_n (i := 3) dJx4a65c_add_72be8_0 rfl rfl ?_
    first | refine ww_aload_n (i := 2) dJx4a65c_add_72be8_1 rfl rfl ?_ | refine ww_aload_nQ (i := 2) dJx4a65c_add_72be8_1 rfl rfl ?_
    -- at 2, locals [0, 1, 2, 3]
    refine ww_alenE dJx4a65c_add_72be8_2 ?_
    refine ww_icmp_ne_f (tgt := 11) dJx4a65c_add_72be8_3 (by decide) (by decide) ?_
    refine ww_aload_n (i := 0) dJx4a65c_add_72be8_6 rfl rfl ?_
    refine ww_callV (κ := 0) (r := (RJx4a65c, TJx4a65c, 3)) wk_Jx4a65c_129 dJx4a65c_add_72be8_7 (j_grow0_e ha he h2) rfl rfl (show ww_is _ _ 0 from ha).1 (show ww_is _ _ 0 from ha).2 rfl rfl (by omega) (by omega) (by omega) (by first | exact Nat.le_of_ble_eq_true rfl | (simp [ww_rf_cat, Value.category])) rfl (fun E M9 h9 => h9.elim) (fun v9 M9 h9 => ?_)
    obtain ⟨q, hq, rfl, rfl⟩ := h9
    first | refine ww_astore_n (i := 2) (lv2 := [(0, _), (1, _), (2, _), (3, _)]) dJx4a65c_add_72be8_10 rfl (Nat.le_of_ble_eq_true rfl) rfl ?_ | refine ww_astore_nQ (i := 2) (lv2 := [(0, _), (1, _), (2, _), (3, _)]) dJx4a65c_add_72be8_10 rfl (Nat.le_of_ble_eq_true rfl) rfl ?_
    -- at 11, locals [0, 1, 2, 3]
    obtain ⟨a1, a2, _⟩ := ww_nw_in (κ := 12) (n := 10) ha.1 hq
    obtain ⟨b1, b2, _⟩ := ww_nw_in (κ := 12) (n := 10) hb.1 hq
    obtain ⟨q1, q2, q3⟩ := ww_nw_q (M := M) (q := q) (κ := 12) (n := 10)
    have ha2 : ww_is (ww_sR (ww_nw M q 12 10) 1 a (some q)).1 a 0 := ⟨a1, a2.trans ha.2⟩
    have ho2 : ww_ow (ww_sR (ww_nw M q 12 10) 1 a (some q)) κ q 0 f := by
      refine ⟨⟨q1, q2⟩, Nat.le_of_eq q3.symm, ?_, Nat.zero_le _, fun i hi => by omega, fun i y hi hy => ?_⟩
      · show ww_N (ww_nw M q 12 10) q < 28000
        rw [q3]; decide
      · rw [show ww_Y (ww_sR (ww_nw M q 12 10) 1 a (some q)) q i = none from if_pos rfl] at hy
        cases hy
    first | refine ww_aload_n (i := 2) dJx4a65c_add_72be8_11 rfl rfl ?_ | refine ww_aload_nQ (i := 2) dJx4a65c_add_72be8_11 rfl rfl ?_
    refine ww_iload_n (i := 3) dJx4a65c_add_72be8_12 rfl rfl ?_
    first | refine ww_aload_n (i := 1) dJx4a65c_add_72be8_13 rfl rfl ?_ | refine ww_aload_nQ (i := 1) dJx4a65c_add_72be8_13 rfl rfl ?_
    -- at 14, locals [0, 1, 2, 3]
    refine ww_aast (κ := κ) dJx4a65c_add_72be8_14 q1 q2 b1 (b2.trans hb.2) hr hca rfl (by show 0 < ww_N (ww_nw M q 12 10) q; rw [q3]; decide) (by show ww_N (ww_nw M q 12 10) q < _; rw [q3]; decide) ?_
    refine ww_aload_n (i := 0) dJx4a65c_add_72be8_15 rfl rfl ?_
    refine ww_iload_n (i := 3) dJx4a65c_add_72be8_16 rfl rfl ?_
    refine ww_iconst (v := 1) dJx4a65c_add_72be8_17 (by decide) ?_
    refine ww_iadd dJx4a65c_add_72be8_18 ?_
    -- at 19, locals [0, 1, 2, 3]
    refine ww_top (nI (0 + 1)) (nI_1 0) ?_
    refine ww_putI (f := 2) wf_Jx4a65c_48 wt_0_2 dJx4a65c_add_72be8_19 rfl rfl (show ww_is _ _ 0 from ha2).1 (show ww_is _ _ 0 from ha2).2 rfl rfl ?_
    -- at 22, locals [0, 1, 2, 3]
    refine ww_vreturn dJx4a65c_add_72be8_22 rfl ⟨rfl, q, ?_, Or.inr hq, ?_⟩
    · exact ww_ls_put ha2 ww_u2s ho2 (by show 0 < ww_N (ww_nw M q 12 10) q; rw [q3]; decide) ⟨b1, b2.trans hb.2⟩
    · exact ww_fr_sI (ww_fr_sY (ww_fr_sR (ww_fr_nw ww_fr_rf hq) rfl) (Or.inr hq)) rfl
  · obtain ⟨o1, o2, o3, o4, o5, o6⟩ := id ho
    have hk12 : ww_K M e = 12 := o1.2
    refine ww_iload_n (i := 3) dJx4a65c_add_72be8_0 rfl rfl ?_
    first | refine ww_aload_n (i := 2) dJx4a65c_add_72be8_1 rfl rfl ?_ | refine ww_aload_nQ (i := 2) dJx4a65c_add_72be8_1 rfl rfl ?_
    -- at 2, locals [0, 1, 2, 3]
    refine ww_alen dJx4a65c_add_72be8_2 o1.1 (by rw [hk12]; decide) (by rw [hk12]; decide) ?_
    by_cases h1 : n = ww_N M e
    · have hlen := q_len_b (n := n) (by omega)
      refine ww_icmp_ne_f (tgt := 11) dJx4a65c_add_72be8_3 (by decide) (congrArg nI h1) ?_
      refine ww_aload_n (i := 0) dJx4a65c_add_72be8_6 rfl rfl ?_
      refine ww_callV (κ := 0) (r := (RJx4a65c, TJx4a65c, 3)) wk_Jx4a65c_129 dJx4a65c_add_72be8_7 (j_grow0_o ha he h2 ho h1 hr hca) rfl rfl (show ww_is _ _ 0 from ha).1 (show ww_is _ _ 0 from ha).2 rfl rfl (by omega) (by omega) (by omega) (by first | exact Nat.le_of_ble_eq_true rfl | (simp [ww_rf_cat, Value.category])) rfl (fun E M9 h9 => h9.elim) (fun v9 M9 h9 => ?_)
      obtain ⟨q, hq, rfl, rfl⟩ := h9
      first | refine ww_astore_n (i := 2) (lv2 := [(0, _), (1, _), (2, _), (3, _)]) dJx4a65c_add_72be8_10 rfl (Nat.le_of_ble_eq_true rfl) rfl ?_ | refine ww_astore_nQ (i := 2) (lv2 := [(0, _), (1, _), (2, _), (3, _)]) dJx4a65c_add_72be8_10 rfl (Nat.le_of_ble_eq_true rfl) rfl ?_
      -- at 11, locals [0, 1, 2, 3]
      obtain ⟨a1, a2, _⟩ := ww_nw_in (κ := 12) (n := q_len n) ha.1 hq
      obtain ⟨b1, b2, _⟩ := ww_nw_in (κ := 12) (n := q_len n) hb.1 hq
      obtain ⟨q1, q2, q3⟩ := ww_nw_q (M := M) (q := q) (κ := 12) (n := q_len n)
      have hne : e ≠ q := fun z => hq (z ▸ o1.1)
      have ha2 : ww_is (ww_sR (ww_cpM M e q n (q_len n)) 1 a (some q)).1 a 0 := ⟨a1, a2.trans ha.2⟩
      have hNq : ww_N (ww_sR (ww_cpM M e q n (q_len n)) 1 a (some q)) q = q_len n := q3
      have hY : ∀ i, ww_Y (ww_sR (ww_cpM M e q n (q_len n)) 1 a (some q)) q i = if i < n then ww_Y M e i else none := by
        intro i
        show (if q = q then va_cpy (ww_Y (ww_nw M q 12 (q_len n)) e) (ww_Y (ww_nw M q 12 (q_len n)) q) 0 0 n else ww_Y (ww_nw M q 12 (q_len n)) q) i = _
        rw [if_pos rfl]
        show (if 0 ≤ i ∧ i < 0 + n then ww_Y (ww_nw M q 12 (q_len n)) e (0 + (i - 0)) else ww_Y (ww_nw M q 12 (q_len n)) q i) = _
        by_cases hi : i < n
        · rw [if_pos ⟨Nat.zero_le _, by omega⟩, if_pos hi, show 0 + (i - 0) = i by omega]
          exact if_neg hne
        · rw [if_neg (fun z => hi (by omega)), if_neg hi]
          exact if_pos rfl
      have ho2 : ww_ow (ww_sR (ww_cpM M e q n (q_len n)) 1 a (some q)) κ q n f := by
        refine ⟨⟨q1, q2⟩, by rw [hNq]; omega, by rw [hNq]; omega, by rw [hNq]; omega, fun i hi => ?_, fun i y hi hy => ?_⟩
        · rw [hY, if_pos hi]; exact o5 i hi
        · rw [hY] at hy
          by_cases hin : i < n
          · rw [if_pos hin] at hy
            obtain ⟨y1, y2⟩ := o6 i y (by omega) hy
            obtain ⟨z1, z2, _⟩ := ww_nw_in (κ := 12) (n := q_len n) y1 hq
            exact ⟨z1, z2.trans y2⟩
          · rw [if_neg hin] at hy; cases hy
      first | refine ww_aload_n (i := 2) dJx4a65c_add_72be8_11 rfl rfl ?_ | refine ww_aload_nQ (i := 2) dJx4a65c_add_72be8_11 rfl rfl ?_
      refine ww_iload_n (i := 3) dJx4a65c_add_72be8_12 rfl rfl ?_
      first | refine ww_aload_n (i := 1) dJx4a65c_add_72be8_13 rfl rfl ?_ | refine ww_aload_nQ (i := 1) dJx4a65c_add_72be8_13 rfl rfl ?_
      -- at 14, locals [0, 1, 2, 3]
      refine ww_aast (κ := κ) dJx4a65c_add_72be8_14 q1 q2 b1 (b2.trans hb.2) hr hca rfl (by rw [hNq]; omega) (by rw [hNq]; omega) ?_
      refine ww_aload_n (i := 0) dJx4a65c_add_72be8_15 rfl rfl ?_
      refine ww_iload_n (i := 3) dJx4a65c_add_72be8_16 rfl rfl ?_
      refine ww_iconst (v := 1) dJx4a65c_add_72be8_17 (by decide) ?_
      refine ww_iadd dJx4a65c_add_72be8_18 ?_
      -- at 19, locals [0, 1, 2, 3]
      refine ww_top (nI (n + 1)) (nI_1 n) ?_
      refine ww_putI (f := 2) wf_Jx4a65c_48 wt_0_2 dJx4a65c_add_72be8_19 rfl rfl (show ww_is _ _ 0 from ha2).1 (show ww_is _ _ 0 from ha2).2 rfl rfl ?_
      -- at 22, locals [0, 1, 2, 3]
      refine ww_vreturn dJx4a65c_add_72be8_22 rfl ⟨rfl, q, ?_, Or.inr hq, ?_⟩
      · exact ww_ls_put ha2 ww_u2s ho2 (by rw [hNq]; omega) ⟨b1, b2.trans hb.2⟩
      · exact ww_fr_sI (ww_fr_sY (ww_fr_sR (ww_fr_cY (ww_fr_nw ww_fr_rf hq) (Or.inr hq)) rfl) (Or.inr hq)) rfl
    · have h1' : ¬ nI n = nI (ww_N M e) := fun z => h1 ((nI_eq (by omega) (by omega)).mp z)
      refine ww_icmp_ne_t (tgt := 11) dJx4a65c_add_72be8_3 (by decide) h1' ?_
      first | refine ww_aload_n (i := 2) dJx4a65c_add_72be8_11 rfl rfl ?_ | refine ww_aload_nQ (i := 2) dJx4a65c_add_72be8_11 rfl rfl ?_
      refine ww_iload_n (i := 3) dJx4a65c_add_72be8_12 rfl rfl ?_
      first | refine ww_aload_n (i := 1) dJx4a65c_add_72be8_13 rfl rfl ?_ | refine ww_aload_nQ (i := 1) dJx4a65c_add_72be8_13 rfl rfl ?_
      -- at 14, locals [0, 1, 2, 3]
      refine ww_aast (κ := κ) dJx4a65c_add_72be8_14 o1.1 o1.2 hb.1 hb.2 hr hca rfl (by omega) (by omega) ?_
      refine ww_aload_n (i := 0) dJx4a65c_add_72be8_15 rfl rfl ?_
      refine ww_iload_n (i := 3) dJx4a65c_add_72be8_16 rfl rfl ?_
      refine ww_iconst (v := 1) dJx4a65c_add_72be8_17 (by decide) ?_
      refine ww_iadd dJx4a65c_add_72be8_18 ?_
      -- at 19, locals [0, 1, 2, 3]
      refine ww_top (nI (n + 1)) (nI_1 n) ?_
      refine ww_putI (f := 2) wf_Jx4a65c_48 wt_0_2 dJx4a65c_add_72be8_19 rfl rfl (show ww_is _ _ 0 from ha).1 (show ww_is _ _ 0 from ha).2 rfl rfl ?_
      -- at 22, locals [0, 1, 2, 3]
      refine ww_vreturn dJx4a65c_add_72be8_22 rfl ⟨rfl, e, ?_, Or.inl rfl, ?_⟩
      · exact ww_ls_put ha he ho (by omega) hb
      · exact ww_fr_sI (ww_fr_sY ww_fr_rf (Or.inl ⟨rfl, o1⟩)) rfl
theorem ww_ls_mc {v : Int32} (hl : ww_ls g M κ a e n f) : ww_ls g (ww_sI M 0 a v) κ a e n f := ⟨hl.1, (show ww_u2 (ww_I M) 0 a v 2 a = nI n from (ww_u2n (fun z => absurd z.1 (by decide))).trans hl.2.1), hl.2.2.1, hl.2.2.2⟩
set_option maxRecDepth 20000 in
theorem j_add {r : vw_C} (hl : ww_ls g M κ a e n f) (hn : n < 14000) (hb : b ∈ ww_L M ∧ ww_K M b = κ) (hr : vwCl[κ]? = some r) (hca : (r.1, "java/lang/Object") ∈ ww_ca) : ww_C g wy_Jx4a65c_add_9ea2d 7 1 (2 * n + 10) [.ref a, .ref b] M (ww_adQ g M (some (.int 1)) κ a b e n f) ww_no := by
  refine ww_ent (by decide +kernel) (Nat.le_of_ble_eq_true rfl) ⟨rfl, rfl, trivial⟩ ?_
  have ha := hl.1
  have he := hl.2.2.1
  have h3 := j_add3 (g := g) (b := b) (ww_ls_mc (v := ww_I M 0 a + 1) hl) hn hb hr hca
  rw [← (ww_ls_mc (v := ww_I M 0 a + 1) hl).2.1] at h3
  refine ww_aload_n (i := 0) dJx4a65c_add_9ea2d_0 rfl rfl ?_
  refine ww_dup dJx4a65c_add_9ea2d_1 (by first | rfl | exact ww_rf_cat _) ?_
  refine ww_getI (f := 0) wf_Jx4a65c_63 dJx4a65c_add_9ea2d_2 rfl rfl (show ww_is _ _ 0 from ha).1 (show ww_is _ _ 0 from ha).2 ?_
  refine ww_iconst (v := 1) dJx4a65c_add_9ea2d_5 (by decide) ?_
  refine ww_iadd dJx4a65c_add_9ea2d_6 ?_
  refine ww_putI (f := 0) wf_Jx4a65c_63 wt_0_0 dJx4a65c_add_9ea2d_7 rfl rfl (show ww_is _ _ 0 from ha).1 (show ww_is _ _ 0 from ha).2 rfl rfl ?_
  refine ww_aload_n (i := 0) dJx4a65c_add_9ea2d_10 rfl rfl ?_
  first | refine ww_aload_n (i := 1) dJx4a65c_add_9ea2d_11 rfl rfl ?_ | refine ww_aload_nQ (i := 1) dJx4a65c_add_9ea2d_11 rfl rfl ?_
  refine ww_aload_n (i := 0) dJx4a65c_add_9ea2d_12 rfl rfl ?_
  refine ww_getR (f := 1) wf_Jx4a65c_9 dJx4a65c_add_9ea2d_13 rfl rfl (show ww_is _ _ 0 from ha).1 (show ww_is _ _ 0 from ha).2 he ?_
  refine ww_aload_n (i := 0) dJx4a65c_add_9ea2d_16 rfl rfl ?_
  refine ww_getI (f := 2) wf_Jx4a65c_48 dJx4a65c_add_9ea2d_17 rfl rfl (show ww_is _ _ 0 from ha).1 (show ww_is _ _ 0 from ha).2 ?_
  refine ww_callV (κ := 0) (r := (RJx4a65c, TJx4a65c, 3)) wk_Jx4a65c_131 dJx4a65c_add_9ea2d_20 (h3) rfl rfl (show ww_is _ _ 0 from ha).1 (show ww_is _ _ 0 from ha).2 rfl rfl (by omega) (by omega) (by omega) (by first | exact Nat.le_of_ble_eq_true rfl | (simp [ww_rf_cat, Value.category])) rfl (fun E M9 h9 => h9.elim) (fun v9 M9 h9 => ?_)
  obtain ⟨rfl, e1, k1, k2, k3⟩ := h9
  refine ww_iconst (v := 1) dJx4a65c_add_9ea2d_23 (by decide) ?_
  exact ww_ireturn dJx4a65c_add_9ea2d_24 rfl (by first | rfl | exact ww_b_nar) ⟨rfl, e1, k1, k2, ww_fr_wk (ww_fr_tr (ww_fr_sI (P := fun y => y = a) (A := fun y => y = e ∧ ww_is M.1 e 12) ww_fr_rf rfl) k3) (fun y z => z.elim id id) (fun y z => z.elim id id)⟩
end WWL
