section WWV2
variable {g : ww_G} {M0 M M1 : ww_M} {a x pl pe n yk : Nat} {P W kl : Nat → Nat} {S : Nat → Nat → Int32} {v : Int32}
set_option maxRecDepth 20000 in
set_option maxHeartbeats 4000000 in
theorem c_limits_0 (hw : ww_wo g M0 M x pl pe n P) (hk : ww_kl M x yk kl) (h : ww_pf M P W kl n S) (hK : ∀ i j, i < 5 → j < 5 → kl i = kl j → i = j) {k : Nat} (hk5 : k < 5) {e d f : Int32} (h2 : q_rg 0 99999 e) (h3 : q_rg 0 99999 d) (h4 : q_rg 0 99999 f) : ww_C g wy_X6_limits 2 0 0 [.ref x, .int (nI k), .int e, .int d, .int f] M (ww_cq g M0 (some (.int (S 20 k))) x pl pe n P W kl (ww_u2 (ww_u2 (ww_u2 S 20 k e) 21 k d) 22 k f)) ww_no := by
  refine ww_ent (by decide +kernel) (Nat.le_of_ble_eq_true rfl) ⟨rfl, rfl, rfl, rfl, rfl, trivial⟩ ?_
  obtain ⟨hl2, k20, _⟩ := h.2.1 k hk5
  have hend := ww_pf_82 (v := f) (ww_pf_81 (v := d) (ww_pf_80 (v := e) h hK hk5) hK hk5) hK hk5
  rw [← k20]
  refine ww_aload_n (i := 0) dX6_limits_0 rfl rfl ?_
  refine ww_iload_n (i := 1) dX6_limits_1 rfl rfl ?_
  refine ww_callV (κ := 7) (r := (RX6, TX6, 4)) wk_X6_37 dX6_limits_2 (c_limitsOf hw hk hk5) rfl rfl (show ww_is _ _ 7 from hw.1).1 (show ww_is _ _ 7 from hw.1).2 rfl rfl (by omega) (by omega) (by omega) (by first | exact Nat.le_of_ble_eq_true rfl | (simp [ww_rf_cat, Value.category])) rfl (fun E M9 h9 => h9.elim) (fun v9 M9 h9 => ?_)
  obtain ⟨rfl, rfl⟩ := h9
  first | refine ww_astore (i := 5) (lv2 := [(0, _), (1, _), (2, _), (3, _), (4, _), (5, _)]) dX6_limits_5 (Nat.le_of_ble_eq_true rfl) rfl ?_ | refine ww_astoreQ (i := 5) (lv2 := [(0, _), (1, _), (2, _), (3, _), (4, _), (5, _)]) dX6_limits_5 (Nat.le_of_ble_eq_true rfl) rfl ?_
  refine ww_iload_n (i := 2) dX6_limits_7 rfl rfl ?_
  refine ww_iconst (v := 0) dX6_limits_8 (by decide) ?_
  refine ww_ldc (v := 99999) dX6_limits_9 wm_417 ?_
  refine ww_callS wk_X6_41 rfl dX6_limits_11 (c_out_f h2) rfl rfl (by omega) (by omega) (by omega) (by first | exact Nat.le_of_ble_eq_true rfl | (simp [ww_rf_cat, Value.category])) rfl (fun E M9 h9 => h9.elim) (fun v9 M9 h9 => ?_)
  obtain ⟨rfl, rfl⟩ := h9
  refine ww_if_ne_f (tgt := 38) dX6_limits_14 (by decide) (by decide) ?_
  refine ww_iload_n (i := 3) dX6_limits_17 rfl rfl ?_
  refine ww_iconst (v := 0) dX6_limits_18 (by decide) ?_
  refine ww_ldc (v := 99999) dX6_limits_19 wm_417 ?_
  refine ww_callS wk_X6_41 rfl dX6_limits_21 (c_out_f h3) rfl rfl (by omega) (by omega) (by omega) (by first | exact Nat.le_of_ble_eq_true rfl | (simp [ww_rf_cat, Value.category])) rfl (fun E M9 h9 => h9.elim) (fun v9 M9 h9 => ?_)
  obtain ⟨rfl, rfl⟩ := h9
  refine ww_if_ne_f (tgt := 38) dX6_limits_24 (by decide) (by decide) ?_
  refine ww_iload (i := 4) dX6_limits_27 rfl ?_
  refine ww_iconst (v := 0) dX6_limits_29 (by decide) ?_
  refine ww_ldc (v := 99999) dX6_limits_30 wm_417 ?_
  refine ww_callS wk_X6_41 rfl dX6_limits_32 (c_out_f h4) rfl rfl (by omega) (by omega) (by omega) (by first | exact Nat.le_of_ble_eq_true rfl | (simp [ww_rf_cat, Value.category])) rfl (fun E M9 h9 => h9.elim) (fun v9 M9 h9 => ?_)
  obtain ⟨rfl, rfl⟩ := h9
  refine ww_if_eq_t (tgt := 48) dX6_limits_35 (by decide) (by decide) ?_
  refine ww_aload (i := 5) dX6_limits_48 rfl ?_
  refine ww_getI (f := 80) wf_X6_73 dX6_limits_50 rfl rfl (show ww_is _ _ 2 from hl2).1 (show ww_is _ _ 2 from hl2).2 ?_
  refine ww_istore (i := 6) (lv2 := [(0, _), (1, _), (2, _), (3, _), (4, _), (5, _), (6, _)]) dX6_limits_53 (Nat.le_of_ble_eq_true rfl) rfl ?_
  refine ww_aload (i := 5) dX6_limits_55 rfl ?_
  refine ww_iload_n (i := 2) dX6_limits_57 rfl rfl ?_
  refine ww_putI (f := 80) wf_X6_73 wt_2_0 dX6_limits_58 rfl rfl (show ww_is _ _ 2 from hl2).1 (show ww_is _ _ 2 from hl2).2 rfl rfl ?_
  refine ww_aload (i := 5) dX6_limits_61 rfl ?_
  refine ww_iload_n (i := 3) dX6_limits_63 rfl rfl ?_
  refine ww_putI (f := 81) wf_X6_77 wt_2_1 dX6_limits_64 rfl rfl (show ww_is _ _ 2 from hl2).1 (show ww_is _ _ 2 from hl2).2 rfl rfl ?_
  refine ww_aload (i := 5) dX6_limits_67 rfl ?_
  refine ww_iload (i := 4) dX6_limits_69 rfl ?_
  refine ww_putI (f := 82) wf_X6_80 wt_2_2 dX6_limits_71 rfl rfl (show ww_is _ _ 2 from hl2).1 (show ww_is _ _ 2 from hl2).2 rfl rfl ?_
  refine ww_iload (i := 6) dX6_limits_74 rfl ?_
  exact ww_ireturn dX6_limits_76 rfl (by first | rfl | exact ww_b_nar) ⟨rfl, ww_wo_I (ww_wo_I (ww_wo_I hw (by decide)) (by decide)) (by decide), hend⟩
set_option maxRecDepth 20000 in
set_option maxHeartbeats 4000000 in
theorem c_limits_1 (hw : ww_wo g M0 M x pl pe n P) (hk : ww_kl M x yk kl) (h : ww_pf M P W kl n S) {k e d f : Int32} (hc : ¬ (q_rg 0 4 k ∧ q_rg 0 99999 e ∧ q_rg 0 99999 d ∧ q_rg 0 99999 f)) : ww_C g wy_X6_limits 8 1 6 [.ref x, .int k, .int e, .int d, .int f] M ww_nr (ww_th "java/lang/IllegalArgumentException" M) := by
  refine ww_ent (by decide +kernel) (Nat.le_of_ble_eq_true rfl) ⟨rfl, rfl, rfl, rfl, rfl, trivial⟩ ?_
  by_cases h1 : q_rg 0 4 k
  · obtain ⟨j, hj, rfl⟩ := ww_nat (n := 5) (by have := h1.1; rw [ww_le'] at this; exact this) (by have := h1.2; rw [ww_le', show (4 : Int32).toInt = 4 from rfl] at this; omega) (by decide)
    have hl2 := (h.2.1 j hj).1
    by_cases h2 : q_rg 0 99999 e
    · by_cases h3 : q_rg 0 99999 d
      · have h4 : ¬ q_rg 0 99999 f := fun z => hc ⟨h1, h2, h3, z⟩
        refine ww_aload_n (i := 0) dX6_limits_0 rfl rfl ?_
        refine ww_iload_n (i := 1) dX6_limits_1 rfl rfl ?_
        refine ww_callV (κ := 7) (r := (RX6, TX6, 4)) wk_X6_37 dX6_limits_2 (c_limitsOf hw hk hj) rfl rfl (show ww_is _ _ 7 from hw.1).1 (show ww_is _ _ 7 from hw.1).2 rfl rfl (by omega) (by omega) (by omega) (by first | exact Nat.le_of_ble_eq_true rfl | (simp [ww_rf_cat, Value.category])) rfl (fun E M9 h9 => h9.elim) (fun v9 M9 h9 => ?_)
        obtain ⟨rfl, rfl⟩ := h9
        first | refine ww_astore (i := 5) (lv2 := [(0, _), (1, _), (2, _), (3, _), (4, _), (5, _)]) dX6_limits_5 (Nat.le_of_ble_eq_true rfl) rfl ?_ | refine ww_astoreQ (i := 5) (lv2 := [(0, _), (1, _), (2, _), (3, _), (4, _), (5, _)]) dX6_limits_5 (Nat.le_of_ble_eq_true rfl) rfl ?_
        refine ww_iload_n (i := 2) dX6_limits_7 rfl rfl ?_
        refine ww_iconst (v := 0) dX6_limits_8 (by decide) ?_
        refine ww_ldc (v := 99999) dX6_limits_9 wm_417 ?_
        refine ww_callS wk_X6_41 rfl dX6_limits_11 (c_out_f h2) rfl rfl (by omega) (by omega) (by omega) (by first | exact Nat.le_of_ble_eq_true rfl | (simp [ww_rf_cat, Value.category])) rfl (fun E M9 h9 => h9.elim) (fun v9 M9 h9 => ?_)
        obtain ⟨rfl, rfl⟩ := h9
        refine ww_if_ne_f (tgt := 38) dX6_limits_14 (by decide) (by decide) ?_
        refine ww_iload_n (i := 3) dX6_limits_17 rfl rfl ?_
        refine ww_iconst (v := 0) dX6_limits_18 (by decide) ?_
        refine ww_ldc (v := 99999) dX6_limits_19 wm_417 ?_
        refine ww_callS wk_X6_41 rfl dX6_limits_21 (c_out_f h3) rfl rfl (by omega) (by omega) (by omega) (by first | exact Nat.le_of_ble_eq_true rfl | (simp [ww_rf_cat, Value.category])) rfl (fun E M9 h9 => h9.elim) (fun v9 M9 h9 => ?_)
        obtain ⟨rfl, rfl⟩ := h9
        refine ww_if_ne_f (tgt := 38) dX6_limits_24 (by decide) (by decide) ?_
        refine ww_iload (i := 4) dX6_limits_27 rfl ?_
        refine ww_iconst (v := 0) dX6_limits_29 (by decide) ?_
        refine ww_ldc (v := 99999) dX6_limits_30 wm_417 ?_
        refine ww_callS wk_X6_41 rfl dX6_limits_32 (c_out_t h4) rfl rfl (by omega) (by omega) (by omega) (by first | exact Nat.le_of_ble_eq_true rfl | (simp [ww_rf_cat, Value.category])) rfl (fun E M9 h9 => h9.elim) (fun v9 M9 h9 => ?_)
        obtain ⟨rfl, rfl⟩ := h9
        refine ww_if_eq_f (tgt := 48) dX6_limits_35 (by decide) (by decide) ?_
        exact ww_throw wx_X6_45_71 dX6_limits_38 dX6_limits_41 dX6_limits_42 dX6_limits_44 dX6_limits_47 rfl (Nat.le_of_ble_eq_true rfl) (by omega) (by omega) (by first | exact Nat.le_of_ble_eq_true rfl | (simp [ww_rf_cat, Value.category])) ⟨rfl, rfl⟩
      · refine ww_aload_n (i := 0) dX6_limits_0 rfl rfl ?_
        refine ww_iload_n (i := 1) dX6_limits_1 rfl rfl ?_
        refine ww_callV (κ := 7) (r := (RX6, TX6, 4)) wk_X6_37 dX6_limits_2 (c_limitsOf hw hk hj) rfl rfl (show ww_is _ _ 7 from hw.1).1 (show ww_is _ _ 7 from hw.1).2 rfl rfl (by omega) (by omega) (by omega) (by first | exact Nat.le_of_ble_eq_true rfl | (simp [ww_rf_cat, Value.category])) rfl (fun E M9 h9 => h9.elim) (fun v9 M9 h9 => ?_)
        obtain ⟨rfl, rfl⟩ := h9
        first | refine ww_astore (i := 5) (lv2 := [(0, _), (1, _), (2, _), (3, _), (4, _), (5, _)]) dX6_limits_5 (Nat.le_of_ble_eq_true rfl) rfl ?_ | refine ww_astoreQ (i := 5) (lv2 := [(0, _), (1, _), (2, _), (3, _), (4, _), (5, _)]) dX6_limits_5 (Nat.le_of_ble_eq_true rfl) rfl ?_
        refine ww_iload_n (i := 2) dX6_limits_7 rfl rfl ?_
        refine ww_iconst (v := 0) dX6_limits_8 (by decide) ?_
        refine ww_ldc (v := 99999) dX6_limits_9 wm_417 ?_
        refine ww_callS wk_X6_41 rfl dX6_limits_11 (c_out_f h2) rfl rfl (by omega) (by omega) (by omega) (by first | exact Nat.le_of_ble_eq_true rfl | (simp [ww_rf_cat, Value.category])) rfl (fun E M9 h9 => h9.elim) (fun v9 M9 h9 => ?_)
        obtain ⟨rfl, rfl⟩ := h9
        refine ww_if_ne_f (tgt := 38) dX6_limits_14 (by decide) (by decide) ?_
        refine ww_iload_n (i := 3) dX6_limits_17 rfl rfl ?_
        refine ww_iconst (v := 0) dX6_limits_18 (by decide) ?_
        refine ww_ldc (v := 99999) dX6_limits_19 wm_417 ?_
        refine ww_callS wk_X6_41 rfl dX6_limits_21 (c_out_t h3) rfl rfl (by omega) (by omega) (by omega) (by first | exact Nat.le_of_ble_eq_true rfl | (simp [ww_rf_cat, Value.category])) rfl (fun E M9 h9 => h9.elim) (fun v9 M9 h9 => ?_)
        obtain ⟨rfl, rfl⟩ := h9
        refine ww_if_ne_t (tgt := 38) dX6_limits_24 (by decide) (by decide) ?_
        exact ww_throw wx_X6_45_71 dX6_limits_38 dX6_limits_41 dX6_limits_42 dX6_limits_44 dX6_limits_47 rfl (Nat.le_of_ble_eq_true rfl) (by omega) (by omega) (by first | exact Nat.le_of_ble_eq_true rfl | (simp [ww_rf_cat, Value.category])) ⟨rfl, rfl⟩
    · refine ww_aload_n (i := 0) dX6_limits_0 rfl rfl ?_
      refine ww_iload_n (i := 1) dX6_limits_1 rfl rfl ?_
      refine ww_callV (κ := 7) (r := (RX6, TX6, 4)) wk_X6_37 dX6_limits_2 (c_limitsOf hw hk hj) rfl rfl (show ww_is _ _ 7 from hw.1).1 (show ww_is _ _ 7 from hw.1).2 rfl rfl (by omega) (by omega) (by omega) (by first | exact Nat.le_of_ble_eq_true rfl | (simp [ww_rf_cat, Value.category])) rfl (fun E M9 h9 => h9.elim) (fun v9 M9 h9 => ?_)
      obtain ⟨rfl, rfl⟩ := h9
      first | refine ww_astore (i := 5) (lv2 := [(0, _), (1, _), (2, _), (3, _), (4, _), (5, _)]) dX6_limits_5 (Nat.le_of_ble_eq_true rfl) rfl ?_ | refine ww_astoreQ (i := 5) (lv2 := [(0, _), (1, _), (2, _), (3, _), (4, _), (5, _)]) dX6_limits_5 (Nat.le_of_ble_eq_true rfl) rfl ?_
      refine ww_iload_n (i := 2) dX6_limits_7 rfl rfl ?_
      refine ww_iconst (v := 0) dX6_limits_8 (by decide) ?_
      refine ww_ldc (v := 99999) dX6_limits_9 wm_417 ?_
      refine ww_callS wk_X6_41 rfl dX6_limits_11 (c_out_t h2) rfl rfl (by omega) (by omega) (by omega) (by first | exact Nat.le_of_ble_eq_true rfl | (simp [ww_rf_cat, Value.category])) rfl (fun E M9 h9 => h9.elim) (fun v9 M9 h9 => ?_)
      obtain ⟨rfl, rfl⟩ := h9
      refine ww_if_ne_t (tgt := 38) dX6_limits_14 (by decide) (by decide) ?_
      exact ww_throw wx_X6_45_71 dX6_limits_38 dX6_limits_41 dX6_limits_42 dX6_limits_44 dX6_limits_47 rfl (Nat.le_of_ble_eq_true rfl) (by omega) (by omega) (by first | exact Nat.le_of_ble_eq_true rfl | (simp [ww_rf_cat, Value.category])) ⟨rfl, rfl⟩
  · refine ww_aload_n (i := 0) dX6_limits_0 rfl rfl ?_
    refine ww_iload_n (i := 1) dX6_limits_1 rfl rfl ?_
    refine ww_callV (κ := 7) (r := (RX6, TX6, 4)) wk_X6_37 dX6_limits_2 (c_limitsOf_x hw hk h1) rfl rfl (show ww_is _ _ 7 from hw.1).1 (show ww_is _ _ 7 from hw.1).2 rfl rfl (by omega) (by omega) (by omega) (by first | exact Nat.le_of_ble_eq_true rfl | (simp [ww_rf_cat, Value.category])) rfl (fun E M9 h9 => h9) (fun v9 M9 h9 => ?_)
    exact h9.elim
    -- at 5, locals [0, 1, 2, 3, 4]
/-! the wheelsets of a bogie -/
def q_isS (S : Nat → Nat → Int32) (p i : Nat) : Prop := S 5 i = nI p ∧ S 2 i = 3
set_option maxRecDepth 20000 in
set_option maxHeartbeats 4000000 in
theorem c_wheelIn_l (hw : ww_wo g M0 M x pl pe n P) (h : ww_pf M P W kl n S) (hG : q_G S n) {p : Nat} (hp : p < n) (k : Int32) : ∀ m i j, i + m = n → j ≤ i → ww_A g wy_X6_wheelIn 4 0 0 M 5 [(0, .ref x), (1, .ref (P p)), (2, .int k), (3, .int (nI j)), (4, .int (nI i))] [] (ww_ret (some (va_rf (q_ov W (q_fj (q_isS S p) k m i j)))) M) ww_no
  | 0, i, j, hm, hj => by
    have e0 : i = n := by omega
    subst e0
    have h6 := hw.2.2.2.1
    have hsz := l_size (g := g) hw.2.2.1
    refine ww_iload (i := 4) dX6_wheelIn_5 rfl ?_
    refine ww_aload_n (i := 0) dX6_wheelIn_7 rfl rfl ?_
    refine ww_getR (f := 280) wf_X6_10 dX6_wheelIn_8 rfl rfl (show ww_is _ _ 7 from hw.1).1 (show ww_is _ _ 7 from hw.1).2 hw.2.1 ?_
    refine ww_callV (κ := 0) (r := (RJx4a65c, TJx4a65c, 3)) wk_X6_52 dX6_wheelIn_11 (hsz) rfl rfl (show ww_is _ _ 0 from hw.2.2.1.1).1 (show ww_is _ _ 0 from hw.2.2.1.1).2 rfl rfl (by omega) (by omega) (by omega) (by first | exact Nat.le_of_ble_eq_true rfl | (simp [ww_rf_cat, Value.category])) rfl (fun E M9 h9 => h9.elim) (fun v9 M9 h9 => ?_)
    obtain ⟨rfl, rfl⟩ := h9
    refine ww_icmp_ge_t (tgt := 68) dX6_wheelIn_14 (by decide) (nI_le (Nat.le_refl _) (by omega)) ?_
    refine ww_null dX6_wheelIn_68 ?_
    exact ww_areturn dX6_wheelIn_69 rfl (by first | exact Or.inl ⟨_, rfl⟩ | exact Or.inr ⟨_, rfl⟩) (r := none) rfl ⟨rfl, rfl⟩
  | m + 1, i, j, hm, hj => by
    have h6 := hw.2.2.2.1
    have hsz := l_size (g := g) hw.2.2.1
    have hgt := l_get (g := g) hw.2.2.1 (i := i) (by omega)
    have hi4 := (h.1 i (by omega)).1.1
    have heq := ww_hs_eq (ww_pf_hs h) hG.2.2.1 h6 h.2.2 (j := i) (p := p) (by omega) hp
    have hno := c_wheelIn_l hw h hG hp k m (i + 1) j (by omega) (by omega)
    have hsk : ¬ q_isS S p i → ww_A g wy_X6_wheelIn 4 0 0 M 62 [(0, .ref x), (1, .ref (P p)), (2, .int k), (3, .int (nI j)), (4, .int (nI i)), (5, .ref (P i))] [] (ww_ret (some (va_rf (q_ov W (q_fj (q_isS S p) k (m + 1) i j)))) M) ww_no := fun c => by
      rw [show q_fj (q_isS S p) k (m + 1) i j = q_fj (q_isS S p) k m (i + 1) j from q_if_f c]
      refine ww_iinc (i := 4) (v := _ + 1) (lv2 := [(0, _), (1, _), (2, _), (3, _), (4, _), (5, _)]) dX6_wheelIn_62 rfl (by rfl) (Nat.le_of_ble_eq_true rfl) rfl ?_
      refine ww_goto (tgt := 5) dX6_wheelIn_65 (by decide) ?_
      -- at 5, locals [0, 1, 2, 3, 4, 5]
      rw [nI_1]
      exact ww_subk hno ⟨rfl, rfl, rfl, rfl, rfl, trivial⟩
    refine ww_iload (i := 4) dX6_wheelIn_5 rfl ?_
    refine ww_aload_n (i := 0) dX6_wheelIn_7 rfl rfl ?_
    refine ww_getR (f := 280) wf_X6_10 dX6_wheelIn_8 rfl rfl (show ww_is _ _ 7 from hw.1).1 (show ww_is _ _ 7 from hw.1).2 hw.2.1 ?_
    refine ww_callV (κ := 0) (r := (RJx4a65c, TJx4a65c, 3)) wk_X6_52 dX6_wheelIn_11 (hsz) rfl rfl (show ww_is _ _ 0 from hw.2.2.1.1).1 (show ww_is _ _ 0 from hw.2.2.1.1).2 rfl rfl (by omega) (by omega) (by omega) (by first | exact Nat.le_of_ble_eq_true rfl | (simp [ww_rf_cat, Value.category])) rfl (fun E M9 h9 => h9.elim) (fun v9 M9 h9 => ?_)
    obtain ⟨rfl, rfl⟩ := h9
    refine ww_icmp_ge_f (tgt := 68) dX6_wheelIn_14 (by decide) (nI_ge (by omega) (by omega)) ?_
    refine ww_aload_n (i := 0) dX6_wheelIn_17 rfl rfl ?_
    refine ww_getR (f := 280) wf_X6_10 dX6_wheelIn_18 rfl rfl (show ww_is _ _ 7 from hw.1).1 (show ww_is _ _ 7 from hw.1).2 hw.2.1 ?_
    refine ww_iload (i := 4) dX6_wheelIn_21 rfl ?_
    refine ww_callV (κ := 0) (r := (RJx4a65c, TJx4a65c, 3)) wk_X6_171 dX6_wheelIn_23 (hgt) rfl rfl (show ww_is _ _ 0 from hw.2.2.1.1).1 (show ww_is _ _ 0 from hw.2.2.1.1).2 rfl rfl (by omega) (by omega) (by omega) (by first | exact Nat.le_of_ble_eq_true rfl | (simp [ww_rf_cat, Value.category])) rfl (fun E M9 h9 => h9.elim) (fun v9 M9 h9 => ?_)
    obtain ⟨rfl, rfl⟩ := h9
    refine ww_cast (nm := "") (κ := 4) (r := (RX3, TX3, 18)) dX6_wheelIn_26 (show ww_is _ _ 4 from hi4).1 (show ww_is _ _ 4 from hi4).2 rfl wm_256 ?_
    first | refine ww_astore (i := 5) (lv2 := [(0, _), (1, _), (2, _), (3, _), (4, _), (5, _)]) dX6_wheelIn_29 (Nat.le_of_ble_eq_true rfl) rfl ?_ | refine ww_astoreQ (i := 5) (lv2 := [(0, _), (1, _), (2, _), (3, _), (4, _), (5, _)]) dX6_wheelIn_29 (Nat.le_of_ble_eq_true rfl) rfl ?_
    refine ww_aload (i := 5) dX6_wheelIn_31 rfl ?_
    refine ww_getQ (f := 166) wf_X6_129 dX6_wheelIn_33 rfl rfl (show ww_is _ _ 4 from hi4).1 (show ww_is _ _ 4 from hi4).2 ?_
    refine ww_aload_n (i := 1) dX6_wheelIn_36 rfl rfl ?_
    -- at 37, locals [0, 1, 2, 3, 4, 5]
    refine ww_acmp_ne (tgt := 62) (rx := ww_R M 166 (P i)) (ry := some (P p)) rfl rfl dX6_wheelIn_37 (by decide) (fun z => ?_) (fun z => ?_)
    · exact hsk (fun y => z (heq.mpr y.1))
    · have e1 := heq.mp z
      by_cases c : S 2 i = 3
      · obtain ⟨hR, hw5, _⟩ := (h.1 i (by omega)).2.1 c
        have hs : q_isS S p i := ⟨e1, c⟩
        by_cases c2 : nI j = k
        · rw [show q_fj (q_isS S p) k (m + 1) i j = some i from (q_if_t hs).trans (if_pos c2)]
          refine ww_aload (i := 5) dX6_wheelIn_40 rfl ?_
          refine ww_getR (f := 165) wf_X6_345 dX6_wheelIn_42 rfl rfl (show ww_is _ _ 4 from hi4).1 (show ww_is _ _ 4 from hi4).2 hR ?_
          refine ww_ifnull_f dX6_wheelIn_45 ?_
          refine ww_iload_n (i := 3) dX6_wheelIn_48 rfl rfl ?_
          refine ww_iload_n (i := 2) dX6_wheelIn_49 rfl rfl ?_
          refine ww_icmp_ne_f (tgt := 59) dX6_wheelIn_50 (by decide) c2 ?_
          refine ww_aload (i := 5) dX6_wheelIn_53 rfl ?_
          refine ww_getR (f := 165) wf_X6_345 dX6_wheelIn_55 rfl rfl (show ww_is _ _ 4 from hi4).1 (show ww_is _ _ 4 from hi4).2 hR ?_
          exact ww_areturn dX6_wheelIn_58 rfl (by first | exact Or.inl ⟨_, rfl⟩ | exact Or.inr ⟨_, rfl⟩) (r := some _) rfl ⟨rfl, rfl⟩
        · rw [show q_fj (q_isS S p) k (m + 1) i j = q_fj (q_isS S p) k m (i + 1) (j + 1) from (q_if_t hs).trans (if_neg c2)]
          have hyes := c_wheelIn_l hw h hG hp k m (i + 1) (j + 1) (by omega) (by omega)
          refine ww_aload (i := 5) dX6_wheelIn_40 rfl ?_
          refine ww_getR (f := 165) wf_X6_345 dX6_wheelIn_42 rfl rfl (show ww_is _ _ 4 from hi4).1 (show ww_is _ _ 4 from hi4).2 hR ?_
          refine ww_ifnull_f dX6_wheelIn_45 ?_
          refine ww_iload_n (i := 3) dX6_wheelIn_48 rfl rfl ?_
          refine ww_iload_n (i := 2) dX6_wheelIn_49 rfl rfl ?_
          refine ww_icmp_ne_t (tgt := 59) dX6_wheelIn_50 (by decide) c2 ?_
          refine ww_iinc (i := 3) (v := _ + 1) (lv2 := [(0, _), (1, _), (2, _), (3, _), (4, _), (5, _)]) dX6_wheelIn_59 rfl (by rfl) (Nat.le_of_ble_eq_true rfl) rfl ?_
          refine ww_iinc (i := 4) (v := _ + 1) (lv2 := [(0, _), (1, _), (2, _), (3, _), (4, _), (5, _)]) dX6_wheelIn_62 rfl (by rfl) (Nat.le_of_ble_eq_true rfl) rfl ?_
          refine ww_goto (tgt := 5) dX6_wheelIn_65 (by decide) ?_
          -- at 5, locals [0, 1, 2, 3, 4, 5]
          rw [nI_1, nI_1]
          exact ww_subk hyes ⟨rfl, rfl, rfl, rfl, rfl, trivial⟩
      · have hR := (h.1 i (by omega)).2.2.1 c
        refine ww_aload (i := 5) dX6_wheelIn_40 rfl ?_
        refine ww_getN (f := 165) wf_X6_345 dX6_wheelIn_42 rfl rfl (show ww_is _ _ 4 from hi4).1 (show ww_is _ _ 4 from hi4).2 hR ?_
        refine ww_ifnull_t (tgt := 62) dX6_wheelIn_45 (by decide) ?_
        -- at 62, locals [0, 1, 2, 3, 4, 5]
        exact hsk (fun y => c y.2)
set_option maxRecDepth 20000 in
theorem c_wheelIn (hw : ww_wo g M0 M x pl pe n P) (h : ww_pf M P W kl n S) (hG : q_G S n) {p : Nat} (hp : p < n) (k : Int32) : ww_C g wy_X6_wheelIn 4 0 0 [.ref x, .ref (P p), .int k] M (ww_ret (some (va_rf (q_ov W (q_fj (q_isS S p) k n 0 0)))) M) ww_no := by
  refine ww_ent (by decide +kernel) (Nat.le_of_ble_eq_true rfl) ⟨rfl, rfl, rfl, trivial⟩ ?_
  have hl := c_wheelIn_l (g := g) hw h hG hp k n 0 0 (by omega) (by omega)
  rw [nI_0] at hl
  refine ww_iconst (v := 0) dX6_wheelIn_0 (by decide) ?_
  refine ww_istore_n (i := 3) (lv2 := [(0, _), (1, _), (2, _), (3, _)]) dX6_wheelIn_1 rfl (Nat.le_of_ble_eq_true rfl) rfl ?_
  refine ww_iconst (v := 0) dX6_wheelIn_2 (by decide) ?_
  refine ww_istore (i := 4) (lv2 := [(0, _), (1, _), (2, _), (3, _), (4, _)]) dX6_wheelIn_3 (Nat.le_of_ble_eq_true rfl) rfl ?_
  -- at 5, locals [0, 1, 2, 3, 4]
  exact hl
theorem q_fj_some {P : Nat → Prop} {v : Int32} : ∀ {m i j q : Nat}, q_fj P v m i j = some q → i ≤ q ∧ q < i + m ∧ P q
  | 0, _, _, _, h => by cases h
  | m + 1, i, j, q, h => by
    unfold q_fj at h
    by_cases c : P i
    · rw [q_if_t c] at h
      by_cases c2 : nI j = v
      · rw [if_pos c2] at h
        cases h
        exact ⟨Nat.le_refl _, by omega, c⟩
      · rw [if_neg c2] at h
        have := q_fj_some h
        exact ⟨by omega, by omega, this.2.2⟩
    · rw [q_if_f c] at h
      have := q_fj_some h
      exact ⟨by omega, by omega, this.2.2⟩
/-- how many come before the one found -/
theorem q_fj_cnt {P : Nat → Prop} {v : Int32} : ∀ {m i q : Nat}, q_fj P v m i (q_cnt P i) = some q → nI (q_cnt P q) = v
  | 0, _, _, h => by cases h
  | m + 1, i, q, h => by
    unfold q_fj at h
    by_cases c : P i
    · rw [q_if_t c] at h
      by_cases c2 : nI (q_cnt P i) = v
      · rw [if_pos c2] at h
        cases h
        exact c2
      · rw [if_neg c2, ← q_cnt_s c] at h
        exact q_fj_cnt h
    · rw [q_if_f c, ← q_cnt_n c] at h
      exact q_fj_cnt h
theorem q_fj_P {P : Nat → Prop} {v : Int32} {n q : Nat} (h : q_fj P v n 0 0 = some q) : q < n := by
  have := (q_fj_some h).2.1
  omega
theorem q_fj_0 {p : Nat} {v : Int32} {q : Nat} (h : q_fj (q_isS S p) v n 0 0 = some q) : S 2 q = 3 := (q_fj_some h).2.2.2
theorem q_fj_ne {P : Nat → Prop} {n a z : Nat} (h : q_fj P 0 n 0 0 = some a) (h' : q_fj P 1 n 0 0 = some z) : ¬ a = z := fun e => by
  have e1 := q_fj_cnt (i := 0) h
  have e2 := q_fj_cnt (i := 0) h'
  rw [e, e2] at e1
  exact absurd e1 (by decide)
/-- the pair that the lathe turns -/
def q_pair (S : Nat → Nat → Int32) (n p : Nat) (a z : Nat) : Prop := q_fj (q_isS S p) 0 n 0 0 = some a ∧ q_fj (q_isS S p) 1 n 0 0 = some z ∧ a < n ∧ z < n ∧ S 2 a = 3 ∧ S 2 z = 3 ∧ ¬ a = z
set_option maxRecDepth 20000 in
theorem c_turn_1 (hw : ww_wo g M0 M x pl pe n P) {p : Int32} (hc : q_noP n p) : ww_C g wy_X6_turn 8 1 6 [.ref x, .int p] M ww_nr (ww_th "java/lang/IndexOutOfBoundsException" M) := by
  refine ww_ent (by decide +kernel) (Nat.le_of_ble_eq_true rfl) ⟨rfl, rfl, trivial⟩ ?_
  refine ww_aload_n (i := 0) dX6_turn_0 rfl rfl ?_
  refine ww_iload_n (i := 1) dX6_turn_1 rfl rfl ?_
  refine ww_callV (κ := 7) (r := (RX6, TX6, 4)) wk_X6_83 dX6_turn_2 (c_existing_x hw hc) rfl rfl (show ww_is _ _ 7 from hw.1).1 (show ww_is _ _ 7 from hw.1).2 rfl rfl (by omega) (by omega) (by omega) (by first | exact Nat.le_of_ble_eq_true rfl | (simp [ww_rf_cat, Value.category])) rfl (fun E M9 h9 => h9) (fun v9 M9 h9 => ?_)
  exact h9.elim
  -- at 5, locals [0, 1]
set_option maxRecDepth 20000 in
theorem c_turn_2 (hw : ww_wo g M0 M x pl pe n P) (h : ww_pf M P W kl n S) {p : Nat} (hp : p < n) (hk : ¬ S 2 p = 2) : ww_C g wy_X6_turn 8 1 6 [.ref x, .int (nI p)] M ww_nr (ww_th "java/lang/IllegalArgumentException" M) := by
  refine ww_ent (by decide +kernel) (Nat.le_of_ble_eq_true rfl) ⟨rfl, rfl, trivial⟩ ?_
  have hi4 := (h.1 p hp).1.1
  have hk' : ¬ ww_I M 161 (P p) = 2 := by rw [ww_pf_kd h p hp]; exact hk
  refine ww_aload_n (i := 0) dX6_turn_0 rfl rfl ?_
  refine ww_iload_n (i := 1) dX6_turn_1 rfl rfl ?_
  refine ww_callV (κ := 7) (r := (RX6, TX6, 4)) wk_X6_83 dX6_turn_2 (c_existing hw h hp) rfl rfl (show ww_is _ _ 7 from hw.1).1 (show ww_is _ _ 7 from hw.1).2 rfl rfl (by omega) (by omega) (by omega) (by first | exact Nat.le_of_ble_eq_true rfl | (simp [ww_rf_cat, Value.category])) rfl (fun E M9 h9 => h9.elim) (fun v9 M9 h9 => ?_)
  obtain ⟨rfl, rfl⟩ := h9
  first | refine ww_astore_n (i := 2) (lv2 := [(0, _), (1, _), (2, _)]) dX6_turn_5 rfl (Nat.le_of_ble_eq_true rfl) rfl ?_ | refine ww_astore_nQ (i := 2) (lv2 := [(0, _), (1, _), (2, _)]) dX6_turn_5 rfl (Nat.le_of_ble_eq_true rfl) rfl ?_
  refine ww_aload_n (i := 2) dX6_turn_6 rfl rfl ?_
  refine ww_getI (f := 161) wf_X6_87 dX6_turn_7 rfl rfl (show ww_is _ _ 4 from hi4).1 (show ww_is _ _ 4 from hi4).2 ?_
  refine ww_iconst (v := 2) dX6_turn_10 (by decide) ?_
  refine ww_icmp_eq_f (tgt := 24) dX6_turn_11 (by decide) hk' ?_
  exact ww_throw wx_X6_45_188 dX6_turn_14 dX6_turn_17 dX6_turn_18 dX6_turn_20 dX6_turn_23 rfl (Nat.le_of_ble_eq_true rfl) (by omega) (by omega) (by first | exact Nat.le_of_ble_eq_true rfl | (simp [ww_rf_cat, Value.category])) ⟨rfl, rfl⟩
set_option maxRecDepth 20000 in
set_option maxHeartbeats 4000000 in
theorem c_turn_3 (hw : ww_wo g M0 M x pl pe n P) (h : ww_pf M P W kl n S) (hG : q_G S n) {p : Nat} (hp : p < n) (hk : S 2 p = 2) (hc : ¬ ((∃ a z, q_pair S n p a z) ∧ ¬ q_bound S p)) : ww_C g wy_X6_turn 8 1 6 [.ref x, .int (nI p)] M ww_nr (ww_th "java/lang/IllegalStateException" M) := by
  refine ww_ent (by decide +kernel) (Nat.le_of_ble_eq_true rfl) ⟨rfl, rfl, trivial⟩ ?_
  have hi4 := (h.1 p hp).1.1
  have hk' : ww_I M 161 (P p) = 2 := by rw [ww_pf_kd h p hp]; exact hk
  have w0 := c_wheelIn (g := g) hw h hG hp 0
  have w1 := c_wheelIn (g := g) hw h hG hp 1
  refine ww_aload_n (i := 0) dX6_turn_0 rfl rfl ?_
  refine ww_iload_n (i := 1) dX6_turn_1 rfl rfl ?_
  refine ww_callV (κ := 7) (r := (RX6, TX6, 4)) wk_X6_83 dX6_turn_2 (c_existing hw h hp) rfl rfl (show ww_is _ _ 7 from hw.1).1 (show ww_is _ _ 7 from hw.1).2 rfl rfl (by omega) (by omega) (by omega) (by first | exact Nat.le_of_ble_eq_true rfl | (simp [ww_rf_cat, Value.category])) rfl (fun E M9 h9 => h9.elim) (fun v9 M9 h9 => ?_)
  obtain ⟨rfl, rfl⟩ := h9
  first | refine ww_astore_n (i := 2) (lv2 := [(0, _), (1, _), (2, _)]) dX6_turn_5 rfl (Nat.le_of_ble_eq_true rfl) rfl ?_ | refine ww_astore_nQ (i := 2) (lv2 := [(0, _), (1, _), (2, _)]) dX6_turn_5 rfl (Nat.le_of_ble_eq_true rfl) rfl ?_
  refine ww_aload_n (i := 2) dX6_turn_6 rfl rfl ?_
  refine ww_getI (f := 161) wf_X6_87 dX6_turn_7 rfl rfl (show ww_is _ _ 4 from hi4).1 (show ww_is _ _ 4 from hi4).2 ?_
  refine ww_iconst (v := 2) dX6_turn_10 (by decide) ?_
  refine ww_icmp_eq_t (tgt := 24) dX6_turn_11 (by decide) hk' ?_
  refine ww_aload_n (i := 0) dX6_turn_24 rfl rfl ?_
  refine ww_aload_n (i := 2) dX6_turn_25 rfl rfl ?_
  refine ww_iconst (v := 0) dX6_turn_26 (by decide) ?_
  refine ww_callV (κ := 7) (r := (RX6, TX6, 4)) wk_X6_190 dX6_turn_27 (w0) rfl rfl (show ww_is _ _ 7 from hw.1).1 (show ww_is _ _ 7 from hw.1).2 rfl rfl (by omega) (by omega) (by omega) (by first | exact Nat.le_of_ble_eq_true rfl | (simp [ww_rf_cat, Value.category])) rfl (fun E M9 h9 => h9.elim) (fun v9 M9 h9 => ?_)
  obtain ⟨rfl, rfl⟩ := h9
  -- at 30, locals [0, 1, 2]
  refine ww_astore_nQ (i := 3) (r := q_ov W (q_fj (q_isS S p) 0 n 0 0)) (lv2 := [(0, _), (1, _), (2, _), (3, _)]) dX6_turn_30 rfl (Nat.le_of_ble_eq_true rfl) rfl ?_
  refine ww_aload_n (i := 0) dX6_turn_31 rfl rfl ?_
  refine ww_aload_n (i := 2) dX6_turn_32 rfl rfl ?_
  refine ww_iconst (v := 1) dX6_turn_33 (by decide) ?_
  refine ww_callV (κ := 7) (r := (RX6, TX6, 4)) wk_X6_190 dX6_turn_34 (w1) rfl rfl (show ww_is _ _ 7 from hw.1).1 (show ww_is _ _ 7 from hw.1).2 rfl rfl (by omega) (by omega) (by omega) (by first | exact Nat.le_of_ble_eq_true rfl | (simp [ww_rf_cat, Value.category])) rfl (fun E M9 h9 => h9.elim) (fun v9 M9 h9 => ?_)
  obtain ⟨rfl, rfl⟩ := h9
  -- at 37, locals [0, 1, 2, 3]
  refine ww_astoreQ (i := 4) (r := q_ov W (q_fj (q_isS S p) 1 n 0 0)) (lv2 := [(0, _), (1, _), (2, _), (3, _), (4, _)]) dX6_turn_37 (Nat.le_of_ble_eq_true rfl) rfl ?_
  refine ww_aload_nQ (i := 3) (r := q_ov W (q_fj (q_isS S p) 0 n 0 0)) dX6_turn_39 rfl rfl ?_
  cases h0 : q_fj (q_isS S p) 0 n 0 0 with
  | none =>
    refine ww_ifnull_t (tgt := 55) dX6_turn_40 (by decide) ?_
    exact ww_throw wx_X6_56_194 dX6_turn_55 dX6_turn_58 dX6_turn_59 dX6_turn_61 dX6_turn_64 rfl (Nat.le_of_ble_eq_true rfl) (by omega) (by omega) (by first | exact Nat.le_of_ble_eq_true rfl | (simp [ww_rf_cat, Value.category])) ⟨rfl, rfl⟩
  | some a =>
    refine ww_ifnull_f dX6_turn_40 ?_
    refine ww_aloadQ (i := 4) (r := q_ov W (q_fj (q_isS S p) 1 n 0 0)) dX6_turn_43 rfl ?_
    cases h1 : q_fj (q_isS S p) 1 n 0 0 with
    | none =>
      refine ww_ifnull_t (tgt := 55) dX6_turn_45 (by decide) ?_
      exact ww_throw wx_X6_56_194 dX6_turn_55 dX6_turn_58 dX6_turn_59 dX6_turn_61 dX6_turn_64 rfl (Nat.le_of_ble_eq_true rfl) (by omega) (by omega) (by first | exact Nat.le_of_ble_eq_true rfl | (simp [ww_rf_cat, Value.category])) ⟨rfl, rfl⟩
    | some z =>
      have hb : q_bound S p := Classical.not_not.mp fun y => hc ⟨⟨a, z, h0, h1, q_fj_P h0, q_fj_P h1, q_fj_0 h0, q_fj_0 h1, q_fj_ne h0 h1⟩, y⟩
      refine ww_ifnull_f dX6_turn_45 ?_
      refine ww_aload_n (i := 2) dX6_turn_48 rfl rfl ?_
      refine ww_callV (κ := 4) (r := (RX3, TX3, 18)) wk_X6_109 dX6_turn_49 (p_bound_t h hG hp hb) rfl rfl (show ww_is _ _ 4 from hi4).1 (show ww_is _ _ 4 from hi4).2 rfl rfl (by omega) (by omega) (by omega) (by first | exact Nat.le_of_ble_eq_true rfl | (simp [ww_rf_cat, Value.category])) rfl (fun E M9 h9 => h9.elim) (fun v9 M9 h9 => ?_)
      obtain ⟨rfl, rfl⟩ := h9
      refine ww_if_eq_f (tgt := 65) dX6_turn_52 (by decide) (by decide) ?_
      exact ww_throw wx_X6_56_194 dX6_turn_55 dX6_turn_58 dX6_turn_59 dX6_turn_61 dX6_turn_64 rfl (Nat.le_of_ble_eq_true rfl) (by omega) (by omega) (by first | exact Nat.le_of_ble_eq_true rfl | (simp [ww_rf_cat, Value.category])) ⟨rfl, rfl⟩
set_option maxRecDepth 20000 in
set_option maxHeartbeats 4000000 in
theorem c_turn_0 (hw : ww_wo g M0 M x pl pe n P) (h : ww_pf M P W kl n S) (hG : q_G S n) (hW : ww_wa W n S) {p a z : Nat} (hp : p < n) (hk : S 2 p = 2) (hc : q_pair S n p a z) (hb : ¬ q_bound S p) : ww_C g wy_X6_turn 5 0 0 [.ref x, .int (nI p)] M (ww_cq g M0 (some (.int (S 13 a + S 13 z - 2 * q_turnM (q_true (q_true S a) z) a z))) x pl pe n P W kl (q_turn S a z)) ww_no := by
  refine ww_ent (by decide +kernel) (Nat.le_of_ble_eq_true rfl) ⟨rfl, rfl, trivial⟩ ?_
  have hi4 := (h.1 p hp).1.1
  have hk' : ww_I M 161 (P p) = 2 := by rw [ww_pf_kd h p hp]; exact hk
  obtain ⟨h0, h1, ha, hz, ka, kz, hne⟩ := hc
  have w0 := c_wheelIn (g := g) hw h hG hp 0
  have w1 := c_wheelIn (g := g) hw h hG hp 1
  rw [h0] at w0
  rw [h1] at w1
  have w0 : ww_C g wy_X6_wheelIn 4 0 0 [.ref x, .ref (P p), .int 0] M (ww_ret (some (.ref (W a))) M) ww_no := w0
  have w1 : ww_C g wy_X6_wheelIn 4 0 0 [.ref x, .ref (P p), .int 1] M (ww_ret (some (.ref (W z))) M) ww_no := w1
  obtain ⟨_, hu5, a13, a14, _⟩ := (h.1 a ha).2.1 ka
  obtain ⟨_, ho5, z13, z14, _⟩ := (h.1 z hz).2.1 kz
  have f1 : ww_pf (ww_sI (ww_sI M 200 (W a) (ww_I M 200 (W a) - 2 * (300 - ww_I M 201 (W a)))) 201 (W a) 300) P W kl n (q_true S a) := by
    rw [a13, a14]
    exact ww_pf_201 (ww_pf_200 h hW ha ka) hW ha ka
  generalize hM1 : ww_sI (ww_sI M 200 (W a) (ww_I M 200 (W a) - 2 * (300 - ww_I M 201 (W a)))) 201 (W a) 300 = Ma at f1
  have wo1 : ww_wo g M0 Ma x pl pe n P := by rw [← hM1]; exact ww_wo_I (ww_wo_I hw (by decide)) (by decide)
  have hM11 : Ma.1 = M.1 := by rw [← hM1]; rfl
  have k1z : q_true S a 2 z = 3 := kz
  have k1a : q_true S a 2 a = 3 := ka
  obtain ⟨_, ho51, z13', z14', _⟩ := (f1.1 z hz).2.1 k1z
  have f2 : ww_pf (ww_sI (ww_sI Ma 200 (W z) (ww_I Ma 200 (W z) - 2 * (300 - ww_I Ma 201 (W z)))) 201 (W z) 300) P W kl n (q_true (q_true S a) z) := by
    rw [z13', z14']
    exact ww_pf_201 (ww_pf_200 f1 hW hz k1z) hW hz k1z
  generalize hM2 : ww_sI (ww_sI Ma 200 (W z) (ww_I Ma 200 (W z) - 2 * (300 - ww_I Ma 201 (W z)))) 201 (W z) 300 = Mz at f2
  have wo2 : ww_wo g M0 Mz x pl pe n P := by rw [← hM2]; exact ww_wo_I (ww_wo_I wo1 (by decide)) (by decide)
  obtain ⟨_, hu52, a13'', _⟩ := (f2.1 a ha).2.1 k1a
  obtain ⟨_, ho52, z13'', _⟩ := (f2.1 z hz).2.1 k1z
  have em : (if ww_I Mz 200 (W z) < ww_I Mz 200 (W a) then ww_I Mz 200 (W z) else ww_I Mz 200 (W a)) = q_turnM (q_true (q_true S a) z) a z := by
    rw [a13'', z13'']
    unfold q_turnM
    by_cases c : q_true (q_true S a) z 13 z ≤ q_true (q_true S a) z 13 a
    · rw [if_pos c]
      by_cases c2 : q_true (q_true S a) z 13 z < q_true (q_true S a) z 13 a
      · rw [if_pos c2]
      · rw [if_neg c2, ww_eq]
        rw [ww_le'] at c
        rw [ww_lt] at c2
        omega
    · rw [if_neg c, if_neg (fun y => c (by rw [ww_le']; rw [ww_lt] at y; omega))]
  have r1 := c_renewFlange (g := g) hu5
  have r2 := c_renewFlange (g := g) ho51
  rw [hM1] at r1
  rw [hM2] at r2
  have f3 := ww_pf_200 (v := q_turnM (q_true (q_true S a) z) a z) (ww_pf_200 (v := q_turnM (q_true (q_true S a) z) a z) f2 hW ha k1a) hW hz k1z
  have eb : ww_I M 200 (W a) + ww_I M 200 (W z) = S 13 a + S 13 z := by rw [a13, z13]
  refine ww_aload_n (i := 0) dX6_turn_0 rfl rfl ?_
  refine ww_iload_n (i := 1) dX6_turn_1 rfl rfl ?_
  refine ww_callV (κ := 7) (r := (RX6, TX6, 4)) wk_X6_83 dX6_turn_2 (c_existing hw h hp) rfl rfl (show ww_is _ _ 7 from hw.1).1 (show ww_is _ _ 7 from hw.1).2 rfl rfl (by omega) (by omega) (by omega) (by first | exact Nat.le_of_ble_eq_true rfl | (simp [ww_rf_cat, Value.category])) rfl (fun E M9 h9 => h9.elim) (fun v9 M9 h9 => ?_)
  obtain ⟨rfl, rfl⟩ := h9
  first | refine ww_astore_n (i := 2) (lv2 := [(0, _), (1, _), (2, _)]) dX6_turn_5 rfl (Nat.le_of_ble_eq_true rfl) rfl ?_ | refine ww_astore_nQ (i := 2) (lv2 := [(0, _), (1, _), (2, _)]) dX6_turn_5 rfl (Nat.le_of_ble_eq_true rfl) rfl ?_
  refine ww_aload_n (i := 2) dX6_turn_6 rfl rfl ?_
  refine ww_getI (f := 161) wf_X6_87 dX6_turn_7 rfl rfl (show ww_is _ _ 4 from hi4).1 (show ww_is _ _ 4 from hi4).2 ?_
  refine ww_iconst (v := 2) dX6_turn_10 (by decide) ?_
  refine ww_icmp_eq_t (tgt := 24) dX6_turn_11 (by decide) hk' ?_
  refine ww_aload_n (i := 0) dX6_turn_24 rfl rfl ?_
  refine ww_aload_n (i := 2) dX6_turn_25 rfl rfl ?_
  refine ww_iconst (v := 0) dX6_turn_26 (by decide) ?_
  refine ww_callV (κ := 7) (r := (RX6, TX6, 4)) wk_X6_190 dX6_turn_27 (w0) rfl rfl (show ww_is _ _ 7 from hw.1).1 (show ww_is _ _ 7 from hw.1).2 rfl rfl (by omega) (by omega) (by omega) (by first | exact Nat.le_of_ble_eq_true rfl | (simp [ww_rf_cat, Value.category])) rfl (fun E M9 h9 => h9.elim) (fun v9 M9 h9 => ?_)
  obtain ⟨rfl, rfl⟩ := h9
  first | refine ww_astore_n (i := 3) (lv2 := [(0, _), (1, _), (2, _), (3, _)]) dX6_turn_30 rfl (Nat.le_of_ble_eq_true rfl) rfl ?_ | refine ww_astore_nQ (i := 3) (lv2 := [(0, _), (1, _), (2, _), (3, _)]) dX6_turn_30 rfl (Nat.le_of_ble_eq_true rfl) rfl ?_
  refine ww_aload_n (i := 0) dX6_turn_31 rfl rfl ?_
  refine ww_aload_n (i := 2) dX6_turn_32 rfl rfl ?_
  refine ww_iconst (v := 1) dX6_turn_33 (by decide) ?_
  refine ww_callV (κ := 7) (r := (RX6, TX6, 4)) wk_X6_190 dX6_turn_34 (w1) rfl rfl (show ww_is _ _ 7 from hw.1).1 (show ww_is _ _ 7 from hw.1).2 rfl rfl (by omega) (by omega) (by omega) (by first | exact Nat.le_of_ble_eq_true rfl | (simp [ww_rf_cat, Value.category])) rfl (fun E M9 h9 => h9.elim) (fun v9 M9 h9 => ?_)
  obtain ⟨rfl, rfl⟩ := h9
  first | refine ww_astore (i := 4) (lv2 := [(0, _), (1, _), (2, _), (3, _), (4, _)]) dX6_turn_37 (Nat.le_of_ble_eq_true rfl) rfl ?_ | refine ww_astoreQ (i := 4) (lv2 := [(0, _), (1, _), (2, _), (3, _), (4, _)]) dX6_turn_37 (Nat.le_of_ble_eq_true rfl) rfl ?_
  refine ww_aload_n (i := 3) dX6_turn_39 rfl rfl ?_
  refine ww_ifnull_f dX6_turn_40 ?_
  refine ww_aload (i := 4) dX6_turn_43 rfl ?_
  refine ww_ifnull_f dX6_turn_45 ?_
  refine ww_aload_n (i := 2) dX6_turn_48 rfl rfl ?_
  refine ww_callV (κ := 4) (r := (RX3, TX3, 18)) wk_X6_109 dX6_turn_49 (p_bound_f h hG hp hb) rfl rfl (show ww_is _ _ 4 from hi4).1 (show ww_is _ _ 4 from hi4).2 rfl rfl (by omega) (by omega) (by omega) (by first | exact Nat.le_of_ble_eq_true rfl | (simp [ww_rf_cat, Value.category])) rfl (fun E M9 h9 => h9.elim) (fun v9 M9 h9 => ?_)
  obtain ⟨rfl, rfl⟩ := h9
  refine ww_if_eq_t (tgt := 65) dX6_turn_52 (by decide) (by decide) ?_
  refine ww_aload_n (i := 3) dX6_turn_65 rfl rfl ?_
  refine ww_getI (f := 200) wf_X6_196 dX6_turn_66 rfl rfl (show ww_is _ _ 5 from hu5).1 (show ww_is _ _ 5 from hu5).2 ?_
  refine ww_aload (i := 4) dX6_turn_69 rfl ?_
  refine ww_getI (f := 200) wf_X6_196 dX6_turn_71 rfl rfl (show ww_is _ _ 5 from ho5).1 (show ww_is _ _ 5 from ho5).2 ?_
  -- at 74, locals [0, 1, 2, 3, 4]
  refine ww_iadd dX6_turn_74 ?_
  rw [eb]
  refine ww_istore (i := 5) (lv2 := [(0, _), (1, _), (2, _), (3, _), (4, _), (5, _)]) dX6_turn_75 (Nat.le_of_ble_eq_true rfl) rfl ?_
  refine ww_aload_n (i := 3) dX6_turn_77 rfl rfl ?_
  refine ww_callV (κ := 5) (r := (RX4, TX4, 4)) wk_X6_201 dX6_turn_78 (r1) rfl rfl (show ww_is _ _ 5 from hu5).1 (show ww_is _ _ 5 from hu5).2 rfl rfl (by omega) (by omega) (by omega) (by first | exact Nat.le_of_ble_eq_true rfl | (simp [ww_rf_cat, Value.category])) rfl (fun E M9 h9 => h9.elim) (fun v9 M9 h9 => ?_)
  obtain ⟨rfl, rfl⟩ := h9
  refine ww_aload (i := 4) dX6_turn_81 rfl ?_
  refine ww_callV (κ := 5) (r := (RX4, TX4, 4)) wk_X6_201 dX6_turn_83 (r2) rfl rfl (show ww_is _ _ 5 from ho51).1 (show ww_is _ _ 5 from ho51).2 rfl rfl (by omega) (by omega) (by omega) (by first | exact Nat.le_of_ble_eq_true rfl | (simp [ww_rf_cat, Value.category])) rfl (fun E M9 h9 => h9.elim) (fun v9 M9 h9 => ?_)
  obtain ⟨rfl, rfl⟩ := h9
  -- at 86, locals [0, 1, 2, 3, 4, 5]
  refine ww_aload_n (i := 3) dX6_turn_86 rfl rfl ?_
  refine ww_getI (f := 200) wf_X6_196 dX6_turn_87 rfl rfl (show ww_is _ _ 5 from hu52).1 (show ww_is _ _ 5 from hu52).2 ?_
  refine ww_aload (i := 4) dX6_turn_90 rfl ?_
  refine ww_getI (f := 200) wf_X6_196 dX6_turn_92 rfl rfl (show ww_is _ _ 5 from ho52).1 (show ww_is _ _ 5 from ho52).2 ?_
  refine ww_mmin wk_X6_204 dX6_turn_95 (by omega) (by first | exact Nat.le_of_ble_eq_true rfl | (simp [ww_rf_cat, Value.category])) ?_
  -- at 98, locals [0, 1, 2, 3, 4, 5]
  refine ww_top _ em ?_
  refine ww_istore (i := 6) (lv2 := [(0, _), (1, _), (2, _), (3, _), (4, _), (5, _), (6, _)]) dX6_turn_98 (Nat.le_of_ble_eq_true rfl) rfl ?_
  refine ww_aload_n (i := 3) dX6_turn_100 rfl rfl ?_
  refine ww_iload (i := 6) dX6_turn_101 rfl ?_
  refine ww_putI (f := 200) wf_X6_196 wt_5_0 dX6_turn_103 rfl rfl (show ww_is _ _ 5 from hu52).1 (show ww_is _ _ 5 from hu52).2 rfl rfl ?_
  refine ww_aload (i := 4) dX6_turn_106 rfl ?_
  refine ww_iload (i := 6) dX6_turn_108 rfl ?_
  refine ww_putI (f := 200) wf_X6_196 wt_5_0 dX6_turn_110 rfl rfl (show ww_is _ _ 5 from ho52).1 (show ww_is _ _ 5 from ho52).2 rfl rfl ?_
  refine ww_iload (i := 5) dX6_turn_113 rfl ?_
  refine ww_iconst (v := 2) dX6_turn_115 (by decide) ?_
  refine ww_iload (i := 6) dX6_turn_116 rfl ?_
  refine ww_imul dX6_turn_118 ?_
  refine ww_isub dX6_turn_119 ?_
  exact ww_ireturn dX6_turn_120 rfl (by first | rfl | exact ww_b_nar) ⟨rfl, ww_wo_I (ww_wo_I wo2 (by decide)) (by decide), f3⟩
end WWV2
