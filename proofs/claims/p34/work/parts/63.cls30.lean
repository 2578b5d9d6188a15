/-! ===== the works: what is only asked, over all that it holds ===== -/
section WWY1
variable {g : ww_G} {M0 M M1 : ww_M} {c ea P W kl f z D : Nat → Nat} {E : Nat → Nat → Int32} {n u w m : Nat} {S S1 : Nat → Nat → Int32} {v : Int32}
theorem q_fbar_le7 {t : Nat} : q_fbar S n t 7 1 ≤ 7 := by
  rcases q_fbar_le (S := S) (n := n) (t := t) 7 1 with e | e <;> omega
theorem q_clow_0 {t : Nat} : q_clow S n t 0 = none := by
  unfold q_clow
  have key : ∀ m i, q_ff (fun p => q_hd (S 5) 5 p = t ∧ q_so S n p 0) m i = none := by
    intro m
    induction m with
    | zero => intro i; rfl
    | succ m ih => intro i; rw [q_ff_f (P := fun p => q_hd (S 5) 5 p = t ∧ q_so S n p 0) (fun y => by have := y.2; simp [q_so] at this)]; exact ih (i + 1)
  exact key n 0
set_option maxRecDepth 20000 in
theorem c_barredBy_0 (hr : ww_rc g M c ea P W kl f z D E n u w m S) (hG : q_G S n) {p : Nat} (hp : p < n) (hk : S 2 p = 0) : ww_C g wy_X6_barredBy 9 0 0 [.ref (c 0), .int (nI p)] M (ww_ret (some (.int (q_cby S n p))) M) ww_no := by
  refine ww_ent (by decide +kernel) (Nat.le_of_ble_eq_true rfl) ⟨rfl, rfl, trivial⟩ ?_
  have hw := ww_cp_wo hr.1
  have h := hr.1.2.1.1
  have hi4 := (h.1 p hp).1.1
  have e : q_cby S n p = q_oi (q_clow S n p (q_fbar S n p 7 1)) := by
    unfold q_cby
    by_cases c0 : q_fbar S n p 7 1 = 0
    · rw [if_pos c0, c0, q_clow_0]; rfl
    · rw [if_neg c0]
  rw [e]
  refine ww_aload_n (i := 0) dX6_barredBy_0 rfl rfl ?_
  refine ww_iload_n (i := 1) dX6_barredBy_1 rfl rfl ?_
  refine ww_callV (κ := 7) (r := (RX6, TX6, 4)) wk_X6_160 dX6_barredBy_2 (c_existingTrain hw h hp hk) rfl rfl (show ww_is _ _ 7 from hw.1).1 (show ww_is _ _ 7 from hw.1).2 rfl rfl (by omega) (by omega) (by omega) (by first | exact Nat.le_of_ble_eq_true rfl | (simp [ww_rf_cat, Value.category])) rfl (fun E M9 h9 => h9.elim) (fun v9 M9 h9 => ?_)
  obtain ⟨rfl, rfl⟩ := h9
  first | refine ww_astore_n (i := 2) (lv2 := [(0, _), (1, _), (2, _)]) dX6_barredBy_5 rfl (Nat.le_of_ble_eq_true rfl) rfl ?_ | refine ww_astore_nQ (i := 2) (lv2 := [(0, _), (1, _), (2, _)]) dX6_barredBy_5 rfl (Nat.le_of_ble_eq_true rfl) rfl ?_
  refine ww_aload_n (i := 0) dX6_barredBy_6 rfl rfl ?_
  refine ww_aload_n (i := 2) dX6_barredBy_7 rfl rfl ?_
  refine ww_aload_n (i := 0) dX6_barredBy_8 rfl rfl ?_
  refine ww_aload_n (i := 2) dX6_barredBy_9 rfl rfl ?_
  refine ww_callV (κ := 7) (r := (RX6, TX6, 4)) wk_X6_258 dX6_barredBy_10 (c_firstBar hw h hG hp) rfl rfl (show ww_is _ _ 7 from hw.1).1 (show ww_is _ _ 7 from hw.1).2 rfl rfl (by omega) (by omega) (by omega) (by first | exact Nat.le_of_ble_eq_true rfl | (simp [ww_rf_cat, Value.category])) rfl (fun E M9 h9 => h9.elim) (fun v9 M9 h9 => ?_)
  obtain ⟨rfl, rfl⟩ := h9
  refine ww_callV (κ := 7) (r := (RX6, TX6, 4)) wk_X6_323 dX6_barredBy_13 (c_lowest hw h hG hp q_fbar_le7) rfl rfl (show ww_is _ _ 7 from hw.1).1 (show ww_is _ _ 7 from hw.1).2 rfl rfl (by omega) (by omega) (by omega) (by first | exact Nat.le_of_ble_eq_true rfl | (simp [ww_rf_cat, Value.category])) rfl (fun E M9 h9 => h9.elim) (fun v9 M9 h9 => ?_)
  obtain ⟨rfl, rfl⟩ := h9
  exact ww_ireturn dX6_barredBy_16 rfl (by first | rfl | exact ww_b_nar) ⟨rfl, rfl⟩
set_option maxRecDepth 20000 in
theorem c_barredBy_1 (hr : ww_rc g M c ea P W kl f z D E n u w m S) {p : Int32} (hc : q_noP n p) : ww_C g wy_X6_barredBy 9 1 6 [.ref (c 0), .int p] M ww_nr (ww_th "java/lang/IndexOutOfBoundsException" M) := by
  refine ww_ent (by decide +kernel) (Nat.le_of_ble_eq_true rfl) ⟨rfl, rfl, trivial⟩ ?_
  have hw := ww_cp_wo hr.1
  refine ww_aload_n (i := 0) dX6_barredBy_0 rfl rfl ?_
  refine ww_iload_n (i := 1) dX6_barredBy_1 rfl rfl ?_
  refine ww_callV (κ := 7) (r := (RX6, TX6, 4)) wk_X6_160 dX6_barredBy_2 (c_existingTrain_1 hw hc) rfl rfl (show ww_is _ _ 7 from hw.1).1 (show ww_is _ _ 7 from hw.1).2 rfl rfl (by omega) (by omega) (by omega) (by first | exact Nat.le_of_ble_eq_true rfl | (simp [ww_rf_cat, Value.category])) rfl (fun E M9 h9 => h9) (fun v9 M9 h9 => ?_)
  exact h9.elim
  -- at 5, locals [0, 1]
set_option maxRecDepth 20000 in
theorem c_barredBy_2 (hr : ww_rc g M c ea P W kl f z D E n u w m S) {p : Nat} (hp : p < n) (hk : ¬ S 2 p = 0) : ww_C g wy_X6_barredBy 9 1 6 [.ref (c 0), .int (nI p)] M ww_nr (ww_th "java/lang/IllegalArgumentException" M) := by
  refine ww_ent (by decide +kernel) (Nat.le_of_ble_eq_true rfl) ⟨rfl, rfl, trivial⟩ ?_
  have hw := ww_cp_wo hr.1
  refine ww_aload_n (i := 0) dX6_barredBy_0 rfl rfl ?_
  refine ww_iload_n (i := 1) dX6_barredBy_1 rfl rfl ?_
  refine ww_callV (κ := 7) (r := (RX6, TX6, 4)) wk_X6_160 dX6_barredBy_2 (c_existingTrain_2 hw hr.1.2.1.1 hp hk) rfl rfl (show ww_is _ _ 7 from hw.1).1 (show ww_is _ _ 7 from hw.1).2 rfl rfl (by omega) (by omega) (by omega) (by first | exact Nat.le_of_ble_eq_true rfl | (simp [ww_rf_cat, Value.category])) rfl (fun E M9 h9 => h9) (fun v9 M9 h9 => ?_)
  exact h9.elim
  -- at 5, locals [0, 1]
/-! the other askers' throws -/
set_option maxRecDepth 20000 in
theorem c_host_1 (hr : ww_rc g M c ea P W kl f z D E n u w m S) {p : Int32} (hc : q_noP n p) : ww_C g wy_X6_host 8 1 6 [.ref (c 0), .int p] M ww_nr (ww_th "java/lang/IndexOutOfBoundsException" M) := by
  refine ww_ent (by decide +kernel) (Nat.le_of_ble_eq_true rfl) ⟨rfl, rfl, trivial⟩ ?_
  have hw := ww_cp_wo hr.1
  refine ww_aload_n (i := 0) dX6_host_0 rfl rfl ?_
  refine ww_iload_n (i := 1) dX6_host_1 rfl rfl ?_
  refine ww_callV (κ := 7) (r := (RX6, TX6, 4)) wk_X6_83 dX6_host_2 (c_existing_x hw hc) rfl rfl (show ww_is _ _ 7 from hw.1).1 (show ww_is _ _ 7 from hw.1).2 rfl rfl (by omega) (by omega) (by omega) (by first | exact Nat.le_of_ble_eq_true rfl | (simp [ww_rf_cat, Value.category])) rfl (fun E M9 h9 => h9) (fun v9 M9 h9 => ?_)
  exact h9.elim
  -- at 5, locals [0, 1]
set_option maxRecDepth 20000 in
theorem c_head_1 (hr : ww_rc g M c ea P W kl f z D E n u w m S) {p : Int32} (hc : q_noP n p) : ww_C g wy_X6_head 8 1 6 [.ref (c 0), .int p] M ww_nr (ww_th "java/lang/IndexOutOfBoundsException" M) := by
  refine ww_ent (by decide +kernel) (Nat.le_of_ble_eq_true rfl) ⟨rfl, rfl, trivial⟩ ?_
  have hw := ww_cp_wo hr.1
  refine ww_aload_n (i := 0) dX6_head_0 rfl rfl ?_
  refine ww_iload_n (i := 1) dX6_head_1 rfl rfl ?_
  refine ww_callV (κ := 7) (r := (RX6, TX6, 4)) wk_X6_83 dX6_head_2 (c_existing_x hw hc) rfl rfl (show ww_is _ _ 7 from hw.1).1 (show ww_is _ _ 7 from hw.1).2 rfl rfl (by omega) (by omega) (by omega) (by first | exact Nat.le_of_ble_eq_true rfl | (simp [ww_rf_cat, Value.category])) rfl (fun E M9 h9 => h9) (fun v9 M9 h9 => ?_)
  exact h9.elim
  -- at 5, locals [0, 1]
set_option maxRecDepth 20000 in
theorem c_bars_1 (hr : ww_rc g M c ea P W kl f z D E n u w m S) {p : Int32} (hc : q_noP n p) : ww_C g wy_X6_bars 9 1 6 [.ref (c 0), .int p] M ww_nr (ww_th "java/lang/IndexOutOfBoundsException" M) := by
  refine ww_ent (by decide +kernel) (Nat.le_of_ble_eq_true rfl) ⟨rfl, rfl, trivial⟩ ?_
  have hw := ww_cp_wo hr.1
  refine ww_aload_n (i := 0) dX6_bars_0 rfl rfl ?_
  refine ww_aload_n (i := 0) dX6_bars_1 rfl rfl ?_
  refine ww_iload_n (i := 1) dX6_bars_2 rfl rfl ?_
  refine ww_callV (κ := 7) (r := (RX6, TX6, 4)) wk_X6_160 dX6_bars_3 (c_existingTrain_1 hw hc) rfl rfl (show ww_is _ _ 7 from hw.1).1 (show ww_is _ _ 7 from hw.1).2 rfl rfl (by omega) (by omega) (by omega) (by first | exact Nat.le_of_ble_eq_true rfl | (simp [ww_rf_cat, Value.category])) rfl (fun E M9 h9 => h9) (fun v9 M9 h9 => ?_)
  exact h9.elim
  -- at 6, locals [0, 1]
set_option maxRecDepth 20000 in
theorem c_bars_2 (hr : ww_rc g M c ea P W kl f z D E n u w m S) {p : Nat} (hp : p < n) (hk : ¬ S 2 p = 0) : ww_C g wy_X6_bars 9 1 6 [.ref (c 0), .int (nI p)] M ww_nr (ww_th "java/lang/IllegalArgumentException" M) := by
  refine ww_ent (by decide +kernel) (Nat.le_of_ble_eq_true rfl) ⟨rfl, rfl, trivial⟩ ?_
  have hw := ww_cp_wo hr.1
  refine ww_aload_n (i := 0) dX6_bars_0 rfl rfl ?_
  refine ww_aload_n (i := 0) dX6_bars_1 rfl rfl ?_
  refine ww_iload_n (i := 1) dX6_bars_2 rfl rfl ?_
  refine ww_callV (κ := 7) (r := (RX6, TX6, 4)) wk_X6_160 dX6_bars_3 (c_existingTrain_2 hw hr.1.2.1.1 hp hk) rfl rfl (show ww_is _ _ 7 from hw.1).1 (show ww_is _ _ 7 from hw.1).2 rfl rfl (by omega) (by omega) (by omega) (by first | exact Nat.le_of_ble_eq_true rfl | (simp [ww_rf_cat, Value.category])) rfl (fun E M9 h9 => h9) (fun v9 M9 h9 => ?_)
  exact h9.elim
  -- at 6, locals [0, 1]
set_option maxRecDepth 20000 in
theorem c_isReleased_1 (hr : ww_rc g M c ea P W kl f z D E n u w m S) {p : Int32} (hc : q_noP n p) : ww_C g wy_X6_isReleased 9 1 6 [.ref (c 0), .int p] M ww_nr (ww_th "java/lang/IndexOutOfBoundsException" M) := by
  refine ww_ent (by decide +kernel) (Nat.le_of_ble_eq_true rfl) ⟨rfl, rfl, trivial⟩ ?_
  have hw := ww_cp_wo hr.1
  refine ww_aload_n (i := 0) dX6_isReleased_0 rfl rfl ?_
  refine ww_iload_n (i := 1) dX6_isReleased_1 rfl rfl ?_
  refine ww_callV (κ := 7) (r := (RX6, TX6, 4)) wk_X6_160 dX6_isReleased_2 (c_existingTrain_1 hw hc) rfl rfl (show ww_is _ _ 7 from hw.1).1 (show ww_is _ _ 7 from hw.1).2 rfl rfl (by omega) (by omega) (by omega) (by first | exact Nat.le_of_ble_eq_true rfl | (simp [ww_rf_cat, Value.category])) rfl (fun E M9 h9 => h9) (fun v9 M9 h9 => ?_)
  exact h9.elim
  -- at 5, locals [0, 1]
set_option maxRecDepth 20000 in
theorem c_isReleased_2 (hr : ww_rc g M c ea P W kl f z D E n u w m S) {p : Nat} (hp : p < n) (hk : ¬ S 2 p = 0) : ww_C g wy_X6_isReleased 9 1 6 [.ref (c 0), .int (nI p)] M ww_nr (ww_th "java/lang/IllegalArgumentException" M) := by
  refine ww_ent (by decide +kernel) (Nat.le_of_ble_eq_true rfl) ⟨rfl, rfl, trivial⟩ ?_
  have hw := ww_cp_wo hr.1
  refine ww_aload_n (i := 0) dX6_isReleased_0 rfl rfl ?_
  refine ww_iload_n (i := 1) dX6_isReleased_1 rfl rfl ?_
  refine ww_callV (κ := 7) (r := (RX6, TX6, 4)) wk_X6_160 dX6_isReleased_2 (c_existingTrain_2 hw hr.1.2.1.1 hp hk) rfl rfl (show ww_is _ _ 7 from hw.1).1 (show ww_is _ _ 7 from hw.1).2 rfl rfl (by omega) (by omega) (by omega) (by first | exact Nat.le_of_ble_eq_true rfl | (simp [ww_rf_cat, Value.category])) rfl (fun E M9 h9 => h9) (fun v9 M9 h9 => ?_)
  exact h9.elim
  -- at 5, locals [0, 1]
set_option maxRecDepth 20000 in
theorem c_wheel_1 (hr : ww_rc g M c ea P W kl f z D E n u w m S) {p : Int32} (v : Int32) (hc : q_noP n p) : ww_C g wy_X6_wheel 9 1 6 [.ref (c 0), .int p, .int v] M ww_nr (ww_th "java/lang/IndexOutOfBoundsException" M) := by
  refine ww_ent (by decide +kernel) (Nat.le_of_ble_eq_true rfl) ⟨rfl, rfl, rfl, trivial⟩ ?_
  have hw := ww_cp_wo hr.1
  refine ww_aload_n (i := 0) dX6_wheel_0 rfl rfl ?_
  refine ww_iload_n (i := 1) dX6_wheel_1 rfl rfl ?_
  refine ww_callV (κ := 7) (r := (RX6, TX6, 4)) wk_X6_207 dX6_wheel_2 (c_existingWheel_1 hw hc) rfl rfl (show ww_is _ _ 7 from hw.1).1 (show ww_is _ _ 7 from hw.1).2 rfl rfl (by omega) (by omega) (by omega) (by first | exact Nat.le_of_ble_eq_true rfl | (simp [ww_rf_cat, Value.category])) rfl (fun E M9 h9 => h9) (fun v9 M9 h9 => ?_)
  exact h9.elim
  -- at 5, locals [0, 1, 2]
theorem q_rg_out {lo hi : Nat} (hh : hi < 2 ^ 31) (hl : lo ≤ hi) (h : ¬ q_rg (nI lo) (nI hi) v) : v.toInt < (lo : Int) ∨ (hi : Int) < v.toInt := by
  by_cases c1 : v.toInt < (lo : Int)
  · exact Or.inl c1
  · refine Or.inr (Int.not_le.mp fun c2 => h ⟨?_, ?_⟩)
    · rw [ww_le', nI_toInt (by omega)]; omega
    · rw [ww_le', nI_toInt hh]; exact c2
set_option maxRecDepth 20000 in
theorem c_wheel_2 (hr : ww_rc g M c ea P W kl f z D E n u w m S) {p : Nat} (hp : p < n) (hc : ¬ (S 2 p = 3 ∧ q_rg 0 2 v)) : ww_C g wy_X6_wheel 9 1 6 [.ref (c 0), .int (nI p), .int v] M ww_nr (ww_th "java/lang/IllegalArgumentException" M) := by
  refine ww_ent (by decide +kernel) (Nat.le_of_ble_eq_true rfl) ⟨rfl, rfl, rfl, trivial⟩ ?_
  have hw := ww_cp_wo hr.1
  have h := hr.1.2.1.1
  by_cases c1 : S 2 p = 3
  · have hv := q_rg_out (lo := 0) (hi := 2) (by decide) (by decide) (fun y => hc ⟨c1, y⟩)
    have hw5 := ((h.1 p hp).2.1 c1).2.1
    refine ww_aload_n (i := 0) dX6_wheel_0 rfl rfl ?_
    refine ww_iload_n (i := 1) dX6_wheel_1 rfl rfl ?_
    refine ww_callV (κ := 7) (r := (RX6, TX6, 4)) wk_X6_207 dX6_wheel_2 (c_existingWheel hw h hp c1) rfl rfl (show ww_is _ _ 7 from hw.1).1 (show ww_is _ _ 7 from hw.1).2 rfl rfl (by omega) (by omega) (by omega) (by first | exact Nat.le_of_ble_eq_true rfl | (simp [ww_rf_cat, Value.category])) rfl (fun E M9 h9 => h9.elim) (fun v9 M9 h9 => ?_)
    obtain ⟨rfl, rfl⟩ := h9
    first | refine ww_astore_n (i := 3) (lv2 := [(0, _), (1, _), (2, _), (3, _)]) dX6_wheel_5 rfl (Nat.le_of_ble_eq_true rfl) rfl ?_ | refine ww_astore_nQ (i := 3) (lv2 := [(0, _), (1, _), (2, _), (3, _)]) dX6_wheel_5 rfl (Nat.le_of_ble_eq_true rfl) rfl ?_
    refine ww_iload_n (i := 2) dX6_wheel_6 rfl rfl ?_
    -- at 7, locals [0, 1, 2, 3]
    refine ww_tableOut (tgt := 47) dX6_wheel_7 hv (by decide) ?_
    exact ww_throwW wx_X6_45_318 dX6_wheel_47 dX6_wheel_50 dX6_wheel_51 dX6_wheel_54 dX6_wheel_57 rfl (Nat.le_of_ble_eq_true rfl) (by omega) (by omega) (by first | exact Nat.le_of_ble_eq_true rfl | (simp [ww_rf_cat, Value.category])) ⟨rfl, rfl⟩
  · refine ww_aload_n (i := 0) dX6_wheel_0 rfl rfl ?_
    refine ww_iload_n (i := 1) dX6_wheel_1 rfl rfl ?_
    refine ww_callV (κ := 7) (r := (RX6, TX6, 4)) wk_X6_207 dX6_wheel_2 (c_existingWheel_2 hw h hp c1) rfl rfl (show ww_is _ _ 7 from hw.1).1 (show ww_is _ _ 7 from hw.1).2 rfl rfl (by omega) (by omega) (by omega) (by first | exact Nat.le_of_ble_eq_true rfl | (simp [ww_rf_cat, Value.category])) rfl (fun E M9 h9 => h9) (fun v9 M9 h9 => ?_)
    exact h9.elim
    -- at 5, locals [0, 1, 2]
/-! of a part -/
noncomputable def q_cof (S : Nat → Nat → Int32) (E : Nat → Nat → Int32) (u p : Nat) : Nat → Int32
  | 0 => S 2 p | 1 => S 3 p | 2 => S 4 p | 3 => S 6 p | 4 => S 7 p | 5 => S 8 p | 6 => S 9 p | 7 => S 10 p | _ => nI (q_cnt (q_mov E (nI p)) u)
set_option maxRecDepth 20000 in
set_option maxHeartbeats 4000000 in
theorem c_ofPart_0 (hr : ww_rc g M c ea P W kl f z D E n u w m S) (hG : q_G S n) {p : Nat} (hp : p < n) : ∀ k : Nat, k ≤ 8 → ww_C g wy_X6_ofPart 5 0 0 [.ref (c 0), .int (nI p), .int (nI k)] M (ww_ret (some (.int (q_cof S E u p k))) M) ww_no := by
  intro k hk8
  refine ww_ent (by decide +kernel) (Nat.le_of_ble_eq_true rfl) ⟨rfl, rfl, rfl, trivial⟩ ?_
  have hw := ww_cp_wo hr.1
  have h := hr.1.2.1.1
  obtain ⟨⟨hi4, _, k2, k3, k4, _⟩, _, _, _, _, ⟨k6, k7, k8, k9, k10, _⟩, _⟩ := h.1 p hp
  obtain ⟨hl, ho⟩ := hr.2.1
  refine ww_aload_n (i := 0) dX6_ofPart_0 rfl rfl ?_
  refine ww_iload_n (i := 1) dX6_ofPart_1 rfl rfl ?_
  refine ww_callV (κ := 7) (r := (RX6, TX6, 4)) wk_X6_83 dX6_ofPart_2 (c_existing hw h hp) rfl rfl (show ww_is _ _ 7 from hw.1).1 (show ww_is _ _ 7 from hw.1).2 rfl rfl (by omega) (by omega) (by omega) (by first | exact Nat.le_of_ble_eq_true rfl | (simp [ww_rf_cat, Value.category])) rfl (fun E M9 h9 => h9.elim) (fun v9 M9 h9 => ?_)
  obtain ⟨rfl, rfl⟩ := h9
  first | refine ww_astore_n (i := 3) (lv2 := [(0, _), (1, _), (2, _), (3, _)]) dX6_ofPart_5 rfl (Nat.le_of_ble_eq_true rfl) rfl ?_ | refine ww_astore_nQ (i := 3) (lv2 := [(0, _), (1, _), (2, _), (3, _)]) dX6_ofPart_5 rfl (Nat.le_of_ble_eq_true rfl) rfl ?_
  refine ww_iload_n (i := 2) dX6_ofPart_6 rfl rfl ?_
  -- at 7, locals [0, 1, 2, 3]
  have hv : k = 0 ∨ k = 1 ∨ k = 2 ∨ k = 3 ∨ k = 4 ∨ k = 5 ∨ k = 6 ∨ k = 7 ∨ k = 8 := by omega
  rcases hv with rfl | rfl | rfl | rfl | rfl | rfl | rfl | rfl | rfl
  · rw [show q_cof S E u p 0 = S 2 p from rfl, ← k2]
    refine ww_tableIn (off := 49) (tgt := 56) dX6_ofPart_7 (by decide) (by decide) rfl (by decide) ?_
    refine ww_aload_n (i := 3) dX6_ofPart_56 rfl rfl ?_
    refine ww_getI (f := 161) wf_X6_87 dX6_ofPart_57 rfl rfl (show ww_is _ _ 4 from hi4).1 (show ww_is _ _ 4 from hi4).2 ?_
    exact ww_ireturn dX6_ofPart_60 rfl (by first | rfl | exact ww_b_nar) ⟨rfl, rfl⟩
  · rw [show q_cof S E u p 1 = S 3 p from rfl, ← k3]
    refine ww_tableIn (off := 54) (tgt := 61) dX6_ofPart_7 (by decide) (by decide) rfl (by decide) ?_
    refine ww_aload_n (i := 3) dX6_ofPart_61 rfl rfl ?_
    refine ww_getI (f := 162) wf_X6_255 dX6_ofPart_62 rfl rfl (show ww_is _ _ 4 from hi4).1 (show ww_is _ _ 4 from hi4).2 ?_
    exact ww_ireturn dX6_ofPart_65 rfl (by first | rfl | exact ww_b_nar) ⟨rfl, rfl⟩
  · rw [show q_cof S E u p 2 = S 4 p from rfl, ← k4]
    refine ww_tableIn (off := 59) (tgt := 66) dX6_ofPart_7 (by decide) (by decide) rfl (by decide) ?_
    refine ww_aload_n (i := 3) dX6_ofPart_66 rfl rfl ?_
    refine ww_getI (f := 163) wf_X6_118 dX6_ofPart_67 rfl rfl (show ww_is _ _ 4 from hi4).1 (show ww_is _ _ 4 from hi4).2 ?_
    exact ww_ireturn dX6_ofPart_70 rfl (by first | rfl | exact ww_b_nar) ⟨rfl, rfl⟩
  · rw [show q_cof S E u p 3 = S 6 p from rfl, ← k6]
    refine ww_tableIn (off := 64) (tgt := 71) dX6_ofPart_7 (by decide) (by decide) rfl (by decide) ?_
    refine ww_aload_n (i := 3) dX6_ofPart_71 rfl rfl ?_
    refine ww_getI (f := 168) wf_X6_242 dX6_ofPart_72 rfl rfl (show ww_is _ _ 4 from hi4).1 (show ww_is _ _ 4 from hi4).2 ?_
    exact ww_ireturn dX6_ofPart_75 rfl (by first | rfl | exact ww_b_nar) ⟨rfl, rfl⟩
  · rw [show q_cof S E u p 4 = S 7 p from rfl, ← k7]
    refine ww_tableIn (off := 69) (tgt := 76) dX6_ofPart_7 (by decide) (by decide) rfl (by decide) ?_
    refine ww_aload_n (i := 3) dX6_ofPart_76 rfl rfl ?_
    refine ww_getI (f := 169) wf_X6_224 dX6_ofPart_77 rfl rfl (show ww_is _ _ 4 from hi4).1 (show ww_is _ _ 4 from hi4).2 ?_
    exact ww_ireturn dX6_ofPart_80 rfl (by first | rfl | exact ww_b_nar) ⟨rfl, rfl⟩
  · rw [show q_cof S E u p 5 = S 8 p from rfl, ← k8]
    refine ww_tableIn (off := 74) (tgt := 81) dX6_ofPart_7 (by decide) (by decide) rfl (by decide) ?_
    refine ww_aload_n (i := 3) dX6_ofPart_81 rfl rfl ?_
    refine ww_getI (f := 170) wf_X6_227 dX6_ofPart_82 rfl rfl (show ww_is _ _ 4 from hi4).1 (show ww_is _ _ 4 from hi4).2 ?_
    exact ww_ireturn dX6_ofPart_85 rfl (by first | rfl | exact ww_b_nar) ⟨rfl, rfl⟩
  · rw [show q_cof S E u p 6 = S 9 p from rfl]
    refine ww_tableIn (off := 79) (tgt := 86) dX6_ofPart_7 (by decide) (by decide) rfl (by decide) ?_
    rcases hG.2.2.2.1 p with e | e
    · rw [e]
      refine ww_aload_n (i := 3) dX6_ofPart_86 rfl rfl ?_
      refine ww_getI (f := 171) wf_X6_100 dX6_ofPart_87 rfl rfl (show ww_is _ _ 4 from hi4).1 (show ww_is _ _ 4 from hi4).2 ?_
      refine ww_if_eq_t (tgt := 97) dX6_ofPart_90 (by decide) (k9.trans e) ?_
      refine ww_iconst (v := 0) dX6_ofPart_97 (by decide) ?_
      exact ww_ireturn dX6_ofPart_98 rfl (by first | rfl | exact ww_b_nar) ⟨rfl, rfl⟩
    · rw [e]
      refine ww_aload_n (i := 3) dX6_ofPart_86 rfl rfl ?_
      refine ww_getI (f := 171) wf_X6_100 dX6_ofPart_87 rfl rfl (show ww_is _ _ 4 from hi4).1 (show ww_is _ _ 4 from hi4).2 ?_
      refine ww_if_eq_f (tgt := 97) dX6_ofPart_90 (by decide) (by rw [k9, e]; decide) ?_
      refine ww_iconst (v := 1) dX6_ofPart_93 (by decide) ?_
      refine ww_goto (tgt := 98) dX6_ofPart_94 (by decide) ?_
      exact ww_ireturn dX6_ofPart_98 rfl (by first | rfl | exact ww_b_nar) ⟨rfl, rfl⟩
  · rw [show q_cof S E u p 7 = S 10 p from rfl]
    refine ww_tableIn (off := 92) (tgt := 99) dX6_ofPart_7 (by decide) (by decide) rfl (by decide) ?_
    rcases hG.2.2.2.2.1 p with e | e
    · rw [e]
      refine ww_aload_n (i := 3) dX6_ofPart_99 rfl rfl ?_
      refine ww_getI (f := 172) wf_X6_248 dX6_ofPart_100 rfl rfl (show ww_is _ _ 4 from hi4).1 (show ww_is _ _ 4 from hi4).2 ?_
      refine ww_if_eq_t (tgt := 110) dX6_ofPart_103 (by decide) (k10.trans e) ?_
      refine ww_iconst (v := 0) dX6_ofPart_110 (by decide) ?_
      exact ww_ireturn dX6_ofPart_111 rfl (by first | rfl | exact ww_b_nar) ⟨rfl, rfl⟩
    · rw [e]
      refine ww_aload_n (i := 3) dX6_ofPart_99 rfl rfl ?_
      refine ww_getI (f := 172) wf_X6_248 dX6_ofPart_100 rfl rfl (show ww_is _ _ 4 from hi4).1 (show ww_is _ _ 4 from hi4).2 ?_
      refine ww_if_eq_f (tgt := 110) dX6_ofPart_103 (by decide) (by rw [k10, e]; decide) ?_
      refine ww_iconst (v := 1) dX6_ofPart_106 (by decide) ?_
      refine ww_goto (tgt := 111) dX6_ofPart_107 (by decide) ?_
      exact ww_ireturn dX6_ofPart_111 rfl (by first | rfl | exact ww_b_nar) ⟨rfl, rfl⟩
  · rw [show q_cof S E u p 8 = nI (q_cnt (q_mov E (nI p)) u) from rfl]
    refine ww_tableIn (off := 105) (tgt := 112) dX6_ofPart_7 (by decide) (by decide) rfl (by decide) ?_
    refine ww_aload_n (i := 0) dX6_ofPart_112 rfl rfl ?_
    refine ww_getR (f := 282) wf_X6_25 dX6_ofPart_113 rfl rfl (show ww_is _ _ 7 from hw.1).1 (show ww_is _ _ 7 from hw.1).2 hl ?_
    refine ww_iload_n (i := 1) dX6_ofPart_116 rfl rfl ?_
    refine ww_callV (κ := 3) (r := (RX2, TX2, 2)) wk_X6_296 dX6_ofPart_117 (c_movesOf ho) rfl rfl (show ww_is _ _ 3 from ho.1).1 (show ww_is _ _ 3 from ho.1).2 rfl rfl (by omega) (by omega) (by omega) (by first | exact Nat.le_of_ble_eq_true rfl | (simp [ww_rf_cat, Value.category])) rfl (fun E M9 h9 => h9.elim) (fun v9 M9 h9 => ?_)
    obtain ⟨rfl, rfl⟩ := h9
    exact ww_ireturn dX6_ofPart_120 rfl (by first | rfl | exact ww_b_nar) ⟨rfl, rfl⟩
set_option maxRecDepth 20000 in
theorem c_ofPart_1 (hr : ww_rc g M c ea P W kl f z D E n u w m S) {p : Int32} (v : Int32) (hc : q_noP n p) : ww_C g wy_X6_ofPart 8 1 6 [.ref (c 0), .int p, .int v] M ww_nr (ww_th "java/lang/IndexOutOfBoundsException" M) := by
  refine ww_ent (by decide +kernel) (Nat.le_of_ble_eq_true rfl) ⟨rfl, rfl, rfl, trivial⟩ ?_
  have hw := ww_cp_wo hr.1
  refine ww_aload_n (i := 0) dX6_ofPart_0 rfl rfl ?_
  refine ww_iload_n (i := 1) dX6_ofPart_1 rfl rfl ?_
  refine ww_callV (κ := 7) (r := (RX6, TX6, 4)) wk_X6_83 dX6_ofPart_2 (c_existing_x hw hc) rfl rfl (show ww_is _ _ 7 from hw.1).1 (show ww_is _ _ 7 from hw.1).2 rfl rfl (by omega) (by omega) (by omega) (by first | exact Nat.le_of_ble_eq_true rfl | (simp [ww_rf_cat, Value.category])) rfl (fun E M9 h9 => h9) (fun v9 M9 h9 => ?_)
  exact h9.elim
  -- at 5, locals [0, 1, 2]
set_option maxRecDepth 20000 in
theorem c_ofPart_2 (hr : ww_rc g M c ea P W kl f z D E n u w m S) {p : Nat} (hp : p < n) (hc : ¬ q_rg 0 8 v) : ww_C g wy_X6_ofPart 8 1 6 [.ref (c 0), .int (nI p), .int v] M ww_nr (ww_th "java/lang/IllegalArgumentException" M) := by
  refine ww_ent (by decide +kernel) (Nat.le_of_ble_eq_true rfl) ⟨rfl, rfl, rfl, trivial⟩ ?_
  have hw := ww_cp_wo hr.1
  have h := hr.1.2.1.1
  have hv := q_rg_out (lo := 0) (hi := 8) (by decide) (by decide) hc
  refine ww_aload_n (i := 0) dX6_ofPart_0 rfl rfl ?_
  refine ww_iload_n (i := 1) dX6_ofPart_1 rfl rfl ?_
  refine ww_callV (κ := 7) (r := (RX6, TX6, 4)) wk_X6_83 dX6_ofPart_2 (c_existing hw h hp) rfl rfl (show ww_is _ _ 7 from hw.1).1 (show ww_is _ _ 7 from hw.1).2 rfl rfl (by omega) (by omega) (by omega) (by first | exact Nat.le_of_ble_eq_true rfl | (simp [ww_rf_cat, Value.category])) rfl (fun E M9 h9 => h9.elim) (fun v9 M9 h9 => ?_)
  obtain ⟨rfl, rfl⟩ := h9
  first | refine ww_astore_n (i := 3) (lv2 := [(0, _), (1, _), (2, _), (3, _)]) dX6_ofPart_5 rfl (Nat.le_of_ble_eq_true rfl) rfl ?_ | refine ww_astore_nQ (i := 3) (lv2 := [(0, _), (1, _), (2, _), (3, _)]) dX6_ofPart_5 rfl (Nat.le_of_ble_eq_true rfl) rfl ?_
  refine ww_iload_n (i := 2) dX6_ofPart_6 rfl rfl ?_
  -- at 7, locals [0, 1, 2, 3]
  refine ww_tableOut (tgt := 121) dX6_ofPart_7 hv (by decide) ?_
  exact ww_throwW wx_X6_45_299 dX6_ofPart_121 dX6_ofPart_124 dX6_ofPart_125 dX6_ofPart_128 dX6_ofPart_131 rfl (Nat.le_of_ble_eq_true rfl) (by omega) (by omega) (by first | exact Nat.le_of_ble_eq_true rfl | (simp [ww_rf_cat, Value.category])) ⟨rfl, rfl⟩
/-! the trace -/
set_option maxRecDepth 20000 in
theorem c_trace_a (hr : ww_rc g M c ea P W kl f z D E n u w m S) {p : Nat} (hp : p < n) {k : Int32} {j : Nat} (hj : q_fj (q_mov E (nI p)) k u 0 0 = some j) : ww_C g wy_X6_trace 5 0 0 [.ref (c 0), .int (nI p), .int k] M (ww_ret (some (.int (E 1 j))) M) ww_no := by
  refine ww_ent (by decide +kernel) (Nat.le_of_ble_eq_true rfl) ⟨rfl, rfl, rfl, trivial⟩ ?_
  have hw := ww_cp_wo hr.1
  have h := hr.1.2.1.1
  have hi4 := (h.1 p hp).1.1
  have hnum := (h.1 p hp).1.2.1
  obtain ⟨hl, ho⟩ := hr.2.1
  have hju := q_fj_P hj
  have he1 := ww_ls_el ho.2.2.2.2.2.2.1 hju
  have k41 := (ho.2.2.2.2.2.2.2 j hju).2.1
  have hm := c_moveOf (g := g) (v := nI p) ho k
  rw [hj] at hm
  have hm : ww_C g wy_X2_moveOf 4 0 0 [.ref (c 5), .int (nI p), .int k] M (ww_ret (some (.ref (f j))) M) ww_no := hm
  rw [← hnum] at hm
  rw [← k41]
  refine ww_aload_n (i := 0) dX6_trace_0 rfl rfl ?_
  refine ww_iload_n (i := 1) dX6_trace_1 rfl rfl ?_
  refine ww_callV (κ := 7) (r := (RX6, TX6, 4)) wk_X6_83 dX6_trace_2 (c_existing hw h hp) rfl rfl (show ww_is _ _ 7 from hw.1).1 (show ww_is _ _ 7 from hw.1).2 rfl rfl (by omega) (by omega) (by omega) (by first | exact Nat.le_of_ble_eq_true rfl | (simp [ww_rf_cat, Value.category])) rfl (fun E M9 h9 => h9.elim) (fun v9 M9 h9 => ?_)
  obtain ⟨rfl, rfl⟩ := h9
  first | refine ww_astore_n (i := 3) (lv2 := [(0, _), (1, _), (2, _), (3, _)]) dX6_trace_5 rfl (Nat.le_of_ble_eq_true rfl) rfl ?_ | refine ww_astore_nQ (i := 3) (lv2 := [(0, _), (1, _), (2, _), (3, _)]) dX6_trace_5 rfl (Nat.le_of_ble_eq_true rfl) rfl ?_
  refine ww_aload_n (i := 0) dX6_trace_6 rfl rfl ?_
  refine ww_getR (f := 282) wf_X6_25 dX6_trace_7 rfl rfl (show ww_is _ _ 7 from hw.1).1 (show ww_is _ _ 7 from hw.1).2 hl ?_
  refine ww_aload_n (i := 3) dX6_trace_10 rfl rfl ?_
  refine ww_getI (f := 160) wf_X6_149 dX6_trace_11 rfl rfl (show ww_is _ _ 4 from hi4).1 (show ww_is _ _ 4 from hi4).2 ?_
  refine ww_iload_n (i := 2) dX6_trace_14 rfl rfl ?_
  refine ww_callV (κ := 3) (r := (RX2, TX2, 2)) wk_X6_301 dX6_trace_15 (hm) rfl rfl (show ww_is _ _ 3 from ho.1).1 (show ww_is _ _ 3 from ho.1).2 rfl rfl (by omega) (by omega) (by omega) (by first | exact Nat.le_of_ble_eq_true rfl | (simp [ww_rf_cat, Value.category])) rfl (fun E M9 h9 => h9.elim) (fun v9 M9 h9 => ?_)
  obtain ⟨rfl, rfl⟩ := h9
  first | refine ww_astore (i := 4) (lv2 := [(0, _), (1, _), (2, _), (3, _), (4, _)]) dX6_trace_18 (Nat.le_of_ble_eq_true rfl) rfl ?_ | refine ww_astoreQ (i := 4) (lv2 := [(0, _), (1, _), (2, _), (3, _), (4, _)]) dX6_trace_18 (Nat.le_of_ble_eq_true rfl) rfl ?_
  refine ww_aload (i := 4) dX6_trace_20 rfl ?_
  refine ww_ifnonnull_t (tgt := 36) dX6_trace_22 (by decide) ?_
  refine ww_aload (i := 4) dX6_trace_36 rfl ?_
  refine ww_getI (f := 41) wf_X6_310 dX6_trace_38 rfl rfl (show ww_is _ _ 1 from he1).1 (show ww_is _ _ 1 from he1).2 ?_
  exact ww_ireturn dX6_trace_41 rfl (by first | rfl | exact ww_b_nar) ⟨rfl, rfl⟩
set_option maxRecDepth 20000 in
theorem c_trace_b (hr : ww_rc g M c ea P W kl f z D E n u w m S) {p : Nat} (hp : p < n) {k : Int32} (hj : q_fj (q_mov E (nI p)) k u 0 0 = none) : ww_C g wy_X6_trace 8 1 6 [.ref (c 0), .int (nI p), .int k] M ww_nr (ww_th "java/lang/IndexOutOfBoundsException" M) := by
  refine ww_ent (by decide +kernel) (Nat.le_of_ble_eq_true rfl) ⟨rfl, rfl, rfl, trivial⟩ ?_
  have hw := ww_cp_wo hr.1
  have h := hr.1.2.1.1
  have hi4 := (h.1 p hp).1.1
  have hnum := (h.1 p hp).1.2.1
  obtain ⟨hl, ho⟩ := hr.2.1
  have hm := c_moveOf (g := g) (v := nI p) ho k
  rw [hj] at hm
  have hm : ww_C g wy_X2_moveOf 4 0 0 [.ref (c 5), .int (nI p), .int k] M (ww_ret (some .null) M) ww_no := hm
  rw [← hnum] at hm
  refine ww_aload_n (i := 0) dX6_trace_0 rfl rfl ?_
  refine ww_iload_n (i := 1) dX6_trace_1 rfl rfl ?_
  refine ww_callV (κ := 7) (r := (RX6, TX6, 4)) wk_X6_83 dX6_trace_2 (c_existing hw h hp) rfl rfl (show ww_is _ _ 7 from hw.1).1 (show ww_is _ _ 7 from hw.1).2 rfl rfl (by omega) (by omega) (by omega) (by first | exact Nat.le_of_ble_eq_true rfl | (simp [ww_rf_cat, Value.category])) rfl (fun E M9 h9 => h9.elim) (fun v9 M9 h9 => ?_)
  obtain ⟨rfl, rfl⟩ := h9
  first | refine ww_astore_n (i := 3) (lv2 := [(0, _), (1, _), (2, _), (3, _)]) dX6_trace_5 rfl (Nat.le_of_ble_eq_true rfl) rfl ?_ | refine ww_astore_nQ (i := 3) (lv2 := [(0, _), (1, _), (2, _), (3, _)]) dX6_trace_5 rfl (Nat.le_of_ble_eq_true rfl) rfl ?_
  refine ww_aload_n (i := 0) dX6_trace_6 rfl rfl ?_
  refine ww_getR (f := 282) wf_X6_25 dX6_trace_7 rfl rfl (show ww_is _ _ 7 from hw.1).1 (show ww_is _ _ 7 from hw.1).2 hl ?_
  refine ww_aload_n (i := 3) dX6_trace_10 rfl rfl ?_
  refine ww_getI (f := 160) wf_X6_149 dX6_trace_11 rfl rfl (show ww_is _ _ 4 from hi4).1 (show ww_is _ _ 4 from hi4).2 ?_
  refine ww_iload_n (i := 2) dX6_trace_14 rfl rfl ?_
  refine ww_callV (κ := 3) (r := (RX2, TX2, 2)) wk_X6_301 dX6_trace_15 (hm) rfl rfl (show ww_is _ _ 3 from ho.1).1 (show ww_is _ _ 3 from ho.1).2 rfl rfl (by omega) (by omega) (by omega) (by first | exact Nat.le_of_ble_eq_true rfl | (simp [ww_rf_cat, Value.category])) rfl (fun E M9 h9 => h9.elim) (fun v9 M9 h9 => ?_)
  obtain ⟨rfl, rfl⟩ := h9
  -- at 18, locals [0, 1, 2, 3]
  refine ww_astoreQ (i := 4) (r := none) (lv2 := [(0, _), (1, _), (2, _), (3, _), (4, _)]) dX6_trace_18 (Nat.le_of_ble_eq_true rfl) rfl ?_
  refine ww_aloadQ (i := 4) (r := none) dX6_trace_20 rfl ?_
  refine ww_ifnonnull_f dX6_trace_22 ?_
  exact ww_throwW wx_X6_305_307 dX6_trace_25 dX6_trace_28 dX6_trace_29 dX6_trace_32 dX6_trace_35 rfl (Nat.le_of_ble_eq_true rfl) (by omega) (by omega) (by first | exact Nat.le_of_ble_eq_true rfl | (simp [ww_rf_cat, Value.category])) ⟨rfl, rfl⟩
set_option maxRecDepth 20000 in
theorem c_trace_1 (hr : ww_rc g M c ea P W kl f z D E n u w m S) {p : Int32} (v : Int32) (hc : q_noP n p) : ww_C g wy_X6_trace 8 1 6 [.ref (c 0), .int p, .int v] M ww_nr (ww_th "java/lang/IndexOutOfBoundsException" M) := by
  refine ww_ent (by decide +kernel) (Nat.le_of_ble_eq_true rfl) ⟨rfl, rfl, rfl, trivial⟩ ?_
  have hw := ww_cp_wo hr.1
  refine ww_aload_n (i := 0) dX6_trace_0 rfl rfl ?_
  refine ww_iload_n (i := 1) dX6_trace_1 rfl rfl ?_
  refine ww_callV (κ := 7) (r := (RX6, TX6, 4)) wk_X6_83 dX6_trace_2 (c_existing_x hw hc) rfl rfl (show ww_is _ _ 7 from hw.1).1 (show ww_is _ _ 7 from hw.1).2 rfl rfl (by omega) (by omega) (by omega) (by first | exact Nat.le_of_ble_eq_true rfl | (simp [ww_rf_cat, Value.category])) rfl (fun E M9 h9 => h9) (fun v9 M9 h9 => ?_)
  exact h9.elim
  -- at 5, locals [0, 1, 2]
/-! the life anew -/
set_option maxRecDepth 20000 in
theorem c_lifeAnew_0 (hr : ww_rc g M c ea P W kl f z D E n u w m S) (hE : q_okE E u) {p : Nat} (hp : p < n) : ww_C g wy_X6_lifeAnew 5 0 0 [.ref (c 0), .int (nI p)] M (ww_cxQ M (c 8) (some (.int (q_rL E p u)))) ww_no := by
  refine ww_ent (by decide +kernel) (Nat.le_of_ble_eq_true rfl) ⟨rfl, rfl, trivial⟩ ?_
  have hw := ww_cp_wo hr.1
  have h := hr.1.2.1.1
  have h6 := hw.2.2.2.1
  have hi4 := (h.1 p hp).1.1
  have hnum := (h.1 p hp).1.2.1
  obtain ⟨hl, ho⟩ := hr.2.1
  have hm := c_lifeOf (g := g) ho hE (p := p) (by omega)
  rw [← hnum] at hm
  refine ww_aload_n (i := 0) dX6_lifeAnew_0 rfl rfl ?_
  refine ww_getR (f := 282) wf_X6_25 dX6_lifeAnew_1 rfl rfl (show ww_is _ _ 7 from hw.1).1 (show ww_is _ _ 7 from hw.1).2 hl ?_
  refine ww_aload_n (i := 0) dX6_lifeAnew_4 rfl rfl ?_
  refine ww_iload_n (i := 1) dX6_lifeAnew_5 rfl rfl ?_
  refine ww_callV (κ := 7) (r := (RX6, TX6, 4)) wk_X6_83 dX6_lifeAnew_6 (c_existing hw h hp) rfl rfl (show ww_is _ _ 7 from hw.1).1 (show ww_is _ _ 7 from hw.1).2 rfl rfl (by omega) (by omega) (by omega) (by first | exact Nat.le_of_ble_eq_true rfl | (simp [ww_rf_cat, Value.category])) rfl (fun E M9 h9 => h9.elim) (fun v9 M9 h9 => ?_)
  obtain ⟨rfl, rfl⟩ := h9
  refine ww_getI (f := 160) wf_X6_149 dX6_lifeAnew_9 rfl rfl (show ww_is _ _ 4 from hi4).1 (show ww_is _ _ 4 from hi4).2 ?_
  refine ww_callV (κ := 3) (r := (RX2, TX2, 2)) wk_X6_315 dX6_lifeAnew_12 (hm) rfl rfl (show ww_is _ _ 3 from ho.1).1 (show ww_is _ _ 3 from ho.1).2 rfl rfl (by omega) (by omega) (by omega) (by first | exact Nat.le_of_ble_eq_true rfl | (simp [ww_rf_cat, Value.category])) rfl (fun E M9 h9 => h9.elim) (fun v9 M9 h9 => ?_)
  obtain ⟨rfl, F, rfl⟩ := h9
  exact ww_ireturn dX6_lifeAnew_15 rfl (by first | rfl | exact ww_b_nar) ⟨rfl, F, rfl⟩
set_option maxRecDepth 20000 in
theorem c_lifeAnew_1 (hr : ww_rc g M c ea P W kl f z D E n u w m S) {p : Int32} (hc : q_noP n p) : ww_C g wy_X6_lifeAnew 8 1 6 [.ref (c 0), .int p] M ww_nr (ww_th "java/lang/IndexOutOfBoundsException" M) := by
  refine ww_ent (by decide +kernel) (Nat.le_of_ble_eq_true rfl) ⟨rfl, rfl, trivial⟩ ?_
  have hw := ww_cp_wo hr.1
  obtain ⟨hl, ho⟩ := hr.2.1
  refine ww_aload_n (i := 0) dX6_lifeAnew_0 rfl rfl ?_
  refine ww_getR (f := 282) wf_X6_25 dX6_lifeAnew_1 rfl rfl (show ww_is _ _ 7 from hw.1).1 (show ww_is _ _ 7 from hw.1).2 hl ?_
  refine ww_aload_n (i := 0) dX6_lifeAnew_4 rfl rfl ?_
  refine ww_iload_n (i := 1) dX6_lifeAnew_5 rfl rfl ?_
  refine ww_callV (κ := 7) (r := (RX6, TX6, 4)) wk_X6_83 dX6_lifeAnew_6 (c_existing_x hw hc) rfl rfl (show ww_is _ _ 7 from hw.1).1 (show ww_is _ _ 7 from hw.1).2 rfl rfl (by omega) (by omega) (by omega) (by first | exact Nat.le_of_ble_eq_true rfl | (simp [ww_rf_cat, Value.category])) rfl (fun E M9 h9 => h9) (fun v9 M9 h9 => ?_)
  exact h9.elim
  -- at 9, locals [0, 1]
/-! roads, plans -/
set_option maxRecDepth 20000 in
theorem c_road_0 (hr : ww_rc g M c ea P W kl f z D E n u w m S) (h8 : m ≤ 8) {r k : Int32} (h1 : q_rg 0 2 r) (h2 : 0 ≤ k) : ww_C g wy_X6_road 5 0 0 [.ref (c 0), .int r, .int k] M (ww_ret (some (.int (q_on (fun i => ww_I M 160 (P (z i))) (q_fj (fun i => ww_I M 176 (P (z i)) = r) k m 0 0)))) M) ww_no := by
  refine ww_ent (by decide +kernel) (Nat.le_of_ble_eq_true rfl) ⟨rfl, rfl, rfl, trivial⟩ ?_
  have hw := ww_cp_wo hr.1
  obtain ⟨⟨hl, hy⟩, ⟨hs, hls⟩, _⟩ := hr.2.2.1
  have h2' : ¬ k < 0 := by rw [ww_lt]; rw [ww_le'] at h2; omega
  refine ww_iload_n (i := 1) dX6_road_0 rfl rfl ?_
  refine ww_iconst (v := 0) dX6_road_1 (by decide) ?_
  refine ww_iconst (v := 2) dX6_road_2 (by decide) ?_
  refine ww_callS wk_X6_41 rfl dX6_road_3 (c_out_f h1) rfl rfl (by omega) (by omega) (by omega) (by first | exact Nat.le_of_ble_eq_true rfl | (simp [ww_rf_cat, Value.category])) rfl (fun E M9 h9 => h9.elim) (fun v9 M9 h9 => ?_)
  obtain ⟨rfl, rfl⟩ := h9
  refine ww_if_ne_f (tgt := 13) dX6_road_6 (by decide) (by decide) ?_
  refine ww_iload_n (i := 2) dX6_road_9 rfl rfl ?_
  refine ww_if_ge_t (tgt := 24) dX6_road_10 (by decide) h2 ?_
  refine ww_aload_n (i := 0) dX6_road_24 rfl rfl ?_
  refine ww_getR (f := 283) wf_X6_32 dX6_road_25 rfl rfl (show ww_is _ _ 7 from hw.1).1 (show ww_is _ _ 7 from hw.1).2 hl ?_
  refine ww_iload_n (i := 1) dX6_road_28 rfl rfl ?_
  refine ww_iload_n (i := 2) dX6_road_29 rfl rfl ?_
  refine ww_callV (κ := 6) (r := (RX5, TX5, 5)) wk_X6_334 dX6_road_30 (c_trainOn hy.1 hs hls h8 k) rfl rfl (show ww_is _ _ 6 from hy.1).1 (show ww_is _ _ 6 from hy.1).2 rfl rfl (by omega) (by omega) (by omega) (by first | exact Nat.le_of_ble_eq_true rfl | (simp [ww_rf_cat, Value.category])) rfl (fun E M9 h9 => h9.elim) (fun v9 M9 h9 => ?_)
  obtain ⟨rfl, rfl⟩ := h9
  exact ww_ireturn dX6_road_33 rfl (by first | rfl | exact ww_b_nar) ⟨rfl, rfl⟩
set_option maxRecDepth 20000 in
theorem c_road_1 (hr : ww_rc g M c ea P W kl f z D E n u w m S) {r k : Int32} (hc : ¬ (q_rg 0 2 r ∧ 0 ≤ k)) : ww_C g wy_X6_road 8 1 6 [.ref (c 0), .int r, .int k] M ww_nr (ww_th "java/lang/IndexOutOfBoundsException" M) := by
  refine ww_ent (by decide +kernel) (Nat.le_of_ble_eq_true rfl) ⟨rfl, rfl, rfl, trivial⟩ ?_
  have hw := ww_cp_wo hr.1
  by_cases h1 : q_rg 0 2 r
  · have h2 : ¬ 0 ≤ k := fun y => hc ⟨h1, y⟩
    refine ww_iload_n (i := 1) dX6_road_0 rfl rfl ?_
    refine ww_iconst (v := 0) dX6_road_1 (by decide) ?_
    refine ww_iconst (v := 2) dX6_road_2 (by decide) ?_
    refine ww_callS wk_X6_41 rfl dX6_road_3 (c_out_f h1) rfl rfl (by omega) (by omega) (by omega) (by first | exact Nat.le_of_ble_eq_true rfl | (simp [ww_rf_cat, Value.category])) rfl (fun E M9 h9 => h9.elim) (fun v9 M9 h9 => ?_)
    obtain ⟨rfl, rfl⟩ := h9
    refine ww_if_ne_f (tgt := 13) dX6_road_6 (by decide) (by decide) ?_
    refine ww_iload_n (i := 2) dX6_road_9 rfl rfl ?_
    refine ww_if_ge_f (tgt := 24) dX6_road_10 (by decide) h2 ?_
    exact ww_throwW wx_X6_305_332 dX6_road_13 dX6_road_16 dX6_road_17 dX6_road_20 dX6_road_23 rfl (Nat.le_of_ble_eq_true rfl) (by omega) (by omega) (by first | exact Nat.le_of_ble_eq_true rfl | (simp [ww_rf_cat, Value.category])) ⟨rfl, rfl⟩
  · refine ww_iload_n (i := 1) dX6_road_0 rfl rfl ?_
    refine ww_iconst (v := 0) dX6_road_1 (by decide) ?_
    refine ww_iconst (v := 2) dX6_road_2 (by decide) ?_
    refine ww_callS wk_X6_41 rfl dX6_road_3 (c_out_t h1) rfl rfl (by omega) (by omega) (by omega) (by first | exact Nat.le_of_ble_eq_true rfl | (simp [ww_rf_cat, Value.category])) rfl (fun E M9 h9 => h9.elim) (fun v9 M9 h9 => ?_)
    obtain ⟨rfl, rfl⟩ := h9
    refine ww_if_ne_t (tgt := 13) dX6_road_6 (by decide) (by decide) ?_
    exact ww_throwW wx_X6_305_332 dX6_road_13 dX6_road_16 dX6_road_17 dX6_road_20 dX6_road_23 rfl (Nat.le_of_ble_eq_true rfl) (by omega) (by omega) (by first | exact Nat.le_of_ble_eq_true rfl | (simp [ww_rf_cat, Value.category])) ⟨rfl, rfl⟩
set_option maxRecDepth 20000 in
theorem c_plan (hr : ww_rc g M c ea P W kl f z D E n u w m S) : ww_C g wy_X6_plan 12 0 0 [.ref (c 0)] M (fun v M' => ∃ p0, ww_mpQ M (c 6) (c 7) w p0 (fun j => ww_I M 177 (P (q_wq S j))) v M') ww_no := by
  refine ww_ent (by decide +kernel) (Nat.le_of_ble_eq_true rfl) ⟨rfl, trivial⟩ ?_
  have hw := ww_cp_wo hr.1
  obtain ⟨⟨hl, hy⟩, ⟨hs, hls⟩, h176, p0, hp0, hb0⟩ := hr.2.2.1
  refine ww_aload_n (i := 0) dX6_plan_0 rfl rfl ?_
  refine ww_getR (f := 283) wf_X6_32 dX6_plan_1 rfl rfl (show ww_is _ _ 7 from hw.1).1 (show ww_is _ _ 7 from hw.1).2 hl ?_
  refine ww_callV (κ := 6) (r := (RX5, TX5, 5)) wk_X6_326 dX6_plan_4 (c_makePlan hy hp0 hb0) rfl rfl (show ww_is _ _ 6 from hy.1).1 (show ww_is _ _ 6 from hy.1).2 rfl rfl (by omega) (by omega) (by omega) (by first | exact Nat.le_of_ble_eq_true rfl | (simp [ww_rf_cat, Value.category])) rfl (fun E M9 h9 => h9.elim) (fun v9 M9 h9 => ?_)
  obtain ⟨bl, F, k1, rfl, rfl⟩ := h9
  exact ww_ireturn dX6_plan_7 rfl (by first | rfl | exact ww_b_nar) ⟨p0, bl, F, k1, rfl, rfl⟩
set_option maxRecDepth 20000 in
theorem c_planAnew (hr : ww_rc g M c ea P W kl f z D E n u w m S) : ww_C g wy_X6_planAnew 12 0 0 [.ref (c 0)] M (fun v M' => ∃ bl F, q_bw (fun j => ww_I M 177 (P (q_wq S j))) w bl ∧ v = some (.int (nI (q_fm bl w 0 0))) ∧ ww_cX M (c 7) F = M') ww_no := by
  refine ww_ent (by decide +kernel) (Nat.le_of_ble_eq_true rfl) ⟨rfl, trivial⟩ ?_
  have hw := ww_cp_wo hr.1
  obtain ⟨⟨hl, hy⟩, ⟨hs, hls⟩, _⟩ := hr.2.2.1
  refine ww_aload_n (i := 0) dX6_planAnew_0 rfl rfl ?_
  refine ww_getR (f := 283) wf_X6_32 dX6_planAnew_1 rfl rfl (show ww_is _ _ 7 from hw.1).1 (show ww_is _ _ 7 from hw.1).2 hl ?_
  refine ww_callV (κ := 6) (r := (RX5, TX5, 5)) wk_X6_329 dX6_planAnew_4 (c_makePlanAnew hy) rfl rfl (show ww_is _ _ 6 from hy.1).1 (show ww_is _ _ 6 from hy.1).2 rfl rfl (by omega) (by omega) (by omega) (by first | exact Nat.le_of_ble_eq_true rfl | (simp [ww_rf_cat, Value.category])) rfl (fun E M9 h9 => h9.elim) (fun v9 M9 h9 => ?_)
  obtain ⟨bl, F, k1, rfl, rfl⟩ := h9
  exact ww_ireturn dX6_planAnew_7 rfl (by first | rfl | exact ww_b_nar) ⟨bl, F, k1, rfl, rfl⟩
end WWY1
