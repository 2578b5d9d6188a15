/-! the code's slot is of no matter to them -/
theorem q_lo_us {S : Nat → Nat → Int32} {c h : Int32} : ∀ {n : Nat}, q_lo (q_us S 0 c) h n = q_lo S h n
  | 0 => rfl
  | i + 1 => by
    show q_if (q_isw S h i ∧ S 13 i < q_lo (q_us S 0 c) h i) (S 13 i) (q_lo (q_us S 0 c) h i) = q_if (q_isw S h i ∧ S 13 i < q_lo S h i) (S 13 i) (q_lo S h i)
    rw [q_lo_us]
theorem q_hi_us {S : Nat → Nat → Int32} {c h : Int32} : ∀ {n : Nat}, q_hi (q_us S 0 c) h n = q_hi S h n
  | 0 => rfl
  | i + 1 => by
    show q_if (q_isw S h i ∧ q_hi (q_us S 0 c) h i < S 13 i) (S 13 i) (q_hi (q_us S 0 c) h i) = q_if (q_isw S h i ∧ q_hi S h i < S 13 i) (S 13 i) (q_hi S h i)
    rw [q_hi_us]
theorem q_bars_us {S : Nat → Nat → Int32} {c : Int32} {n p r : Nat} : q_bars (q_us S 0 c) n p r = q_bars S n p r := by
  unfold q_bars q_apart
  rw [q_lo_us, q_hi_us]
  rfl
theorem q_low_us {S : Nat → Nat → Int32} {c : Int32} {n t r : Nat} : q_low (q_us S 0 c) n t r = q_low S n t r := by
  unfold q_low
  refine q_ff_cg (fun p _ _ => ?_)
  rw [q_bars_us]
  exact Iff.rfl
theorem q_bar_us {S : Nat → Nat → Int32} {c : Int32} {n t : Nat} : ∀ {m r : Nat}, q_bar (q_us S 0 c) n t m r = q_bar S n t m r
  | 0, _ => rfl
  | m + 1, r => by
    unfold q_bar
    rw [q_low_us, q_bar_us]
section WWV
variable {g : ww_G} {M M1 : ww_M} {x : Nat} {ar : Nat → Nat} {n w : Nat} {S1 : Nat → Nat → Int32}
/-! holds, look -/
def q_holds (S : Nat → Nat → Int32) (p : Nat) : Nat → Nat → Int32 := ww_u2 (ww_u2 S 9 p 1) 11 (q_hd (S 5) 5 p) 0
set_option maxRecDepth 20000 in
theorem u_holds (hM : ww_mo x ar M.1 M.2.2.1) (hu : ww_up x ar M S1 M1) (hG : q_G S1 n) {p : Nat} (hp : p < n) : ww_C g wy_X7_holds 3 0 0 [.ref x, .int (nI p)] M1 (ww_ru x ar M none (q_holds S1 p)) ww_no := by
  refine ww_ent (by decide +kernel) (Nat.le_of_ble_eq_true rfl) ⟨rfl, rfl, trivial⟩ ?_
  have h6 := hG.2.1
  refine ww_aload_n (i := 0) dX7_holds_0 rfl rfl ?_
  refine ww_getR (f := 329) wf_X7_31 dX7_holds_1 rfl rfl (ww_up_mo hM hu).1.1 (ww_up_mo hM hu).1.2 ((ww_up_mo hM hu).2.1 9 rfl) ?_
  refine ww_iload_n (i := 1) dX7_holds_4 rfl rfl ?_
  refine ww_iconst (v := 1) dX7_holds_5 (by decide) ?_
  refine ww_pzst (k := 9) hM hu dX7_holds_6 rfl rfl rfl (show _ < 60 by omega) (by first | rfl | exact ww_b_vn) (fun M1 hu => ?_)
  refine ww_aload_n (i := 0) dX7_holds_7 rfl rfl ?_
  refine ww_iload_n (i := 1) dX7_holds_8 rfl rfl ?_
  refine ww_callV (κ := 8) (r := (RX7, TX7, 33)) wk_X7_135 dX7_holds_9 (u_ends hM hu (q_G_b hG (Or.inr rfl) (by decide)) hp) rfl rfl (show ww_is _ _ 8 from (ww_up_mo hM hu).1).1 (show ww_is _ _ 8 from (ww_up_mo hM hu).1).2 rfl rfl (by omega) (by omega) (by omega) (by first | exact Nat.le_of_ble_eq_true rfl | (simp [ww_rf_cat, Value.category])) rfl (fun E M9 h9 => h9.elim) (fun v9 M9 h9 => ?_)
  obtain ⟨rfl, hu⟩ := h9
  exact ww_vreturn dX7_holds_12 rfl ⟨rfl, hu⟩
def q_look (S : Nat → Nat → Int32) (p : Nat) (v : Int32) : Prop := ¬ S 5 p = -2 ∧ ¬ q_bound S p ∧ (v = 0 ∨ S 5 p = -1)
set_option maxRecDepth 20000 in
set_option maxHeartbeats 4000000 in
theorem m_look_1 (hM : ww_mo x ar M.1 M.2.2.1) (hG : q_G (q_S M x ar) n) {p : Int32} (v : Int32) (hc : q_noP n p) : ww_C g wy_X7_look 4 0 0 [.ref x, .int p, .int v] M (ww_ru x ar M (some (.int 0)) (q_us (q_S M x ar) 0 1)) ww_no := by
  refine ww_ent (by decide +kernel) (Nat.le_of_ble_eq_true rfl) ⟨rfl, rfl, rfl, trivial⟩ ?_
  have hu : ww_up x ar M (q_S M x ar) M := ww_up_rf
  refine ww_aload_n (i := 0) dX7_look_0 rfl rfl ?_
  refine ww_aload_n (i := 0) dX7_look_1 rfl rfl ?_
  refine ww_iload_n (i := 1) dX7_look_2 rfl rfl ?_
  refine ww_callV (κ := 8) (r := (RX7, TX7, 33)) wk_X7_109 dX7_look_3 (u_isPart_f hM hu hG hc) rfl rfl (show ww_is _ _ 8 from (ww_up_mo hM hu).1).1 (show ww_is _ _ 8 from (ww_up_mo hM hu).1).2 rfl rfl (by omega) (by omega) (by omega) (by first | exact Nat.le_of_ble_eq_true rfl | (simp [ww_rf_cat, Value.category])) rfl (fun E M9 h9 => h9.elim) (fun v9 M9 h9 => ?_)
  obtain ⟨rfl, rfl⟩ := h9
  refine ww_if_ne_f (tgt := 13) dX7_look_6 (by decide) (by decide) ?_
  refine ww_iconst (v := 1) dX7_look_9 (by decide) ?_
  refine ww_goto (tgt := 51) dX7_look_10 (by decide) ?_
  refine ww_pputI (k := 0) hM hu dX7_look_51 wf_X7_98 wt_8_0 rfl rfl rfl rfl (fun M1 hu => ?_)
  refine ww_aload_n (i := 0) dX7_look_54 rfl rfl ?_
  refine ww_pgetI (k := 0) hM hu dX7_look_55 wf_X7_98 rfl rfl (q_us_s) ?_
  refine ww_if_le_f (tgt := 63) dX7_look_58 (by decide) (by decide) ?_
  refine ww_iconst (v := 0) dX7_look_61 (by decide) ?_
  exact ww_ireturn dX7_look_62 rfl (by first | rfl | exact ww_b_nar) ⟨rfl, hu⟩
set_option maxRecDepth 20000 in
set_option maxHeartbeats 4000000 in
theorem m_look_2 (hM : ww_mo x ar M.1 M.2.2.1) (hG : q_G (q_S M x ar) n) {p : Nat} (v : Int32) (hp : p < n) (hc : ¬ q_look (q_S M x ar) p v) : ww_C g wy_X7_look 4 0 0 [.ref x, .int (nI p), .int v] M (ww_ru x ar M (some (.int 0)) (q_us (q_S M x ar) 0 2)) ww_no := by
  refine ww_ent (by decide +kernel) (Nat.le_of_ble_eq_true rfl) ⟨rfl, rfl, rfl, trivial⟩ ?_
  have hu : ww_up x ar M (q_S M x ar) M := ww_up_rf
  have h6 := hG.2.1
  by_cases c1 : (q_S M x ar) 5 p = -2
  · refine ww_aload_n (i := 0) dX7_look_0 rfl rfl ?_
    refine ww_aload_n (i := 0) dX7_look_1 rfl rfl ?_
    refine ww_iload_n (i := 1) dX7_look_2 rfl rfl ?_
    refine ww_callV (κ := 8) (r := (RX7, TX7, 33)) wk_X7_109 dX7_look_3 (u_isPart_t hM hu hG hp) rfl rfl (show ww_is _ _ 8 from (ww_up_mo hM hu).1).1 (show ww_is _ _ 8 from (ww_up_mo hM hu).1).2 rfl rfl (by omega) (by omega) (by omega) (by first | exact Nat.le_of_ble_eq_true rfl | (simp [ww_rf_cat, Value.category])) rfl (fun E M9 h9 => h9.elim) (fun v9 M9 h9 => ?_)
    obtain ⟨rfl, rfl⟩ := h9
    refine ww_if_ne_t (tgt := 13) dX7_look_6 (by decide) (by decide) ?_
    refine ww_aload_n (i := 0) dX7_look_13 rfl rfl ?_
    refine ww_getR (f := 325) wf_X7_19 dX7_look_14 rfl rfl (ww_up_mo hM hu).1.1 (ww_up_mo hM hu).1.2 ((ww_up_mo hM hu).2.1 5 rfl) ?_
    refine ww_iload_n (i := 1) dX7_look_17 rfl rfl ?_
    refine ww_pald (k := 5) hM hu dX7_look_18 rfl rfl rfl (show _ < 60 by omega) (rfl) ?_
    refine ww_bipush (v := (-2)) dX7_look_19 (by decide) ?_
    refine ww_icmp_eq_t (tgt := 46) dX7_look_21 (by decide) c1 ?_
    refine ww_iconst (v := 2) dX7_look_46 (by decide) ?_
    refine ww_goto (tgt := 51) dX7_look_47 (by decide) ?_
    refine ww_pputI (k := 0) hM hu dX7_look_51 wf_X7_98 wt_8_0 rfl rfl rfl rfl (fun M1 hu => ?_)
    refine ww_aload_n (i := 0) dX7_look_54 rfl rfl ?_
    refine ww_pgetI (k := 0) hM hu dX7_look_55 wf_X7_98 rfl rfl (q_us_s) ?_
    refine ww_if_le_f (tgt := 63) dX7_look_58 (by decide) (by decide) ?_
    refine ww_iconst (v := 0) dX7_look_61 (by decide) ?_
    exact ww_ireturn dX7_look_62 rfl (by first | rfl | exact ww_b_nar) ⟨rfl, hu⟩
  · by_cases c2 : q_bound (q_S M x ar) p
    · refine ww_aload_n (i := 0) dX7_look_0 rfl rfl ?_
      refine ww_aload_n (i := 0) dX7_look_1 rfl rfl ?_
      refine ww_iload_n (i := 1) dX7_look_2 rfl rfl ?_
      refine ww_callV (κ := 8) (r := (RX7, TX7, 33)) wk_X7_109 dX7_look_3 (u_isPart_t hM hu hG hp) rfl rfl (show ww_is _ _ 8 from (ww_up_mo hM hu).1).1 (show ww_is _ _ 8 from (ww_up_mo hM hu).1).2 rfl rfl (by omega) (by omega) (by omega) (by first | exact Nat.le_of_ble_eq_true rfl | (simp [ww_rf_cat, Value.category])) rfl (fun E M9 h9 => h9.elim) (fun v9 M9 h9 => ?_)
      obtain ⟨rfl, rfl⟩ := h9
      refine ww_if_ne_t (tgt := 13) dX7_look_6 (by decide) (by decide) ?_
      refine ww_aload_n (i := 0) dX7_look_13 rfl rfl ?_
      refine ww_getR (f := 325) wf_X7_19 dX7_look_14 rfl rfl (ww_up_mo hM hu).1.1 (ww_up_mo hM hu).1.2 ((ww_up_mo hM hu).2.1 5 rfl) ?_
      refine ww_iload_n (i := 1) dX7_look_17 rfl rfl ?_
      refine ww_pald (k := 5) hM hu dX7_look_18 rfl rfl rfl (show _ < 60 by omega) (rfl) ?_
      refine ww_bipush (v := (-2)) dX7_look_19 (by decide) ?_
      refine ww_icmp_eq_f (tgt := 46) dX7_look_21 (by decide) c1 ?_
      refine ww_aload_n (i := 0) dX7_look_24 rfl rfl ?_
      refine ww_iload_n (i := 1) dX7_look_25 rfl rfl ?_
      refine ww_callV (κ := 8) (r := (RX7, TX7, 33)) wk_X7_125 dX7_look_26 (u_bound_t hM hu hG hp c2) rfl rfl (show ww_is _ _ 8 from (ww_up_mo hM hu).1).1 (show ww_is _ _ 8 from (ww_up_mo hM hu).1).2 rfl rfl (by omega) (by omega) (by omega) (by first | exact Nat.le_of_ble_eq_true rfl | (simp [ww_rf_cat, Value.category])) rfl (fun E M9 h9 => h9.elim) (fun v9 M9 h9 => ?_)
      obtain ⟨rfl, rfl⟩ := h9
      refine ww_if_ne_t (tgt := 46) dX7_look_29 (by decide) (by decide) ?_
      refine ww_iconst (v := 2) dX7_look_46 (by decide) ?_
      refine ww_goto (tgt := 51) dX7_look_47 (by decide) ?_
      refine ww_pputI (k := 0) hM hu dX7_look_51 wf_X7_98 wt_8_0 rfl rfl rfl rfl (fun M1 hu => ?_)
      refine ww_aload_n (i := 0) dX7_look_54 rfl rfl ?_
      refine ww_pgetI (k := 0) hM hu dX7_look_55 wf_X7_98 rfl rfl (q_us_s) ?_
      refine ww_if_le_f (tgt := 63) dX7_look_58 (by decide) (by decide) ?_
      refine ww_iconst (v := 0) dX7_look_61 (by decide) ?_
      exact ww_ireturn dX7_look_62 rfl (by first | rfl | exact ww_b_nar) ⟨rfl, hu⟩
    · have c3 : ¬ v = 0 := fun z => hc ⟨c1, c2, Or.inl z⟩
      have c4 : ¬ (q_S M x ar) 5 p = -1 := fun z => hc ⟨c1, c2, Or.inr z⟩
      refine ww_aload_n (i := 0) dX7_look_0 rfl rfl ?_
      refine ww_aload_n (i := 0) dX7_look_1 rfl rfl ?_
      refine ww_iload_n (i := 1) dX7_look_2 rfl rfl ?_
      refine ww_callV (κ := 8) (r := (RX7, TX7, 33)) wk_X7_109 dX7_look_3 (u_isPart_t hM hu hG hp) rfl rfl (show ww_is _ _ 8 from (ww_up_mo hM hu).1).1 (show ww_is _ _ 8 from (ww_up_mo hM hu).1).2 rfl rfl (by omega) (by omega) (by omega) (by first | exact Nat.le_of_ble_eq_true rfl | (simp [ww_rf_cat, Value.category])) rfl (fun E M9 h9 => h9.elim) (fun v9 M9 h9 => ?_)
      obtain ⟨rfl, rfl⟩ := h9
      refine ww_if_ne_t (tgt := 13) dX7_look_6 (by decide) (by decide) ?_
      refine ww_aload_n (i := 0) dX7_look_13 rfl rfl ?_
      refine ww_getR (f := 325) wf_X7_19 dX7_look_14 rfl rfl (ww_up_mo hM hu).1.1 (ww_up_mo hM hu).1.2 ((ww_up_mo hM hu).2.1 5 rfl) ?_
      refine ww_iload_n (i := 1) dX7_look_17 rfl rfl ?_
      refine ww_pald (k := 5) hM hu dX7_look_18 rfl rfl rfl (show _ < 60 by omega) (rfl) ?_
      refine ww_bipush (v := (-2)) dX7_look_19 (by decide) ?_
      refine ww_icmp_eq_f (tgt := 46) dX7_look_21 (by decide) c1 ?_
      refine ww_aload_n (i := 0) dX7_look_24 rfl rfl ?_
      refine ww_iload_n (i := 1) dX7_look_25 rfl rfl ?_
      refine ww_callV (κ := 8) (r := (RX7, TX7, 33)) wk_X7_125 dX7_look_26 (u_bound_f hM hu hG hp c2) rfl rfl (show ww_is _ _ 8 from (ww_up_mo hM hu).1).1 (show ww_is _ _ 8 from (ww_up_mo hM hu).1).2 rfl rfl (by omega) (by omega) (by omega) (by first | exact Nat.le_of_ble_eq_true rfl | (simp [ww_rf_cat, Value.category])) rfl (fun E M9 h9 => h9.elim) (fun v9 M9 h9 => ?_)
      obtain ⟨rfl, rfl⟩ := h9
      refine ww_if_ne_f (tgt := 46) dX7_look_29 (by decide) (by decide) ?_
      refine ww_iload_n (i := 2) dX7_look_32 rfl rfl ?_
      refine ww_if_eq_f (tgt := 50) dX7_look_33 (by decide) c3 ?_
      refine ww_aload_n (i := 0) dX7_look_36 rfl rfl ?_
      refine ww_getR (f := 325) wf_X7_19 dX7_look_37 rfl rfl (ww_up_mo hM hu).1.1 (ww_up_mo hM hu).1.2 ((ww_up_mo hM hu).2.1 5 rfl) ?_
      refine ww_iload_n (i := 1) dX7_look_40 rfl rfl ?_
      refine ww_pald (k := 5) hM hu dX7_look_41 rfl rfl rfl (show _ < 60 by omega) (rfl) ?_
      refine ww_iconst (v := (-1)) dX7_look_42 (by decide) ?_
      refine ww_icmp_eq_f (tgt := 50) dX7_look_43 (by decide) c4 ?_
      refine ww_iconst (v := 2) dX7_look_46 (by decide) ?_
      refine ww_goto (tgt := 51) dX7_look_47 (by decide) ?_
      refine ww_pputI (k := 0) hM hu dX7_look_51 wf_X7_98 wt_8_0 rfl rfl rfl rfl (fun M1 hu => ?_)
      refine ww_aload_n (i := 0) dX7_look_54 rfl rfl ?_
      refine ww_pgetI (k := 0) hM hu dX7_look_55 wf_X7_98 rfl rfl (q_us_s) ?_
      refine ww_if_le_f (tgt := 63) dX7_look_58 (by decide) (by decide) ?_
      refine ww_iconst (v := 0) dX7_look_61 (by decide) ?_
      exact ww_ireturn dX7_look_62 rfl (by first | rfl | exact ww_b_nar) ⟨rfl, hu⟩
/-- what the flaw comes to there: held -/
def q_lookV (S : Nat → Nat → Int32) (p : Nat) (v : Int32) : Prop := ¬ S 18 p < (if v = 0 then 10 else 3)
set_option maxRecDepth 20000 in
theorem m_look_a (hM : ww_mo x ar M.1 M.2.2.1) (hG : q_G (q_S M x ar) n) {p : Nat} {v : Int32} (hp : p < n) (hc : q_look (q_S M x ar) p v) {Q : Option Value → ww_M → Prop} (kk : ∀ M1, ww_up x ar M (q_us (q_S M x ar) 0 0) M1 → ww_A g wy_X7_look 4 0 0 M1 63 [(0, .ref x), (1, .int (nI p)), (2, .int v)] [] Q ww_no) : ww_C g wy_X7_look 4 0 0 [.ref x, .int (nI p), .int v] M Q ww_no := by
  refine ww_ent (by decide +kernel) (Nat.le_of_ble_eq_true rfl) ⟨rfl, rfl, rfl, trivial⟩ ?_
  have hu : ww_up x ar M (q_S M x ar) M := ww_up_rf
  have h6 := hG.2.1
  obtain ⟨c1, c2, c3⟩ := hc
  by_cases c4 : v = 0
  · refine ww_aload_n (i := 0) dX7_look_0 rfl rfl ?_
    refine ww_aload_n (i := 0) dX7_look_1 rfl rfl ?_
    refine ww_iload_n (i := 1) dX7_look_2 rfl rfl ?_
    refine ww_callV (κ := 8) (r := (RX7, TX7, 33)) wk_X7_109 dX7_look_3 (u_isPart_t hM hu hG hp) rfl rfl (show ww_is _ _ 8 from (ww_up_mo hM hu).1).1 (show ww_is _ _ 8 from (ww_up_mo hM hu).1).2 rfl rfl (by omega) (by omega) (by omega) (by first | exact Nat.le_of_ble_eq_true rfl | (simp [ww_rf_cat, Value.category])) rfl (fun E M9 h9 => h9.elim) (fun v9 M9 h9 => ?_)
    obtain ⟨rfl, rfl⟩ := h9
    refine ww_if_ne_t (tgt := 13) dX7_look_6 (by decide) (by decide) ?_
    refine ww_aload_n (i := 0) dX7_look_13 rfl rfl ?_
    refine ww_getR (f := 325) wf_X7_19 dX7_look_14 rfl rfl (ww_up_mo hM hu).1.1 (ww_up_mo hM hu).1.2 ((ww_up_mo hM hu).2.1 5 rfl) ?_
    refine ww_iload_n (i := 1) dX7_look_17 rfl rfl ?_
    refine ww_pald (k := 5) hM hu dX7_look_18 rfl rfl rfl (show _ < 60 by omega) (rfl) ?_
    refine ww_bipush (v := (-2)) dX7_look_19 (by decide) ?_
    refine ww_icmp_eq_f (tgt := 46) dX7_look_21 (by decide) c1 ?_
    refine ww_aload_n (i := 0) dX7_look_24 rfl rfl ?_
    refine ww_iload_n (i := 1) dX7_look_25 rfl rfl ?_
    refine ww_callV (κ := 8) (r := (RX7, TX7, 33)) wk_X7_125 dX7_look_26 (u_bound_f hM hu hG hp c2) rfl rfl (show ww_is _ _ 8 from (ww_up_mo hM hu).1).1 (show ww_is _ _ 8 from (ww_up_mo hM hu).1).2 rfl rfl (by omega) (by omega) (by omega) (by first | exact Nat.le_of_ble_eq_true rfl | (simp [ww_rf_cat, Value.category])) rfl (fun E M9 h9 => h9.elim) (fun v9 M9 h9 => ?_)
    obtain ⟨rfl, rfl⟩ := h9
    refine ww_if_ne_f (tgt := 46) dX7_look_29 (by decide) (by decide) ?_
    refine ww_iload_n (i := 2) dX7_look_32 rfl rfl ?_
    refine ww_if_eq_t (tgt := 50) dX7_look_33 (by decide) c4 ?_
    refine ww_iconst (v := 0) dX7_look_50 (by decide) ?_
    refine ww_pputI (k := 0) hM hu dX7_look_51 wf_X7_98 wt_8_0 rfl rfl rfl rfl (fun M1 hu => ?_)
    refine ww_aload_n (i := 0) dX7_look_54 rfl rfl ?_
    refine ww_pgetI (k := 0) hM hu dX7_look_55 wf_X7_98 rfl rfl (q_us_s) ?_
    refine ww_if_le_t (tgt := 63) dX7_look_58 (by decide) (by decide) ?_
    -- at 63, locals [0, 1, 2]
    exact kk _ hu
  · have c5 := c3.resolve_left c4
    refine ww_aload_n (i := 0) dX7_look_0 rfl rfl ?_
    refine ww_aload_n (i := 0) dX7_look_1 rfl rfl ?_
    refine ww_iload_n (i := 1) dX7_look_2 rfl rfl ?_
    refine ww_callV (κ := 8) (r := (RX7, TX7, 33)) wk_X7_109 dX7_look_3 (u_isPart_t hM hu hG hp) rfl rfl (show ww_is _ _ 8 from (ww_up_mo hM hu).1).1 (show ww_is _ _ 8 from (ww_up_mo hM hu).1).2 rfl rfl (by omega) (by omega) (by omega) (by first | exact Nat.le_of_ble_eq_true rfl | (simp [ww_rf_cat, Value.category])) rfl (fun E M9 h9 => h9.elim) (fun v9 M9 h9 => ?_)
    obtain ⟨rfl, rfl⟩ := h9
    refine ww_if_ne_t (tgt := 13) dX7_look_6 (by decide) (by decide) ?_
    refine ww_aload_n (i := 0) dX7_look_13 rfl rfl ?_
    refine ww_getR (f := 325) wf_X7_19 dX7_look_14 rfl rfl (ww_up_mo hM hu).1.1 (ww_up_mo hM hu).1.2 ((ww_up_mo hM hu).2.1 5 rfl) ?_
    refine ww_iload_n (i := 1) dX7_look_17 rfl rfl ?_
    refine ww_pald (k := 5) hM hu dX7_look_18 rfl rfl rfl (show _ < 60 by omega) (rfl) ?_
    refine ww_bipush (v := (-2)) dX7_look_19 (by decide) ?_
    refine ww_icmp_eq_f (tgt := 46) dX7_look_21 (by decide) c1 ?_
    refine ww_aload_n (i := 0) dX7_look_24 rfl rfl ?_
    refine ww_iload_n (i := 1) dX7_look_25 rfl rfl ?_
    refine ww_callV (κ := 8) (r := (RX7, TX7, 33)) wk_X7_125 dX7_look_26 (u_bound_f hM hu hG hp c2) rfl rfl (show ww_is _ _ 8 from (ww_up_mo hM hu).1).1 (show ww_is _ _ 8 from (ww_up_mo hM hu).1).2 rfl rfl (by omega) (by omega) (by omega) (by first | exact Nat.le_of_ble_eq_true rfl | (simp [ww_rf_cat, Value.category])) rfl (fun E M9 h9 => h9.elim) (fun v9 M9 h9 => ?_)
    obtain ⟨rfl, rfl⟩ := h9
    refine ww_if_ne_f (tgt := 46) dX7_look_29 (by decide) (by decide) ?_
    refine ww_iload_n (i := 2) dX7_look_32 rfl rfl ?_
    refine ww_if_eq_f (tgt := 50) dX7_look_33 (by decide) c4 ?_
    refine ww_aload_n (i := 0) dX7_look_36 rfl rfl ?_
    refine ww_getR (f := 325) wf_X7_19 dX7_look_37 rfl rfl (ww_up_mo hM hu).1.1 (ww_up_mo hM hu).1.2 ((ww_up_mo hM hu).2.1 5 rfl) ?_
    refine ww_iload_n (i := 1) dX7_look_40 rfl rfl ?_
    refine ww_pald (k := 5) hM hu dX7_look_41 rfl rfl rfl (show _ < 60 by omega) (rfl) ?_
    refine ww_iconst (v := (-1)) dX7_look_42 (by decide) ?_
    refine ww_icmp_eq_t (tgt := 50) dX7_look_43 (by decide) c5 ?_
    refine ww_iconst (v := 0) dX7_look_50 (by decide) ?_
    refine ww_pputI (k := 0) hM hu dX7_look_51 wf_X7_98 wt_8_0 rfl rfl rfl rfl (fun M1 hu => ?_)
    refine ww_aload_n (i := 0) dX7_look_54 rfl rfl ?_
    refine ww_pgetI (k := 0) hM hu dX7_look_55 wf_X7_98 rfl rfl (q_us_s) ?_
    refine ww_if_le_t (tgt := 63) dX7_look_58 (by decide) (by decide) ?_
    -- at 63, locals [0, 1, 2]
    exact kk _ hu
set_option maxRecDepth 20000 in
theorem m_look_0h (hM : ww_mo x ar M.1 M.2.2.1) (hG : q_G (q_S M x ar) n) {p : Nat} {v : Int32} (hp : p < n) (hc : q_look (q_S M x ar) p v) (hv : q_lookV (q_S M x ar) p v) : ww_C g wy_X7_look 4 0 0 [.ref x, .int (nI p), .int v] M (ww_ru x ar M (some (.int ((q_S M x ar) 18 p))) (q_holds (q_us (q_S M x ar) 0 0) p)) ww_no := by
  refine m_look_a hM hG hp hc (fun M1 hu => ?_)
  have h6 := hG.2.1
  unfold q_lookV at hv
  by_cases c4 : v = 0
  · rw [if_pos c4] at hv
    refine ww_aload_n (i := 0) dX7_look_63 rfl rfl ?_
    refine ww_getR (f := 338) wf_X7_59 dX7_look_64 rfl rfl (ww_up_mo hM hu).1.1 (ww_up_mo hM hu).1.2 ((ww_up_mo hM hu).2.1 18 rfl) ?_
    refine ww_iload_n (i := 1) dX7_look_67 rfl rfl ?_
    refine ww_pald (k := 18) hM hu dX7_look_68 rfl rfl rfl (show _ < 60 by omega) ((q_us_n (by decide)).trans (rfl)) ?_
    refine ww_iload_n (i := 2) dX7_look_69 rfl rfl ?_
    refine ww_if_eq_t (tgt := 77) dX7_look_70 (by decide) c4 ?_
    refine ww_bipush (v := 10) dX7_look_77 (by decide) ?_
    refine ww_icmp_lt_f (tgt := 94) dX7_look_79 (by decide) hv ?_
    refine ww_aload_n (i := 0) dX7_look_82 rfl rfl ?_
    refine ww_iload_n (i := 1) dX7_look_83 rfl rfl ?_
    refine ww_callV (κ := 8) (r := (RX7, TX7, 33)) wk_X7_166 dX7_look_84 (u_holds hM hu (q_G_c hG) hp) rfl rfl (show ww_is _ _ 8 from (ww_up_mo hM hu).1).1 (show ww_is _ _ 8 from (ww_up_mo hM hu).1).2 rfl rfl (by omega) (by omega) (by omega) (by first | exact Nat.le_of_ble_eq_true rfl | (simp [ww_rf_cat, Value.category])) rfl (fun E M9 h9 => h9.elim) (fun v9 M9 h9 => ?_)
    obtain ⟨rfl, hu⟩ := h9
    refine ww_aload_n (i := 0) dX7_look_87 rfl rfl ?_
    refine ww_getR (f := 338) wf_X7_59 dX7_look_88 rfl rfl (ww_up_mo hM hu).1.1 (ww_up_mo hM hu).1.2 ((ww_up_mo hM hu).2.1 18 rfl) ?_
    refine ww_iload_n (i := 1) dX7_look_91 rfl rfl ?_
    -- at 92, locals [0, 1, 2]
    refine ww_pald (k := 18) (v := (q_S M x ar) 18 p) hM hu dX7_look_92 rfl rfl rfl (show _ < 60 by omega) rfl ?_
    exact ww_ireturn dX7_look_93 rfl (by first | rfl | exact ww_b_nar) ⟨rfl, hu⟩
  · rw [if_neg c4] at hv
    refine ww_aload_n (i := 0) dX7_look_63 rfl rfl ?_
    refine ww_getR (f := 338) wf_X7_59 dX7_look_64 rfl rfl (ww_up_mo hM hu).1.1 (ww_up_mo hM hu).1.2 ((ww_up_mo hM hu).2.1 18 rfl) ?_
    refine ww_iload_n (i := 1) dX7_look_67 rfl rfl ?_
    refine ww_pald (k := 18) hM hu dX7_look_68 rfl rfl rfl (show _ < 60 by omega) ((q_us_n (by decide)).trans (rfl)) ?_
    refine ww_iload_n (i := 2) dX7_look_69 rfl rfl ?_
    refine ww_if_eq_f (tgt := 77) dX7_look_70 (by decide) c4 ?_
    refine ww_iconst (v := 3) dX7_look_73 (by decide) ?_
    refine ww_goto (tgt := 79) dX7_look_74 (by decide) ?_
    refine ww_icmp_lt_f (tgt := 94) dX7_look_79 (by decide) hv ?_
    refine ww_aload_n (i := 0) dX7_look_82 rfl rfl ?_
    refine ww_iload_n (i := 1) dX7_look_83 rfl rfl ?_
    refine ww_callV (κ := 8) (r := (RX7, TX7, 33)) wk_X7_166 dX7_look_84 (u_holds hM hu (q_G_c hG) hp) rfl rfl (show ww_is _ _ 8 from (ww_up_mo hM hu).1).1 (show ww_is _ _ 8 from (ww_up_mo hM hu).1).2 rfl rfl (by omega) (by omega) (by omega) (by first | exact Nat.le_of_ble_eq_true rfl | (simp [ww_rf_cat, Value.category])) rfl (fun E M9 h9 => h9.elim) (fun v9 M9 h9 => ?_)
    obtain ⟨rfl, hu⟩ := h9
    refine ww_aload_n (i := 0) dX7_look_87 rfl rfl ?_
    refine ww_getR (f := 338) wf_X7_59 dX7_look_88 rfl rfl (ww_up_mo hM hu).1.1 (ww_up_mo hM hu).1.2 ((ww_up_mo hM hu).2.1 18 rfl) ?_
    refine ww_iload_n (i := 1) dX7_look_91 rfl rfl ?_
    -- at 92, locals [0, 1, 2]
    refine ww_pald (k := 18) (v := (q_S M x ar) 18 p) hM hu dX7_look_92 rfl rfl rfl (show _ < 60 by omega) rfl ?_
    exact ww_ireturn dX7_look_93 rfl (by first | rfl | exact ww_b_nar) ⟨rfl, hu⟩
set_option maxRecDepth 20000 in
theorem m_look_0n (hM : ww_mo x ar M.1 M.2.2.1) (hG : q_G (q_S M x ar) n) {p : Nat} {v : Int32} (hp : p < n) (hc : q_look (q_S M x ar) p v) (hv : ¬ q_lookV (q_S M x ar) p v) : ww_C g wy_X7_look 4 0 0 [.ref x, .int (nI p), .int v] M (ww_ru x ar M (some (.int 0)) (ww_u2 (q_us (q_S M x ar) 0 0) 10 p (if v = 0 then (q_S M x ar) 10 p else 0))) ww_no := by
  refine m_look_a hM hG hp hc (fun M1 hu => ?_)
  have h6 := hG.2.1
  have hv := Classical.not_not.mp hv
  by_cases c4 : v = 0
  · rw [if_pos c4] at hv
    rw [if_pos c4]
    by_cases c5 : (q_S M x ar) 10 p = 0
    · rw [c5]
      refine ww_aload_n (i := 0) dX7_look_63 rfl rfl ?_
      refine ww_getR (f := 338) wf_X7_59 dX7_look_64 rfl rfl (ww_up_mo hM hu).1.1 (ww_up_mo hM hu).1.2 ((ww_up_mo hM hu).2.1 18 rfl) ?_
      refine ww_iload_n (i := 1) dX7_look_67 rfl rfl ?_
      refine ww_pald (k := 18) hM hu dX7_look_68 rfl rfl rfl (show _ < 60 by omega) ((q_us_n (by decide)).trans (rfl)) ?_
      refine ww_iload_n (i := 2) dX7_look_69 rfl rfl ?_
      refine ww_if_eq_t (tgt := 77) dX7_look_70 (by decide) c4 ?_
      refine ww_bipush (v := 10) dX7_look_77 (by decide) ?_
      refine ww_icmp_lt_t (tgt := 94) dX7_look_79 (by decide) hv ?_
      refine ww_aload_n (i := 0) dX7_look_94 rfl rfl ?_
      refine ww_getR (f := 330) wf_X7_35 dX7_look_95 rfl rfl (ww_up_mo hM hu).1.1 (ww_up_mo hM hu).1.2 ((ww_up_mo hM hu).2.1 10 rfl) ?_
      refine ww_iload_n (i := 1) dX7_look_98 rfl rfl ?_
      refine ww_aload_n (i := 0) dX7_look_99 rfl rfl ?_
      refine ww_getR (f := 330) wf_X7_35 dX7_look_100 rfl rfl (ww_up_mo hM hu).1.1 (ww_up_mo hM hu).1.2 ((ww_up_mo hM hu).2.1 10 rfl) ?_
      refine ww_iload_n (i := 1) dX7_look_103 rfl rfl ?_
      refine ww_pzld (k := 10) hM hu dX7_look_104 rfl rfl rfl (show _ < 60 by omega) ((q_us_n (by decide)).trans (rfl)) ?_
      refine ww_if_eq_t (tgt := 116) dX7_look_105 (by decide) c5 ?_
      refine ww_iconst (v := 0) dX7_look_116 (by decide) ?_
      refine ww_pzst (k := 10) hM hu dX7_look_117 rfl rfl rfl (show _ < 60 by omega) (by first | rfl | exact ww_b_vn) (fun M1 hu => ?_)
      refine ww_iconst (v := 0) dX7_look_118 (by decide) ?_
      exact ww_ireturn dX7_look_119 rfl (by first | rfl | exact ww_b_nar) ⟨rfl, hu⟩
    · rw [(hG.2.2.2.2.1 p).resolve_left c5]
      refine ww_aload_n (i := 0) dX7_look_63 rfl rfl ?_
      refine ww_getR (f := 338) wf_X7_59 dX7_look_64 rfl rfl (ww_up_mo hM hu).1.1 (ww_up_mo hM hu).1.2 ((ww_up_mo hM hu).2.1 18 rfl) ?_
      refine ww_iload_n (i := 1) dX7_look_67 rfl rfl ?_
      refine ww_pald (k := 18) hM hu dX7_look_68 rfl rfl rfl (show _ < 60 by omega) ((q_us_n (by decide)).trans (rfl)) ?_
      refine ww_iload_n (i := 2) dX7_look_69 rfl rfl ?_
      refine ww_if_eq_t (tgt := 77) dX7_look_70 (by decide) c4 ?_
      refine ww_bipush (v := 10) dX7_look_77 (by decide) ?_
      refine ww_icmp_lt_t (tgt := 94) dX7_look_79 (by decide) hv ?_
      refine ww_aload_n (i := 0) dX7_look_94 rfl rfl ?_
      refine ww_getR (f := 330) wf_X7_35 dX7_look_95 rfl rfl (ww_up_mo hM hu).1.1 (ww_up_mo hM hu).1.2 ((ww_up_mo hM hu).2.1 10 rfl) ?_
      refine ww_iload_n (i := 1) dX7_look_98 rfl rfl ?_
      refine ww_aload_n (i := 0) dX7_look_99 rfl rfl ?_
      refine ww_getR (f := 330) wf_X7_35 dX7_look_100 rfl rfl (ww_up_mo hM hu).1.1 (ww_up_mo hM hu).1.2 ((ww_up_mo hM hu).2.1 10 rfl) ?_
      refine ww_iload_n (i := 1) dX7_look_103 rfl rfl ?_
      refine ww_pzld (k := 10) hM hu dX7_look_104 rfl rfl rfl (show _ < 60 by omega) ((q_us_n (by decide)).trans (rfl)) ?_
      refine ww_if_eq_f (tgt := 116) dX7_look_105 (by decide) c5 ?_
      refine ww_iload_n (i := 2) dX7_look_108 rfl rfl ?_
      refine ww_if_ne_f (tgt := 116) dX7_look_109 (by decide) c4 ?_
      refine ww_iconst (v := 1) dX7_look_112 (by decide) ?_
      refine ww_goto (tgt := 117) dX7_look_113 (by decide) ?_
      refine ww_pzst (k := 10) hM hu dX7_look_117 rfl rfl rfl (show _ < 60 by omega) (by first | rfl | exact ww_b_vn) (fun M1 hu => ?_)
      refine ww_iconst (v := 0) dX7_look_118 (by decide) ?_
      exact ww_ireturn dX7_look_119 rfl (by first | rfl | exact ww_b_nar) ⟨rfl, hu⟩
  · rw [if_neg c4] at hv
    rw [if_neg c4]
    by_cases c5 : (q_S M x ar) 10 p = 0
    · refine ww_aload_n (i := 0) dX7_look_63 rfl rfl ?_
      refine ww_getR (f := 338) wf_X7_59 dX7_look_64 rfl rfl (ww_up_mo hM hu).1.1 (ww_up_mo hM hu).1.2 ((ww_up_mo hM hu).2.1 18 rfl) ?_
      refine ww_iload_n (i := 1) dX7_look_67 rfl rfl ?_
      refine ww_pald (k := 18) hM hu dX7_look_68 rfl rfl rfl (show _ < 60 by omega) ((q_us_n (by decide)).trans (rfl)) ?_
      refine ww_iload_n (i := 2) dX7_look_69 rfl rfl ?_
      refine ww_if_eq_f (tgt := 77) dX7_look_70 (by decide) c4 ?_
      refine ww_iconst (v := 3) dX7_look_73 (by decide) ?_
      refine ww_goto (tgt := 79) dX7_look_74 (by decide) ?_
      refine ww_icmp_lt_t (tgt := 94) dX7_look_79 (by decide) hv ?_
      refine ww_aload_n (i := 0) dX7_look_94 rfl rfl ?_
      refine ww_getR (f := 330) wf_X7_35 dX7_look_95 rfl rfl (ww_up_mo hM hu).1.1 (ww_up_mo hM hu).1.2 ((ww_up_mo hM hu).2.1 10 rfl) ?_
      refine ww_iload_n (i := 1) dX7_look_98 rfl rfl ?_
      refine ww_aload_n (i := 0) dX7_look_99 rfl rfl ?_
      refine ww_getR (f := 330) wf_X7_35 dX7_look_100 rfl rfl (ww_up_mo hM hu).1.1 (ww_up_mo hM hu).1.2 ((ww_up_mo hM hu).2.1 10 rfl) ?_
      refine ww_iload_n (i := 1) dX7_look_103 rfl rfl ?_
      refine ww_pzld (k := 10) hM hu dX7_look_104 rfl rfl rfl (show _ < 60 by omega) ((q_us_n (by decide)).trans (rfl)) ?_
      refine ww_if_eq_t (tgt := 116) dX7_look_105 (by decide) c5 ?_
      refine ww_iconst (v := 0) dX7_look_116 (by decide) ?_
      refine ww_pzst (k := 10) hM hu dX7_look_117 rfl rfl rfl (show _ < 60 by omega) (by first | rfl | exact ww_b_vn) (fun M1 hu => ?_)
      refine ww_iconst (v := 0) dX7_look_118 (by decide) ?_
      exact ww_ireturn dX7_look_119 rfl (by first | rfl | exact ww_b_nar) ⟨rfl, hu⟩
    · refine ww_aload_n (i := 0) dX7_look_63 rfl rfl ?_
      refine ww_getR (f := 338) wf_X7_59 dX7_look_64 rfl rfl (ww_up_mo hM hu).1.1 (ww_up_mo hM hu).1.2 ((ww_up_mo hM hu).2.1 18 rfl) ?_
      refine ww_iload_n (i := 1) dX7_look_67 rfl rfl ?_
      refine ww_pald (k := 18) hM hu dX7_look_68 rfl rfl rfl (show _ < 60 by omega) ((q_us_n (by decide)).trans (rfl)) ?_
      refine ww_iload_n (i := 2) dX7_look_69 rfl rfl ?_
      refine ww_if_eq_f (tgt := 77) dX7_look_70 (by decide) c4 ?_
      refine ww_iconst (v := 3) dX7_look_73 (by decide) ?_
      refine ww_goto (tgt := 79) dX7_look_74 (by decide) ?_
      refine ww_icmp_lt_t (tgt := 94) dX7_look_79 (by decide) hv ?_
      refine ww_aload_n (i := 0) dX7_look_94 rfl rfl ?_
      refine ww_getR (f := 330) wf_X7_35 dX7_look_95 rfl rfl (ww_up_mo hM hu).1.1 (ww_up_mo hM hu).1.2 ((ww_up_mo hM hu).2.1 10 rfl) ?_
      refine ww_iload_n (i := 1) dX7_look_98 rfl rfl ?_
      refine ww_aload_n (i := 0) dX7_look_99 rfl rfl ?_
      refine ww_getR (f := 330) wf_X7_35 dX7_look_100 rfl rfl (ww_up_mo hM hu).1.1 (ww_up_mo hM hu).1.2 ((ww_up_mo hM hu).2.1 10 rfl) ?_
      refine ww_iload_n (i := 1) dX7_look_103 rfl rfl ?_
      refine ww_pzld (k := 10) hM hu dX7_look_104 rfl rfl rfl (show _ < 60 by omega) ((q_us_n (by decide)).trans (rfl)) ?_
      refine ww_if_eq_f (tgt := 116) dX7_look_105 (by decide) c5 ?_
      refine ww_iload_n (i := 2) dX7_look_108 rfl rfl ?_
      refine ww_if_ne_t (tgt := 116) dX7_look_109 (by decide) c4 ?_
      refine ww_iconst (v := 0) dX7_look_116 (by decide) ?_
      refine ww_pzst (k := 10) hM hu dX7_look_117 rfl rfl rfl (show _ < 60 by omega) (by first | rfl | exact ww_b_vn) (fun M1 hu => ?_)
      refine ww_iconst (v := 0) dX7_look_118 (by decide) ?_
      exact ww_ireturn dX7_look_119 rfl (by first | rfl | exact ww_b_nar) ⟨rfl, hu⟩
/-! clear -/
def q_clear (S : Nat → Nat → Int32) (p : Nat) : Prop := ¬ S 9 p = 0 ∧ ¬ q_bound S p
set_option maxRecDepth 20000 in
set_option maxHeartbeats 4000000 in
theorem m_clear_1 (hM : ww_mo x ar M.1 M.2.2.1) (hG : q_G (q_S M x ar) n) {p : Int32} (hc : q_noP n p) : ww_C g wy_X7_clear 3 0 0 [.ref x, .int p] M (ww_ru x ar M (some (.int 0)) (q_us (q_S M x ar) 0 1)) ww_no := by
  refine ww_ent (by decide +kernel) (Nat.le_of_ble_eq_true rfl) ⟨rfl, rfl, trivial⟩ ?_
  have hu : ww_up x ar M (q_S M x ar) M := ww_up_rf
  refine ww_aload_n (i := 0) dX7_clear_0 rfl rfl ?_
  refine ww_aload_n (i := 0) dX7_clear_1 rfl rfl ?_
  refine ww_iload_n (i := 1) dX7_clear_2 rfl rfl ?_
  refine ww_callV (κ := 8) (r := (RX7, TX7, 33)) wk_X7_109 dX7_clear_3 (u_isPart_f hM hu hG hc) rfl rfl (show ww_is _ _ 8 from (ww_up_mo hM hu).1).1 (show ww_is _ _ 8 from (ww_up_mo hM hu).1).2 rfl rfl (by omega) (by omega) (by omega) (by first | exact Nat.le_of_ble_eq_true rfl | (simp [ww_rf_cat, Value.category])) rfl (fun E M9 h9 => h9.elim) (fun v9 M9 h9 => ?_)
  obtain ⟨rfl, rfl⟩ := h9
  refine ww_if_ne_f (tgt := 13) dX7_clear_6 (by decide) (by decide) ?_
  refine ww_iconst (v := 1) dX7_clear_9 (by decide) ?_
  refine ww_goto (tgt := 35) dX7_clear_10 (by decide) ?_
  refine ww_pputI (k := 0) hM hu dX7_clear_35 wf_X7_98 wt_8_0 rfl rfl rfl rfl (fun M1 hu => ?_)
  refine ww_aload_n (i := 0) dX7_clear_38 rfl rfl ?_
  refine ww_pgetI (k := 0) hM hu dX7_clear_39 wf_X7_98 rfl rfl (q_us_s) ?_
  refine ww_if_le_f (tgt := 47) dX7_clear_42 (by decide) (by decide) ?_
  refine ww_iconst (v := 0) dX7_clear_45 (by decide) ?_
  exact ww_ireturn dX7_clear_46 rfl (by first | rfl | exact ww_b_nar) ⟨rfl, hu⟩
set_option maxRecDepth 20000 in
set_option maxHeartbeats 4000000 in
theorem m_clear_2 (hM : ww_mo x ar M.1 M.2.2.1) (hG : q_G (q_S M x ar) n) {p : Nat} (hp : p < n) (hc : ¬ q_clear (q_S M x ar) p) : ww_C g wy_X7_clear 3 0 0 [.ref x, .int (nI p)] M (ww_ru x ar M (some (.int 0)) (q_us (q_S M x ar) 0 2)) ww_no := by
  refine ww_ent (by decide +kernel) (Nat.le_of_ble_eq_true rfl) ⟨rfl, rfl, trivial⟩ ?_
  have hu : ww_up x ar M (q_S M x ar) M := ww_up_rf
  have h6 := hG.2.1
  by_cases c1 : (q_S M x ar) 9 p = 0
  · refine ww_aload_n (i := 0) dX7_clear_0 rfl rfl ?_
    refine ww_aload_n (i := 0) dX7_clear_1 rfl rfl ?_
    refine ww_iload_n (i := 1) dX7_clear_2 rfl rfl ?_
    refine ww_callV (κ := 8) (r := (RX7, TX7, 33)) wk_X7_109 dX7_clear_3 (u_isPart_t hM hu hG hp) rfl rfl (show ww_is _ _ 8 from (ww_up_mo hM hu).1).1 (show ww_is _ _ 8 from (ww_up_mo hM hu).1).2 rfl rfl (by omega) (by omega) (by omega) (by first | exact Nat.le_of_ble_eq_true rfl | (simp [ww_rf_cat, Value.category])) rfl (fun E M9 h9 => h9.elim) (fun v9 M9 h9 => ?_)
    obtain ⟨rfl, rfl⟩ := h9
    refine ww_if_ne_t (tgt := 13) dX7_clear_6 (by decide) (by decide) ?_
    refine ww_aload_n (i := 0) dX7_clear_13 rfl rfl ?_
    refine ww_getR (f := 329) wf_X7_31 dX7_clear_14 rfl rfl (ww_up_mo hM hu).1.1 (ww_up_mo hM hu).1.2 ((ww_up_mo hM hu).2.1 9 rfl) ?_
    refine ww_iload_n (i := 1) dX7_clear_17 rfl rfl ?_
    refine ww_pzld (k := 9) hM hu dX7_clear_18 rfl rfl rfl (show _ < 60 by omega) (rfl) ?_
    refine ww_if_eq_t (tgt := 30) dX7_clear_19 (by decide) c1 ?_
    refine ww_iconst (v := 2) dX7_clear_30 (by decide) ?_
    refine ww_goto (tgt := 35) dX7_clear_31 (by decide) ?_
    refine ww_pputI (k := 0) hM hu dX7_clear_35 wf_X7_98 wt_8_0 rfl rfl rfl rfl (fun M1 hu => ?_)
    refine ww_aload_n (i := 0) dX7_clear_38 rfl rfl ?_
    refine ww_pgetI (k := 0) hM hu dX7_clear_39 wf_X7_98 rfl rfl (q_us_s) ?_
    refine ww_if_le_f (tgt := 47) dX7_clear_42 (by decide) (by decide) ?_
    refine ww_iconst (v := 0) dX7_clear_45 (by decide) ?_
    exact ww_ireturn dX7_clear_46 rfl (by first | rfl | exact ww_b_nar) ⟨rfl, hu⟩
  · have c2 : q_bound (q_S M x ar) p := Classical.not_not.mp fun z => hc ⟨c1, z⟩
    refine ww_aload_n (i := 0) dX7_clear_0 rfl rfl ?_
    refine ww_aload_n (i := 0) dX7_clear_1 rfl rfl ?_
    refine ww_iload_n (i := 1) dX7_clear_2 rfl rfl ?_
    refine ww_callV (κ := 8) (r := (RX7, TX7, 33)) wk_X7_109 dX7_clear_3 (u_isPart_t hM hu hG hp) rfl rfl (show ww_is _ _ 8 from (ww_up_mo hM hu).1).1 (show ww_is _ _ 8 from (ww_up_mo hM hu).1).2 rfl rfl (by omega) (by omega) (by omega) (by first | exact Nat.le_of_ble_eq_true rfl | (simp [ww_rf_cat, Value.category])) rfl (fun E M9 h9 => h9.elim) (fun v9 M9 h9 => ?_)
    obtain ⟨rfl, rfl⟩ := h9
    refine ww_if_ne_t (tgt := 13) dX7_clear_6 (by decide) (by decide) ?_
    refine ww_aload_n (i := 0) dX7_clear_13 rfl rfl ?_
    refine ww_getR (f := 329) wf_X7_31 dX7_clear_14 rfl rfl (ww_up_mo hM hu).1.1 (ww_up_mo hM hu).1.2 ((ww_up_mo hM hu).2.1 9 rfl) ?_
    refine ww_iload_n (i := 1) dX7_clear_17 rfl rfl ?_
    refine ww_pzld (k := 9) hM hu dX7_clear_18 rfl rfl rfl (show _ < 60 by omega) (rfl) ?_
    refine ww_if_eq_f (tgt := 30) dX7_clear_19 (by decide) c1 ?_
    refine ww_aload_n (i := 0) dX7_clear_22 rfl rfl ?_
    refine ww_iload_n (i := 1) dX7_clear_23 rfl rfl ?_
    refine ww_callV (κ := 8) (r := (RX7, TX7, 33)) wk_X7_125 dX7_clear_24 (u_bound_t hM hu hG hp c2) rfl rfl (show ww_is _ _ 8 from (ww_up_mo hM hu).1).1 (show ww_is _ _ 8 from (ww_up_mo hM hu).1).2 rfl rfl (by omega) (by omega) (by omega) (by first | exact Nat.le_of_ble_eq_true rfl | (simp [ww_rf_cat, Value.category])) rfl (fun E M9 h9 => h9.elim) (fun v9 M9 h9 => ?_)
    obtain ⟨rfl, rfl⟩ := h9
    refine ww_if_eq_f (tgt := 34) dX7_clear_27 (by decide) (by decide) ?_
    refine ww_iconst (v := 2) dX7_clear_30 (by decide) ?_
    refine ww_goto (tgt := 35) dX7_clear_31 (by decide) ?_
    refine ww_pputI (k := 0) hM hu dX7_clear_35 wf_X7_98 wt_8_0 rfl rfl rfl rfl (fun M1 hu => ?_)
    refine ww_aload_n (i := 0) dX7_clear_38 rfl rfl ?_
    refine ww_pgetI (k := 0) hM hu dX7_clear_39 wf_X7_98 rfl rfl (q_us_s) ?_
    refine ww_if_le_f (tgt := 47) dX7_clear_42 (by decide) (by decide) ?_
    refine ww_iconst (v := 0) dX7_clear_45 (by decide) ?_
    exact ww_ireturn dX7_clear_46 rfl (by first | rfl | exact ww_b_nar) ⟨rfl, hu⟩
set_option maxRecDepth 20000 in
set_option maxHeartbeats 4000000 in
theorem m_clear_0 (hM : ww_mo x ar M.1 M.2.2.1) (hG : q_G (q_S M x ar) n) {p : Nat} (hp : p < n) (hc : q_clear (q_S M x ar) p) : ww_C g wy_X7_clear 3 0 0 [.ref x, .int (nI p)] M (ww_ru x ar M (some (.int ((q_S M x ar) 18 p))) (ww_u2 (ww_u2 (q_us (q_S M x ar) 0 0) 9 p 0) 18 p 0)) ww_no := by
  refine ww_ent (by decide +kernel) (Nat.le_of_ble_eq_true rfl) ⟨rfl, rfl, trivial⟩ ?_
  have hu : ww_up x ar M (q_S M x ar) M := ww_up_rf
  have h6 := hG.2.1
  refine ww_aload_n (i := 0) dX7_clear_0 rfl rfl ?_
  refine ww_aload_n (i := 0) dX7_clear_1 rfl rfl ?_
  refine ww_iload_n (i := 1) dX7_clear_2 rfl rfl ?_
  refine ww_callV (κ := 8) (r := (RX7, TX7, 33)) wk_X7_109 dX7_clear_3 (u_isPart_t hM hu hG hp) rfl rfl (show ww_is _ _ 8 from (ww_up_mo hM hu).1).1 (show ww_is _ _ 8 from (ww_up_mo hM hu).1).2 rfl rfl (by omega) (by omega) (by omega) (by first | exact Nat.le_of_ble_eq_true rfl | (simp [ww_rf_cat, Value.category])) rfl (fun E M9 h9 => h9.elim) (fun v9 M9 h9 => ?_)
  obtain ⟨rfl, rfl⟩ := h9
  refine ww_if_ne_t (tgt := 13) dX7_clear_6 (by decide) (by decide) ?_
  refine ww_aload_n (i := 0) dX7_clear_13 rfl rfl ?_
  refine ww_getR (f := 329) wf_X7_31 dX7_clear_14 rfl rfl (ww_up_mo hM hu).1.1 (ww_up_mo hM hu).1.2 ((ww_up_mo hM hu).2.1 9 rfl) ?_
  refine ww_iload_n (i := 1) dX7_clear_17 rfl rfl ?_
  refine ww_pzld (k := 9) hM hu dX7_clear_18 rfl rfl rfl (show _ < 60 by omega) (rfl) ?_
  refine ww_if_eq_f (tgt := 30) dX7_clear_19 (by decide) hc.1 ?_
  refine ww_aload_n (i := 0) dX7_clear_22 rfl rfl ?_
  refine ww_iload_n (i := 1) dX7_clear_23 rfl rfl ?_
  refine ww_callV (κ := 8) (r := (RX7, TX7, 33)) wk_X7_125 dX7_clear_24 (u_bound_f hM hu hG hp hc.2) rfl rfl (show ww_is _ _ 8 from (ww_up_mo hM hu).1).1 (show ww_is _ _ 8 from (ww_up_mo hM hu).1).2 rfl rfl (by omega) (by omega) (by omega) (by first | exact Nat.le_of_ble_eq_true rfl | (simp [ww_rf_cat, Value.category])) rfl (fun E M9 h9 => h9.elim) (fun v9 M9 h9 => ?_)
  obtain ⟨rfl, rfl⟩ := h9
  refine ww_if_eq_t (tgt := 34) dX7_clear_27 (by decide) (by decide) ?_
  refine ww_iconst (v := 0) dX7_clear_34 (by decide) ?_
  refine ww_pputI (k := 0) hM hu dX7_clear_35 wf_X7_98 wt_8_0 rfl rfl rfl rfl (fun M1 hu => ?_)
  refine ww_aload_n (i := 0) dX7_clear_38 rfl rfl ?_
  refine ww_pgetI (k := 0) hM hu dX7_clear_39 wf_X7_98 rfl rfl (q_us_s) ?_
  refine ww_if_le_t (tgt := 47) dX7_clear_42 (by decide) (by decide) ?_
  refine ww_aload_n (i := 0) dX7_clear_47 rfl rfl ?_
  refine ww_getR (f := 338) wf_X7_59 dX7_clear_48 rfl rfl (ww_up_mo hM hu).1.1 (ww_up_mo hM hu).1.2 ((ww_up_mo hM hu).2.1 18 rfl) ?_
  refine ww_iload_n (i := 1) dX7_clear_51 rfl rfl ?_
  refine ww_pald (k := 18) hM hu dX7_clear_52 rfl rfl rfl (show _ < 60 by omega) ((q_us_n (by decide)).trans (rfl)) ?_
  refine ww_istore_n (i := 2) (lv2 := [(0, _), (1, _), (2, _)]) dX7_clear_53 rfl (Nat.le_of_ble_eq_true rfl) rfl ?_
  refine ww_aload_n (i := 0) dX7_clear_54 rfl rfl ?_
  refine ww_getR (f := 329) wf_X7_31 dX7_clear_55 rfl rfl (ww_up_mo hM hu).1.1 (ww_up_mo hM hu).1.2 ((ww_up_mo hM hu).2.1 9 rfl) ?_
  refine ww_iload_n (i := 1) dX7_clear_58 rfl rfl ?_
  refine ww_iconst (v := 0) dX7_clear_59 (by decide) ?_
  refine ww_pzst (k := 9) hM hu dX7_clear_60 rfl rfl rfl (show _ < 60 by omega) (by first | rfl | exact ww_b_vn) (fun M1 hu => ?_)
  refine ww_aload_n (i := 0) dX7_clear_61 rfl rfl ?_
  refine ww_getR (f := 338) wf_X7_59 dX7_clear_62 rfl rfl (ww_up_mo hM hu).1.1 (ww_up_mo hM hu).1.2 ((ww_up_mo hM hu).2.1 18 rfl) ?_
  refine ww_iload_n (i := 1) dX7_clear_65 rfl rfl ?_
  refine ww_iconst (v := 0) dX7_clear_66 (by decide) ?_
  refine ww_past (k := 18) hM hu dX7_clear_67 rfl rfl rfl (show _ < 60 by omega) (fun M1 hu => ?_)
  refine ww_iload_n (i := 2) dX7_clear_68 rfl rfl ?_
  exact ww_ireturn dX7_clear_69 rfl (by first | rfl | exact ww_b_nar) ⟨rfl, hu⟩
/-! release, bars, barredBy, isReleased -/
theorem q_top {S : Nat → Nat → Int32} (hG : q_G S n) {p : Nat} (hp : p < n) (hk : S 2 p = 0) : S 5 p < 0 := by
  rcases q_gh_cases hG.2.2.1 hG.2.1 hp with h1 | ⟨q, hq, e, hl⟩
  · exact h1
  · have := (q_gh_kd hG.2.2.1 hq).1
    rw [hk] at hl
    exact absurd hl (by rw [show (0 : Int32).toInt = 0 from rfl]; omega)
set_option maxRecDepth 20000 in
set_option maxHeartbeats 4000000 in
theorem m_release_1 (hM : ww_mo x ar M.1 M.2.2.1) (hG : q_G (q_S M x ar) n) {p : Int32} (hc : q_noP n p) : ww_C g wy_X7_release 5 0 0 [.ref x, .int p] M (ww_ru x ar M (some (.int 0)) (q_us (q_S M x ar) 0 1)) ww_no := by
  refine ww_ent (by decide +kernel) (Nat.le_of_ble_eq_true rfl) ⟨rfl, rfl, trivial⟩ ?_
  have hu : ww_up x ar M (q_S M x ar) M := ww_up_rf
  refine ww_aload_n (i := 0) dX7_release_0 rfl rfl ?_
  refine ww_aload_n (i := 0) dX7_release_1 rfl rfl ?_
  refine ww_iload_n (i := 1) dX7_release_2 rfl rfl ?_
  refine ww_iconst (v := 0) dX7_release_3 (by decide) ?_
  refine ww_callV (κ := 8) (r := (RX7, TX7, 33)) wk_X7_148 dX7_release_4 (u_kind_1 hM hu hG 0 hc) rfl rfl (show ww_is _ _ 8 from (ww_up_mo hM hu).1).1 (show ww_is _ _ 8 from (ww_up_mo hM hu).1).2 rfl rfl (by omega) (by omega) (by omega) (by first | exact Nat.le_of_ble_eq_true rfl | (simp [ww_rf_cat, Value.category])) rfl (fun E M9 h9 => h9.elim) (fun v9 M9 h9 => ?_)
  obtain ⟨rfl, rfl⟩ := h9
  refine ww_pputI (k := 0) hM hu dX7_release_7 wf_X7_98 wt_8_0 rfl rfl rfl rfl (fun M1 hu => ?_)
  refine ww_aload_n (i := 0) dX7_release_10 rfl rfl ?_
  refine ww_pgetI (k := 0) hM hu dX7_release_11 wf_X7_98 rfl rfl (q_us_s) ?_
  refine ww_if_le_f (tgt := 19) dX7_release_14 (by decide) (by decide) ?_
  refine ww_iconst (v := 0) dX7_release_17 (by decide) ?_
  exact ww_ireturn dX7_release_18 rfl (by first | rfl | exact ww_b_nar) ⟨rfl, hu⟩
set_option maxRecDepth 20000 in
set_option maxHeartbeats 4000000 in
theorem m_release_2 (hM : ww_mo x ar M.1 M.2.2.1) (hG : q_G (q_S M x ar) n) {p : Nat} (hp : p < n) (hc : ¬ (q_S M x ar) 2 p = 0) : ww_C g wy_X7_release 5 0 0 [.ref x, .int (nI p)] M (ww_ru x ar M (some (.int 0)) (q_us (q_S M x ar) 0 2)) ww_no := by
  refine ww_ent (by decide +kernel) (Nat.le_of_ble_eq_true rfl) ⟨rfl, rfl, trivial⟩ ?_
  have hu : ww_up x ar M (q_S M x ar) M := ww_up_rf
  have h6 := hG.2.1
  refine ww_aload_n (i := 0) dX7_release_0 rfl rfl ?_
  refine ww_aload_n (i := 0) dX7_release_1 rfl rfl ?_
  refine ww_iload_n (i := 1) dX7_release_2 rfl rfl ?_
  refine ww_iconst (v := 0) dX7_release_3 (by decide) ?_
  refine ww_callV (κ := 8) (r := (RX7, TX7, 33)) wk_X7_148 dX7_release_4 (u_kind_2 hM hu hG hp hc) rfl rfl (show ww_is _ _ 8 from (ww_up_mo hM hu).1).1 (show ww_is _ _ 8 from (ww_up_mo hM hu).1).2 rfl rfl (by omega) (by omega) (by omega) (by first | exact Nat.le_of_ble_eq_true rfl | (simp [ww_rf_cat, Value.category])) rfl (fun E M9 h9 => h9.elim) (fun v9 M9 h9 => ?_)
  obtain ⟨rfl, rfl⟩ := h9
  refine ww_pputI (k := 0) hM hu dX7_release_7 wf_X7_98 wt_8_0 rfl rfl rfl rfl (fun M1 hu => ?_)
  refine ww_aload_n (i := 0) dX7_release_10 rfl rfl ?_
  refine ww_pgetI (k := 0) hM hu dX7_release_11 wf_X7_98 rfl rfl (q_us_s) ?_
  refine ww_if_le_f (tgt := 19) dX7_release_14 (by decide) (by decide) ?_
  refine ww_iconst (v := 0) dX7_release_17 (by decide) ?_
  exact ww_ireturn dX7_release_18 rfl (by first | rfl | exact ww_b_nar) ⟨rfl, hu⟩
set_option maxRecDepth 20000 in
set_option maxHeartbeats 4000000 in
theorem m_release_0 (hM : ww_mo x ar M.1 M.2.2.1) (hG : q_G (q_S M x ar) n) {p : Nat} (hp : p < n) (hc : (q_S M x ar) 2 p = 0) : ww_C g wy_X7_release 5 0 0 [.ref x, .int (nI p)] M (ww_ru x ar M (some (.int (nI (q_code (q_bar (q_S M x ar) n p 7 1)) / 100))) (ww_u2 (q_us (q_S M x ar) 0 0) 11 p (if nI (q_code (q_bar (q_S M x ar) n p 7 1)) / 100 = 0 then 1 else 0))) ww_no := by
  refine ww_ent (by decide +kernel) (Nat.le_of_ble_eq_true rfl) ⟨rfl, rfl, trivial⟩ ?_
  have hu : ww_up x ar M (q_S M x ar) M := ww_up_rf
  have h6 := hG.2.1
  have ht0 := q_top hG hp hc
  have hbo : ∀ M1, ww_up x ar M (q_us (q_S M x ar) 0 0) M1 → ww_C g wy_X7_barOf 4 0 0 [.ref x, .int (nI p)] M1 (ww_ret (some (.int (nI (q_code (q_bar (q_S M x ar) n p 7 1))))) M1) ww_no := fun M1 hu => by
    rw [← q_bar_us (c := 0)]
    exact u_barOf hM hu (q_G_c hG) hp ht0
  by_cases c1 : nI (q_code (q_bar (q_S M x ar) n p 7 1)) / 100 = 0
  · rw [if_pos c1]
    refine ww_aload_n (i := 0) dX7_release_0 rfl rfl ?_
    refine ww_aload_n (i := 0) dX7_release_1 rfl rfl ?_
    refine ww_iload_n (i := 1) dX7_release_2 rfl rfl ?_
    refine ww_iconst (v := 0) dX7_release_3 (by decide) ?_
    refine ww_callV (κ := 8) (r := (RX7, TX7, 33)) wk_X7_148 dX7_release_4 (u_kind_0 hM hu hG hp hc) rfl rfl (show ww_is _ _ 8 from (ww_up_mo hM hu).1).1 (show ww_is _ _ 8 from (ww_up_mo hM hu).1).2 rfl rfl (by omega) (by omega) (by omega) (by first | exact Nat.le_of_ble_eq_true rfl | (simp [ww_rf_cat, Value.category])) rfl (fun E M9 h9 => h9.elim) (fun v9 M9 h9 => ?_)
    obtain ⟨rfl, rfl⟩ := h9
    refine ww_pputI (k := 0) hM hu dX7_release_7 wf_X7_98 wt_8_0 rfl rfl rfl rfl (fun M1 hu => ?_)
    refine ww_aload_n (i := 0) dX7_release_10 rfl rfl ?_
    refine ww_pgetI (k := 0) hM hu dX7_release_11 wf_X7_98 rfl rfl (q_us_s) ?_
    refine ww_if_le_t (tgt := 19) dX7_release_14 (by decide) (by decide) ?_
    refine ww_aload_n (i := 0) dX7_release_19 rfl rfl ?_
    refine ww_iload_n (i := 1) dX7_release_20 rfl rfl ?_
    refine ww_callV (κ := 8) (r := (RX7, TX7, 33)) wk_X7_186 dX7_release_21 (hbo M1 hu) rfl rfl (show ww_is _ _ 8 from (ww_up_mo hM hu).1).1 (show ww_is _ _ 8 from (ww_up_mo hM hu).1).2 rfl rfl (by omega) (by omega) (by omega) (by first | exact Nat.le_of_ble_eq_true rfl | (simp [ww_rf_cat, Value.category])) rfl (fun E M9 h9 => h9.elim) (fun v9 M9 h9 => ?_)
    obtain ⟨rfl, rfl⟩ := h9
    refine ww_bipush (v := 100) dX7_release_24 (by decide) ?_
    refine ww_idiv dX7_release_26 (by decide) ?_
    refine ww_istore_n (i := 2) (lv2 := [(0, _), (1, _), (2, _)]) dX7_release_27 rfl (Nat.le_of_ble_eq_true rfl) rfl ?_
    refine ww_aload_n (i := 0) dX7_release_28 rfl rfl ?_
    refine ww_getR (f := 331) wf_X7_38 dX7_release_29 rfl rfl (ww_up_mo hM hu).1.1 (ww_up_mo hM hu).1.2 ((ww_up_mo hM hu).2.1 11 rfl) ?_
    refine ww_iload_n (i := 1) dX7_release_32 rfl rfl ?_
    refine ww_iload_n (i := 2) dX7_release_33 rfl rfl ?_
    refine ww_if_ne_f (tgt := 41) dX7_release_34 (by decide) c1 ?_
    refine ww_iconst (v := 1) dX7_release_37 (by decide) ?_
    refine ww_goto (tgt := 42) dX7_release_38 (by decide) ?_
    refine ww_pzst (k := 11) hM hu dX7_release_42 rfl rfl rfl (show _ < 60 by omega) (by first | rfl | exact ww_b_vn) (fun M1 hu => ?_)
    refine ww_iload_n (i := 2) dX7_release_43 rfl rfl ?_
    exact ww_ireturn dX7_release_44 rfl (by first | rfl | exact ww_b_nar) ⟨rfl, hu⟩
  · rw [if_neg c1]
    refine ww_aload_n (i := 0) dX7_release_0 rfl rfl ?_
    refine ww_aload_n (i := 0) dX7_release_1 rfl rfl ?_
    refine ww_iload_n (i := 1) dX7_release_2 rfl rfl ?_
    refine ww_iconst (v := 0) dX7_release_3 (by decide) ?_
    refine ww_callV (κ := 8) (r := (RX7, TX7, 33)) wk_X7_148 dX7_release_4 (u_kind_0 hM hu hG hp hc) rfl rfl (show ww_is _ _ 8 from (ww_up_mo hM hu).1).1 (show ww_is _ _ 8 from (ww_up_mo hM hu).1).2 rfl rfl (by omega) (by omega) (by omega) (by first | exact Nat.le_of_ble_eq_true rfl | (simp [ww_rf_cat, Value.category])) rfl (fun E M9 h9 => h9.elim) (fun v9 M9 h9 => ?_)
    obtain ⟨rfl, rfl⟩ := h9
    refine ww_pputI (k := 0) hM hu dX7_release_7 wf_X7_98 wt_8_0 rfl rfl rfl rfl (fun M1 hu => ?_)
    refine ww_aload_n (i := 0) dX7_release_10 rfl rfl ?_
    refine ww_pgetI (k := 0) hM hu dX7_release_11 wf_X7_98 rfl rfl (q_us_s) ?_
    refine ww_if_le_t (tgt := 19) dX7_release_14 (by decide) (by decide) ?_
    refine ww_aload_n (i := 0) dX7_release_19 rfl rfl ?_
    refine ww_iload_n (i := 1) dX7_release_20 rfl rfl ?_
    refine ww_callV (κ := 8) (r := (RX7, TX7, 33)) wk_X7_186 dX7_release_21 (hbo M1 hu) rfl rfl (show ww_is _ _ 8 from (ww_up_mo hM hu).1).1 (show ww_is _ _ 8 from (ww_up_mo hM hu).1).2 rfl rfl (by omega) (by omega) (by omega) (by first | exact Nat.le_of_ble_eq_true rfl | (simp [ww_rf_cat, Value.category])) rfl (fun E M9 h9 => h9.elim) (fun v9 M9 h9 => ?_)
    obtain ⟨rfl, rfl⟩ := h9
    refine ww_bipush (v := 100) dX7_release_24 (by decide) ?_
    refine ww_idiv dX7_release_26 (by decide) ?_
    refine ww_istore_n (i := 2) (lv2 := [(0, _), (1, _), (2, _)]) dX7_release_27 rfl (Nat.le_of_ble_eq_true rfl) rfl ?_
    refine ww_aload_n (i := 0) dX7_release_28 rfl rfl ?_
    refine ww_getR (f := 331) wf_X7_38 dX7_release_29 rfl rfl (ww_up_mo hM hu).1.1 (ww_up_mo hM hu).1.2 ((ww_up_mo hM hu).2.1 11 rfl) ?_
    refine ww_iload_n (i := 1) dX7_release_32 rfl rfl ?_
    refine ww_iload_n (i := 2) dX7_release_33 rfl rfl ?_
    refine ww_if_ne_t (tgt := 41) dX7_release_34 (by decide) c1 ?_
    refine ww_iconst (v := 0) dX7_release_41 (by decide) ?_
    refine ww_pzst (k := 11) hM hu dX7_release_42 rfl rfl rfl (show _ < 60 by omega) (by first | rfl | exact ww_b_vn) (fun M1 hu => ?_)
    refine ww_iload_n (i := 2) dX7_release_43 rfl rfl ?_
    exact ww_ireturn dX7_release_44 rfl (by first | rfl | exact ww_b_nar) ⟨rfl, hu⟩
set_option maxRecDepth 20000 in
set_option maxHeartbeats 4000000 in
theorem m_bars_1 (hM : ww_mo x ar M.1 M.2.2.1) (hG : q_G (q_S M x ar) n) {p : Int32} (hc : q_noP n p) : ww_C g wy_X7_bars 5 0 0 [.ref x, .int p] M (ww_ru x ar M (some (.int 0)) (q_us (q_S M x ar) 0 1)) ww_no := by
  refine ww_ent (by decide +kernel) (Nat.le_of_ble_eq_true rfl) ⟨rfl, rfl, trivial⟩ ?_
  have hu : ww_up x ar M (q_S M x ar) M := ww_up_rf
  refine ww_aload_n (i := 0) dX7_bars_0 rfl rfl ?_
  refine ww_aload_n (i := 0) dX7_bars_1 rfl rfl ?_
  refine ww_iload_n (i := 1) dX7_bars_2 rfl rfl ?_
  refine ww_iconst (v := 0) dX7_bars_3 (by decide) ?_
  refine ww_callV (κ := 8) (r := (RX7, TX7, 33)) wk_X7_148 dX7_bars_4 (u_kind_1 hM hu hG 0 hc) rfl rfl (show ww_is _ _ 8 from (ww_up_mo hM hu).1).1 (show ww_is _ _ 8 from (ww_up_mo hM hu).1).2 rfl rfl (by omega) (by omega) (by omega) (by first | exact Nat.le_of_ble_eq_true rfl | (simp [ww_rf_cat, Value.category])) rfl (fun E M9 h9 => h9.elim) (fun v9 M9 h9 => ?_)
  obtain ⟨rfl, rfl⟩ := h9
  refine ww_pputI (k := 0) hM hu dX7_bars_7 wf_X7_98 wt_8_0 rfl rfl rfl rfl (fun M1 hu => ?_)
  refine ww_aload_n (i := 0) dX7_bars_10 rfl rfl ?_
  refine ww_pgetI (k := 0) hM hu dX7_bars_11 wf_X7_98 rfl rfl (q_us_s) ?_
  refine ww_if_le_f (tgt := 21) dX7_bars_14 (by decide) (by decide) ?_
  refine ww_iconst (v := 0) dX7_bars_17 (by decide) ?_
  refine ww_goto (tgt := 29) dX7_bars_18 (by decide) ?_
  exact ww_ireturn dX7_bars_29 rfl (by first | rfl | exact ww_b_nar) ⟨rfl, hu⟩
set_option maxRecDepth 20000 in
set_option maxHeartbeats 4000000 in
theorem m_bars_2 (hM : ww_mo x ar M.1 M.2.2.1) (hG : q_G (q_S M x ar) n) {p : Nat} (hp : p < n) (hc : ¬ (q_S M x ar) 2 p = 0) : ww_C g wy_X7_bars 5 0 0 [.ref x, .int (nI p)] M (ww_ru x ar M (some (.int 0)) (q_us (q_S M x ar) 0 2)) ww_no := by
  refine ww_ent (by decide +kernel) (Nat.le_of_ble_eq_true rfl) ⟨rfl, rfl, trivial⟩ ?_
  have hu : ww_up x ar M (q_S M x ar) M := ww_up_rf
  have h6 := hG.2.1
  refine ww_aload_n (i := 0) dX7_bars_0 rfl rfl ?_
  refine ww_aload_n (i := 0) dX7_bars_1 rfl rfl ?_
  refine ww_iload_n (i := 1) dX7_bars_2 rfl rfl ?_
  refine ww_iconst (v := 0) dX7_bars_3 (by decide) ?_
  refine ww_callV (κ := 8) (r := (RX7, TX7, 33)) wk_X7_148 dX7_bars_4 (u_kind_2 hM hu hG hp hc) rfl rfl (show ww_is _ _ 8 from (ww_up_mo hM hu).1).1 (show ww_is _ _ 8 from (ww_up_mo hM hu).1).2 rfl rfl (by omega) (by omega) (by omega) (by first | exact Nat.le_of_ble_eq_true rfl | (simp [ww_rf_cat, Value.category])) rfl (fun E M9 h9 => h9.elim) (fun v9 M9 h9 => ?_)
  obtain ⟨rfl, rfl⟩ := h9
  refine ww_pputI (k := 0) hM hu dX7_bars_7 wf_X7_98 wt_8_0 rfl rfl rfl rfl (fun M1 hu => ?_)
  refine ww_aload_n (i := 0) dX7_bars_10 rfl rfl ?_
  refine ww_pgetI (k := 0) hM hu dX7_bars_11 wf_X7_98 rfl rfl (q_us_s) ?_
  refine ww_if_le_f (tgt := 21) dX7_bars_14 (by decide) (by decide) ?_
  refine ww_iconst (v := 0) dX7_bars_17 (by decide) ?_
  refine ww_goto (tgt := 29) dX7_bars_18 (by decide) ?_
  exact ww_ireturn dX7_bars_29 rfl (by first | rfl | exact ww_b_nar) ⟨rfl, hu⟩
set_option maxRecDepth 20000 in
set_option maxHeartbeats 4000000 in
theorem m_bars_0 (hM : ww_mo x ar M.1 M.2.2.1) (hG : q_G (q_S M x ar) n) {p : Nat} (hp : p < n) (hc : (q_S M x ar) 2 p = 0) : ww_C g wy_X7_bars 5 0 0 [.ref x, .int (nI p)] M (ww_ru x ar M (some (.int (nI (q_code (q_bar (q_S M x ar) n p 7 1)) / 100))) (q_us (q_S M x ar) 0 0)) ww_no := by
  refine ww_ent (by decide +kernel) (Nat.le_of_ble_eq_true rfl) ⟨rfl, rfl, trivial⟩ ?_
  have hu : ww_up x ar M (q_S M x ar) M := ww_up_rf
  have h6 := hG.2.1
  have ht0 := q_top hG hp hc
  have hbo : ∀ M1, ww_up x ar M (q_us (q_S M x ar) 0 0) M1 → ww_C g wy_X7_barOf 4 0 0 [.ref x, .int (nI p)] M1 (ww_ret (some (.int (nI (q_code (q_bar (q_S M x ar) n p 7 1))))) M1) ww_no := fun M1 hu => by
    rw [← q_bar_us (c := 0)]
    exact u_barOf hM hu (q_G_c hG) hp ht0
  refine ww_aload_n (i := 0) dX7_bars_0 rfl rfl ?_
  refine ww_aload_n (i := 0) dX7_bars_1 rfl rfl ?_
  refine ww_iload_n (i := 1) dX7_bars_2 rfl rfl ?_
  refine ww_iconst (v := 0) dX7_bars_3 (by decide) ?_
  refine ww_callV (κ := 8) (r := (RX7, TX7, 33)) wk_X7_148 dX7_bars_4 (u_kind_0 hM hu hG hp hc) rfl rfl (show ww_is _ _ 8 from (ww_up_mo hM hu).1).1 (show ww_is _ _ 8 from (ww_up_mo hM hu).1).2 rfl rfl (by omega) (by omega) (by omega) (by first | exact Nat.le_of_ble_eq_true rfl | (simp [ww_rf_cat, Value.category])) rfl (fun E M9 h9 => h9.elim) (fun v9 M9 h9 => ?_)
  obtain ⟨rfl, rfl⟩ := h9
  refine ww_pputI (k := 0) hM hu dX7_bars_7 wf_X7_98 wt_8_0 rfl rfl rfl rfl (fun M1 hu => ?_)
  refine ww_aload_n (i := 0) dX7_bars_10 rfl rfl ?_
  refine ww_pgetI (k := 0) hM hu dX7_bars_11 wf_X7_98 rfl rfl (q_us_s) ?_
  refine ww_if_le_t (tgt := 21) dX7_bars_14 (by decide) (by decide) ?_
  refine ww_aload_n (i := 0) dX7_bars_21 rfl rfl ?_
  refine ww_iload_n (i := 1) dX7_bars_22 rfl rfl ?_
  refine ww_callV (κ := 8) (r := (RX7, TX7, 33)) wk_X7_186 dX7_bars_23 (hbo M1 hu) rfl rfl (show ww_is _ _ 8 from (ww_up_mo hM hu).1).1 (show ww_is _ _ 8 from (ww_up_mo hM hu).1).2 rfl rfl (by omega) (by omega) (by omega) (by first | exact Nat.le_of_ble_eq_true rfl | (simp [ww_rf_cat, Value.category])) rfl (fun E M9 h9 => h9.elim) (fun v9 M9 h9 => ?_)
  obtain ⟨rfl, rfl⟩ := h9
  refine ww_bipush (v := 100) dX7_bars_26 (by decide) ?_
  refine ww_idiv dX7_bars_28 (by decide) ?_
  exact ww_ireturn dX7_bars_29 rfl (by first | rfl | exact ww_b_nar) ⟨rfl, hu⟩
set_option maxRecDepth 20000 in
set_option maxHeartbeats 4000000 in
theorem m_barredBy_1 (hM : ww_mo x ar M.1 M.2.2.1) (hG : q_G (q_S M x ar) n) {p : Int32} (hc : q_noP n p) : ww_C g wy_X7_barredBy 5 0 0 [.ref x, .int p] M (ww_ru x ar M (some (.int 0)) (q_us (q_S M x ar) 0 1)) ww_no := by
  refine ww_ent (by decide +kernel) (Nat.le_of_ble_eq_true rfl) ⟨rfl, rfl, trivial⟩ ?_
  have hu : ww_up x ar M (q_S M x ar) M := ww_up_rf
  refine ww_aload_n (i := 0) dX7_barredBy_0 rfl rfl ?_
  refine ww_aload_n (i := 0) dX7_barredBy_1 rfl rfl ?_
  refine ww_iload_n (i := 1) dX7_barredBy_2 rfl rfl ?_
  refine ww_iconst (v := 0) dX7_barredBy_3 (by decide) ?_
  refine ww_callV (κ := 8) (r := (RX7, TX7, 33)) wk_X7_148 dX7_barredBy_4 (u_kind_1 hM hu hG 0 hc) rfl rfl (show ww_is _ _ 8 from (ww_up_mo hM hu).1).1 (show ww_is _ _ 8 from (ww_up_mo hM hu).1).2 rfl rfl (by omega) (by omega) (by omega) (by first | exact Nat.le_of_ble_eq_true rfl | (simp [ww_rf_cat, Value.category])) rfl (fun E M9 h9 => h9.elim) (fun v9 M9 h9 => ?_)
  obtain ⟨rfl, rfl⟩ := h9
  refine ww_pputI (k := 0) hM hu dX7_barredBy_7 wf_X7_98 wt_8_0 rfl rfl rfl rfl (fun M1 hu => ?_)
  refine ww_aload_n (i := 0) dX7_barredBy_10 rfl rfl ?_
  refine ww_pgetI (k := 0) hM hu dX7_barredBy_11 wf_X7_98 rfl rfl (q_us_s) ?_
  refine ww_if_le_f (tgt := 19) dX7_barredBy_14 (by decide) (by decide) ?_
  refine ww_iconst (v := 0) dX7_barredBy_17 (by decide) ?_
  exact ww_ireturn dX7_barredBy_18 rfl (by first | rfl | exact ww_b_nar) ⟨rfl, hu⟩
set_option maxRecDepth 20000 in
set_option maxHeartbeats 4000000 in
theorem m_barredBy_2 (hM : ww_mo x ar M.1 M.2.2.1) (hG : q_G (q_S M x ar) n) {p : Nat} (hp : p < n) (hc : ¬ (q_S M x ar) 2 p = 0) : ww_C g wy_X7_barredBy 5 0 0 [.ref x, .int (nI p)] M (ww_ru x ar M (some (.int 0)) (q_us (q_S M x ar) 0 2)) ww_no := by
  refine ww_ent (by decide +kernel) (Nat.le_of_ble_eq_true rfl) ⟨rfl, rfl, trivial⟩ ?_
  have hu : ww_up x ar M (q_S M x ar) M := ww_up_rf
  have h6 := hG.2.1
  refine ww_aload_n (i := 0) dX7_barredBy_0 rfl rfl ?_
  refine ww_aload_n (i := 0) dX7_barredBy_1 rfl rfl ?_
  refine ww_iload_n (i := 1) dX7_barredBy_2 rfl rfl ?_
  refine ww_iconst (v := 0) dX7_barredBy_3 (by decide) ?_
  refine ww_callV (κ := 8) (r := (RX7, TX7, 33)) wk_X7_148 dX7_barredBy_4 (u_kind_2 hM hu hG hp hc) rfl rfl (show ww_is _ _ 8 from (ww_up_mo hM hu).1).1 (show ww_is _ _ 8 from (ww_up_mo hM hu).1).2 rfl rfl (by omega) (by omega) (by omega) (by first | exact Nat.le_of_ble_eq_true rfl | (simp [ww_rf_cat, Value.category])) rfl (fun E M9 h9 => h9.elim) (fun v9 M9 h9 => ?_)
  obtain ⟨rfl, rfl⟩ := h9
  refine ww_pputI (k := 0) hM hu dX7_barredBy_7 wf_X7_98 wt_8_0 rfl rfl rfl rfl (fun M1 hu => ?_)
  refine ww_aload_n (i := 0) dX7_barredBy_10 rfl rfl ?_
  refine ww_pgetI (k := 0) hM hu dX7_barredBy_11 wf_X7_98 rfl rfl (q_us_s) ?_
  refine ww_if_le_f (tgt := 19) dX7_barredBy_14 (by decide) (by decide) ?_
  refine ww_iconst (v := 0) dX7_barredBy_17 (by decide) ?_
  exact ww_ireturn dX7_barredBy_18 rfl (by first | rfl | exact ww_b_nar) ⟨rfl, hu⟩
set_option maxRecDepth 20000 in
set_option maxHeartbeats 4000000 in
theorem m_barredBy_0 (hM : ww_mo x ar M.1 M.2.2.1) (hG : q_G (q_S M x ar) n) {p : Nat} (hp : p < n) (hc : (q_S M x ar) 2 p = 0) : ww_C g wy_X7_barredBy 5 0 0 [.ref x, .int (nI p)] M (ww_ru x ar M (some (.int (if nI (q_code (q_bar (q_S M x ar) n p 7 1)) = 0 then -1 else nI (q_code (q_bar (q_S M x ar) n p 7 1)) - nI (q_code (q_bar (q_S M x ar) n p 7 1)) / 100 * 100))) (q_us (q_S M x ar) 0 0)) ww_no := by
  refine ww_ent (by decide +kernel) (Nat.le_of_ble_eq_true rfl) ⟨rfl, rfl, trivial⟩ ?_
  have hu : ww_up x ar M (q_S M x ar) M := ww_up_rf
  have h6 := hG.2.1
  have ht0 := q_top hG hp hc
  have hbo : ∀ M1, ww_up x ar M (q_us (q_S M x ar) 0 0) M1 → ww_C g wy_X7_barOf 4 0 0 [.ref x, .int (nI p)] M1 (ww_ret (some (.int (nI (q_code (q_bar (q_S M x ar) n p 7 1))))) M1) ww_no := fun M1 hu => by
    rw [← q_bar_us (c := 0)]
    exact u_barOf hM hu (q_G_c hG) hp ht0
  by_cases c1 : nI (q_code (q_bar (q_S M x ar) n p 7 1)) = 0
  · rw [if_pos c1]
    refine ww_aload_n (i := 0) dX7_barredBy_0 rfl rfl ?_
    refine ww_aload_n (i := 0) dX7_barredBy_1 rfl rfl ?_
    refine ww_iload_n (i := 1) dX7_barredBy_2 rfl rfl ?_
    refine ww_iconst (v := 0) dX7_barredBy_3 (by decide) ?_
    refine ww_callV (κ := 8) (r := (RX7, TX7, 33)) wk_X7_148 dX7_barredBy_4 (u_kind_0 hM hu hG hp hc) rfl rfl (show ww_is _ _ 8 from (ww_up_mo hM hu).1).1 (show ww_is _ _ 8 from (ww_up_mo hM hu).1).2 rfl rfl (by omega) (by omega) (by omega) (by first | exact Nat.le_of_ble_eq_true rfl | (simp [ww_rf_cat, Value.category])) rfl (fun E M9 h9 => h9.elim) (fun v9 M9 h9 => ?_)
    obtain ⟨rfl, rfl⟩ := h9
    refine ww_pputI (k := 0) hM hu dX7_barredBy_7 wf_X7_98 wt_8_0 rfl rfl rfl rfl (fun M1 hu => ?_)
    refine ww_aload_n (i := 0) dX7_barredBy_10 rfl rfl ?_
    refine ww_pgetI (k := 0) hM hu dX7_barredBy_11 wf_X7_98 rfl rfl (q_us_s) ?_
    refine ww_if_le_t (tgt := 19) dX7_barredBy_14 (by decide) (by decide) ?_
    refine ww_aload_n (i := 0) dX7_barredBy_19 rfl rfl ?_
    refine ww_iload_n (i := 1) dX7_barredBy_20 rfl rfl ?_
    refine ww_callV (κ := 8) (r := (RX7, TX7, 33)) wk_X7_186 dX7_barredBy_21 (hbo M1 hu) rfl rfl (show ww_is _ _ 8 from (ww_up_mo hM hu).1).1 (show ww_is _ _ 8 from (ww_up_mo hM hu).1).2 rfl rfl (by omega) (by omega) (by omega) (by first | exact Nat.le_of_ble_eq_true rfl | (simp [ww_rf_cat, Value.category])) rfl (fun E M9 h9 => h9.elim) (fun v9 M9 h9 => ?_)
    obtain ⟨rfl, rfl⟩ := h9
    refine ww_istore_n (i := 2) (lv2 := [(0, _), (1, _), (2, _)]) dX7_barredBy_24 rfl (Nat.le_of_ble_eq_true rfl) rfl ?_
    refine ww_iload_n (i := 2) dX7_barredBy_25 rfl rfl ?_
    refine ww_if_ne_f (tgt := 33) dX7_barredBy_26 (by decide) c1 ?_
    refine ww_iconst (v := (-1)) dX7_barredBy_29 (by decide) ?_
    refine ww_goto (tgt := 37) dX7_barredBy_30 (by decide) ?_
    exact ww_ireturn dX7_barredBy_37 rfl (by first | rfl | exact ww_b_nar) ⟨rfl, hu⟩
  · rw [if_neg c1]
    refine ww_aload_n (i := 0) dX7_barredBy_0 rfl rfl ?_
    refine ww_aload_n (i := 0) dX7_barredBy_1 rfl rfl ?_
    refine ww_iload_n (i := 1) dX7_barredBy_2 rfl rfl ?_
    refine ww_iconst (v := 0) dX7_barredBy_3 (by decide) ?_
    refine ww_callV (κ := 8) (r := (RX7, TX7, 33)) wk_X7_148 dX7_barredBy_4 (u_kind_0 hM hu hG hp hc) rfl rfl (show ww_is _ _ 8 from (ww_up_mo hM hu).1).1 (show ww_is _ _ 8 from (ww_up_mo hM hu).1).2 rfl rfl (by omega) (by omega) (by omega) (by first | exact Nat.le_of_ble_eq_true rfl | (simp [ww_rf_cat, Value.category])) rfl (fun E M9 h9 => h9.elim) (fun v9 M9 h9 => ?_)
    obtain ⟨rfl, rfl⟩ := h9
    refine ww_pputI (k := 0) hM hu dX7_barredBy_7 wf_X7_98 wt_8_0 rfl rfl rfl rfl (fun M1 hu => ?_)
    refine ww_aload_n (i := 0) dX7_barredBy_10 rfl rfl ?_
    refine ww_pgetI (k := 0) hM hu dX7_barredBy_11 wf_X7_98 rfl rfl (q_us_s) ?_
    refine ww_if_le_t (tgt := 19) dX7_barredBy_14 (by decide) (by decide) ?_
    refine ww_aload_n (i := 0) dX7_barredBy_19 rfl rfl ?_
    refine ww_iload_n (i := 1) dX7_barredBy_20 rfl rfl ?_
    refine ww_callV (κ := 8) (r := (RX7, TX7, 33)) wk_X7_186 dX7_barredBy_21 (hbo M1 hu) rfl rfl (show ww_is _ _ 8 from (ww_up_mo hM hu).1).1 (show ww_is _ _ 8 from (ww_up_mo hM hu).1).2 rfl rfl (by omega) (by omega) (by omega) (by first | exact Nat.le_of_ble_eq_true rfl | (simp [ww_rf_cat, Value.category])) rfl (fun E M9 h9 => h9.elim) (fun v9 M9 h9 => ?_)
    obtain ⟨rfl, rfl⟩ := h9
    refine ww_istore_n (i := 2) (lv2 := [(0, _), (1, _), (2, _)]) dX7_barredBy_24 rfl (Nat.le_of_ble_eq_true rfl) rfl ?_
    refine ww_iload_n (i := 2) dX7_barredBy_25 rfl rfl ?_
    refine ww_if_ne_t (tgt := 33) dX7_barredBy_26 (by decide) c1 ?_
    refine ww_iload_n (i := 2) dX7_barredBy_33 rfl rfl ?_
    refine ww_bipush (v := 100) dX7_barredBy_34 (by decide) ?_
    refine ww_irem dX7_barredBy_36 (by decide) ?_
    exact ww_ireturn dX7_barredBy_37 rfl (by first | rfl | exact ww_b_nar) ⟨rfl, hu⟩
set_option maxRecDepth 20000 in
set_option maxHeartbeats 4000000 in
theorem m_isReleased_1 (hM : ww_mo x ar M.1 M.2.2.1) (hG : q_G (q_S M x ar) n) {p : Int32} (hc : q_noP n p) : ww_C g wy_X7_isReleased 4 0 0 [.ref x, .int p] M (ww_ru x ar M (some (.int 0)) (q_us (q_S M x ar) 0 1)) ww_no := by
  refine ww_ent (by decide +kernel) (Nat.le_of_ble_eq_true rfl) ⟨rfl, rfl, trivial⟩ ?_
  have hu : ww_up x ar M (q_S M x ar) M := ww_up_rf
  refine ww_aload_n (i := 0) dX7_isReleased_0 rfl rfl ?_
  refine ww_aload_n (i := 0) dX7_isReleased_1 rfl rfl ?_
  refine ww_iload_n (i := 1) dX7_isReleased_2 rfl rfl ?_
  refine ww_iconst (v := 0) dX7_isReleased_3 (by decide) ?_
  refine ww_callV (κ := 8) (r := (RX7, TX7, 33)) wk_X7_148 dX7_isReleased_4 (u_kind_1 hM hu hG 0 hc) rfl rfl (show ww_is _ _ 8 from (ww_up_mo hM hu).1).1 (show ww_is _ _ 8 from (ww_up_mo hM hu).1).2 rfl rfl (by omega) (by omega) (by omega) (by first | exact Nat.le_of_ble_eq_true rfl | (simp [ww_rf_cat, Value.category])) rfl (fun E M9 h9 => h9.elim) (fun v9 M9 h9 => ?_)
  obtain ⟨rfl, rfl⟩ := h9
  refine ww_pputI (k := 0) hM hu dX7_isReleased_7 wf_X7_98 wt_8_0 rfl rfl rfl rfl (fun M1 hu => ?_)
  refine ww_aload_n (i := 0) dX7_isReleased_10 rfl rfl ?_
  refine ww_pgetI (k := 0) hM hu dX7_isReleased_11 wf_X7_98 rfl rfl (q_us_s) ?_
  refine ww_if_ne_t (tgt := 30) dX7_isReleased_14 (by decide) (by decide) ?_
  refine ww_iconst (v := 0) dX7_isReleased_30 (by decide) ?_
  exact ww_ireturn dX7_isReleased_31 rfl (by first | rfl | exact ww_b_nar) ⟨rfl, hu⟩
set_option maxRecDepth 20000 in
set_option maxHeartbeats 4000000 in
theorem m_isReleased_2 (hM : ww_mo x ar M.1 M.2.2.1) (hG : q_G (q_S M x ar) n) {p : Nat} (hp : p < n) (hc : ¬ (q_S M x ar) 2 p = 0) : ww_C g wy_X7_isReleased 4 0 0 [.ref x, .int (nI p)] M (ww_ru x ar M (some (.int 0)) (q_us (q_S M x ar) 0 2)) ww_no := by
  refine ww_ent (by decide +kernel) (Nat.le_of_ble_eq_true rfl) ⟨rfl, rfl, trivial⟩ ?_
  have hu : ww_up x ar M (q_S M x ar) M := ww_up_rf
  have h6 := hG.2.1
  refine ww_aload_n (i := 0) dX7_isReleased_0 rfl rfl ?_
  refine ww_aload_n (i := 0) dX7_isReleased_1 rfl rfl ?_
  refine ww_iload_n (i := 1) dX7_isReleased_2 rfl rfl ?_
  refine ww_iconst (v := 0) dX7_isReleased_3 (by decide) ?_
  refine ww_callV (κ := 8) (r := (RX7, TX7, 33)) wk_X7_148 dX7_isReleased_4 (u_kind_2 hM hu hG hp hc) rfl rfl (show ww_is _ _ 8 from (ww_up_mo hM hu).1).1 (show ww_is _ _ 8 from (ww_up_mo hM hu).1).2 rfl rfl (by omega) (by omega) (by omega) (by first | exact Nat.le_of_ble_eq_true rfl | (simp [ww_rf_cat, Value.category])) rfl (fun E M9 h9 => h9.elim) (fun v9 M9 h9 => ?_)
  obtain ⟨rfl, rfl⟩ := h9
  refine ww_pputI (k := 0) hM hu dX7_isReleased_7 wf_X7_98 wt_8_0 rfl rfl rfl rfl (fun M1 hu => ?_)
  refine ww_aload_n (i := 0) dX7_isReleased_10 rfl rfl ?_
  refine ww_pgetI (k := 0) hM hu dX7_isReleased_11 wf_X7_98 rfl rfl (q_us_s) ?_
  refine ww_if_ne_t (tgt := 30) dX7_isReleased_14 (by decide) (by decide) ?_
  refine ww_iconst (v := 0) dX7_isReleased_30 (by decide) ?_
  exact ww_ireturn dX7_isReleased_31 rfl (by first | rfl | exact ww_b_nar) ⟨rfl, hu⟩
set_option maxRecDepth 20000 in
set_option maxHeartbeats 4000000 in
theorem m_isReleased_0 (hM : ww_mo x ar M.1 M.2.2.1) (hG : q_G (q_S M x ar) n) {p : Nat} (hp : p < n) (hc : (q_S M x ar) 2 p = 0) : ww_C g wy_X7_isReleased 4 0 0 [.ref x, .int (nI p)] M (ww_ru x ar M (some (.int ((q_S M x ar) 11 p))) (q_us (q_S M x ar) 0 0)) ww_no := by
  refine ww_ent (by decide +kernel) (Nat.le_of_ble_eq_true rfl) ⟨rfl, rfl, trivial⟩ ?_
  have hu : ww_up x ar M (q_S M x ar) M := ww_up_rf
  have h6 := hG.2.1
  by_cases c1 : (q_S M x ar) 11 p = 0
  · rw [c1]
    refine ww_aload_n (i := 0) dX7_isReleased_0 rfl rfl ?_
    refine ww_aload_n (i := 0) dX7_isReleased_1 rfl rfl ?_
    refine ww_iload_n (i := 1) dX7_isReleased_2 rfl rfl ?_
    refine ww_iconst (v := 0) dX7_isReleased_3 (by decide) ?_
    refine ww_callV (κ := 8) (r := (RX7, TX7, 33)) wk_X7_148 dX7_isReleased_4 (u_kind_0 hM hu hG hp hc) rfl rfl (show ww_is _ _ 8 from (ww_up_mo hM hu).1).1 (show ww_is _ _ 8 from (ww_up_mo hM hu).1).2 rfl rfl (by omega) (by omega) (by omega) (by first | exact Nat.le_of_ble_eq_true rfl | (simp [ww_rf_cat, Value.category])) rfl (fun E M9 h9 => h9.elim) (fun v9 M9 h9 => ?_)
    obtain ⟨rfl, rfl⟩ := h9
    refine ww_pputI (k := 0) hM hu dX7_isReleased_7 wf_X7_98 wt_8_0 rfl rfl rfl rfl (fun M1 hu => ?_)
    refine ww_aload_n (i := 0) dX7_isReleased_10 rfl rfl ?_
    refine ww_pgetI (k := 0) hM hu dX7_isReleased_11 wf_X7_98 rfl rfl (q_us_s) ?_
    refine ww_if_ne_f (tgt := 30) dX7_isReleased_14 (by decide) (by decide) ?_
    refine ww_aload_n (i := 0) dX7_isReleased_17 rfl rfl ?_
    refine ww_getR (f := 331) wf_X7_38 dX7_isReleased_18 rfl rfl (ww_up_mo hM hu).1.1 (ww_up_mo hM hu).1.2 ((ww_up_mo hM hu).2.1 11 rfl) ?_
    refine ww_iload_n (i := 1) dX7_isReleased_21 rfl rfl ?_
    refine ww_pzld (k := 11) hM hu dX7_isReleased_22 rfl rfl rfl (show _ < 60 by omega) ((q_us_n (by decide)).trans (rfl)) ?_
    refine ww_if_eq_t (tgt := 30) dX7_isReleased_23 (by decide) c1 ?_
    refine ww_iconst (v := 0) dX7_isReleased_30 (by decide) ?_
    exact ww_ireturn dX7_isReleased_31 rfl (by first | rfl | exact ww_b_nar) ⟨rfl, hu⟩
  · rw [(hG.2.2.2.2.2.1 p).resolve_left c1]
    refine ww_aload_n (i := 0) dX7_isReleased_0 rfl rfl ?_
    refine ww_aload_n (i := 0) dX7_isReleased_1 rfl rfl ?_
    refine ww_iload_n (i := 1) dX7_isReleased_2 rfl rfl ?_
    refine ww_iconst (v := 0) dX7_isReleased_3 (by decide) ?_
    refine ww_callV (κ := 8) (r := (RX7, TX7, 33)) wk_X7_148 dX7_isReleased_4 (u_kind_0 hM hu hG hp hc) rfl rfl (show ww_is _ _ 8 from (ww_up_mo hM hu).1).1 (show ww_is _ _ 8 from (ww_up_mo hM hu).1).2 rfl rfl (by omega) (by omega) (by omega) (by first | exact Nat.le_of_ble_eq_true rfl | (simp [ww_rf_cat, Value.category])) rfl (fun E M9 h9 => h9.elim) (fun v9 M9 h9 => ?_)
    obtain ⟨rfl, rfl⟩ := h9
    refine ww_pputI (k := 0) hM hu dX7_isReleased_7 wf_X7_98 wt_8_0 rfl rfl rfl rfl (fun M1 hu => ?_)
    refine ww_aload_n (i := 0) dX7_isReleased_10 rfl rfl ?_
    refine ww_pgetI (k := 0) hM hu dX7_isReleased_11 wf_X7_98 rfl rfl (q_us_s) ?_
    refine ww_if_ne_f (tgt := 30) dX7_isReleased_14 (by decide) (by decide) ?_
    refine ww_aload_n (i := 0) dX7_isReleased_17 rfl rfl ?_
    refine ww_getR (f := 331) wf_X7_38 dX7_isReleased_18 rfl rfl (ww_up_mo hM hu).1.1 (ww_up_mo hM hu).1.2 ((ww_up_mo hM hu).2.1 11 rfl) ?_
    refine ww_iload_n (i := 1) dX7_isReleased_21 rfl rfl ?_
    refine ww_pzld (k := 11) hM hu dX7_isReleased_22 rfl rfl rfl (show _ < 60 by omega) ((q_us_n (by decide)).trans (rfl)) ?_
    refine ww_if_eq_f (tgt := 30) dX7_isReleased_23 (by decide) c1 ?_
    refine ww_iconst (v := 1) dX7_isReleased_26 (by decide) ?_
    refine ww_goto (tgt := 31) dX7_isReleased_27 (by decide) ?_
    exact ww_ireturn dX7_isReleased_31 rfl (by first | rfl | exact ww_b_nar) ⟨rfl, hu⟩
/-! gate -/
set_option maxRecDepth 20000 in
set_option maxHeartbeats 4000000 in
theorem m_gate_1 (hM : ww_mo x ar M.1 M.2.2.1) (hG : q_G (q_S M x ar) n) {p : Int32} (v : Int32) (hc : q_noP n p) : ww_C g wy_X7_gate 4 0 0 [.ref x, .int p, .int v] M (ww_ru x ar M (some (.int 0)) (q_us (q_S M x ar) 0 1)) ww_no := by
  refine ww_ent (by decide +kernel) (Nat.le_of_ble_eq_true rfl) ⟨rfl, rfl, rfl, trivial⟩ ?_
  have hu : ww_up x ar M (q_S M x ar) M := ww_up_rf
  refine ww_aload_n (i := 0) dX7_gate_0 rfl rfl ?_
  refine ww_aload_n (i := 0) dX7_gate_1 rfl rfl ?_
  refine ww_iload_n (i := 1) dX7_gate_2 rfl rfl ?_
  refine ww_iconst (v := 3) dX7_gate_3 (by decide) ?_
  refine ww_callV (κ := 8) (r := (RX7, TX7, 33)) wk_X7_148 dX7_gate_4 (u_kind_1 hM hu hG 3 hc) rfl rfl (show ww_is _ _ 8 from (ww_up_mo hM hu).1).1 (show ww_is _ _ 8 from (ww_up_mo hM hu).1).2 rfl rfl (by omega) (by omega) (by omega) (by first | exact Nat.le_of_ble_eq_true rfl | (simp [ww_rf_cat, Value.category])) rfl (fun E M9 h9 => h9.elim) (fun v9 M9 h9 => ?_)
  obtain ⟨rfl, rfl⟩ := h9
  refine ww_pputI (k := 0) hM hu dX7_gate_7 wf_X7_98 wt_8_0 rfl rfl rfl rfl (fun M1 hu => ?_)
  refine ww_aload_n (i := 0) dX7_gate_10 rfl rfl ?_
  refine ww_aload_n (i := 0) dX7_gate_11 rfl rfl ?_
  refine ww_pgetI (k := 0) hM hu dX7_gate_12 wf_X7_98 rfl rfl (q_us_s) ?_
  refine ww_if_ne_t (tgt := 32) dX7_gate_15 (by decide) (by decide) ?_
  refine ww_aload_n (i := 0) dX7_gate_32 rfl rfl ?_
  refine ww_pgetI (k := 0) hM hu dX7_gate_33 wf_X7_98 rfl rfl (q_us_s) ?_
  refine ww_pputI (k := 0) hM hu dX7_gate_36 wf_X7_98 wt_8_0 rfl rfl rfl rfl (fun M1 hu => ?_)
  refine ww_aload_n (i := 0) dX7_gate_39 rfl rfl ?_
  refine ww_pgetI (k := 0) hM hu dX7_gate_40 wf_X7_98 rfl rfl (q_us_s) ?_
  refine ww_if_le_f (tgt := 48) dX7_gate_43 (by decide) (by decide) ?_
  refine ww_iconst (v := 0) dX7_gate_46 (by decide) ?_
  exact ww_ireturn dX7_gate_47 rfl (by first | rfl | exact ww_b_nar) ⟨rfl, ww_up_cg hu q_us_us⟩
set_option maxRecDepth 20000 in
set_option maxHeartbeats 4000000 in
theorem m_gate_2 (hM : ww_mo x ar M.1 M.2.2.1) (hG : q_G (q_S M x ar) n) {p : Nat} {v : Int32} (hp : p < n) (hc : ¬ ((q_S M x ar) 2 p = 3 ∧ q_rg (-5) 5 v)) : ww_C g wy_X7_gate 4 0 0 [.ref x, .int (nI p), .int v] M (ww_ru x ar M (some (.int 0)) (q_us (q_S M x ar) 0 2)) ww_no := by
  refine ww_ent (by decide +kernel) (Nat.le_of_ble_eq_true rfl) ⟨rfl, rfl, rfl, trivial⟩ ?_
  have hu : ww_up x ar M (q_S M x ar) M := ww_up_rf
  have h6 := hG.2.1
  by_cases c1 : (q_S M x ar) 2 p = 3
  · have c2 : ¬ q_rg (-5) 5 v := fun z => hc ⟨c1, z⟩
    refine ww_aload_n (i := 0) dX7_gate_0 rfl rfl ?_
    refine ww_aload_n (i := 0) dX7_gate_1 rfl rfl ?_
    refine ww_iload_n (i := 1) dX7_gate_2 rfl rfl ?_
    refine ww_iconst (v := 3) dX7_gate_3 (by decide) ?_
    refine ww_callV (κ := 8) (r := (RX7, TX7, 33)) wk_X7_148 dX7_gate_4 (u_kind_0 hM hu hG hp c1) rfl rfl (show ww_is _ _ 8 from (ww_up_mo hM hu).1).1 (show ww_is _ _ 8 from (ww_up_mo hM hu).1).2 rfl rfl (by omega) (by omega) (by omega) (by first | exact Nat.le_of_ble_eq_true rfl | (simp [ww_rf_cat, Value.category])) rfl (fun E M9 h9 => h9.elim) (fun v9 M9 h9 => ?_)
    obtain ⟨rfl, rfl⟩ := h9
    refine ww_pputI (k := 0) hM hu dX7_gate_7 wf_X7_98 wt_8_0 rfl rfl rfl rfl (fun M1 hu => ?_)
    refine ww_aload_n (i := 0) dX7_gate_10 rfl rfl ?_
    refine ww_aload_n (i := 0) dX7_gate_11 rfl rfl ?_
    refine ww_pgetI (k := 0) hM hu dX7_gate_12 wf_X7_98 rfl rfl (q_us_s) ?_
    refine ww_if_ne_f (tgt := 32) dX7_gate_15 (by decide) (by decide) ?_
    refine ww_iload_n (i := 2) dX7_gate_18 rfl rfl ?_
    refine ww_bipush (v := (-5)) dX7_gate_19 (by decide) ?_
    refine ww_iconst (v := 5) dX7_gate_21 (by decide) ?_
    refine ww_callS wk_X7_105 rfl dX7_gate_22 (m_in_f c2) rfl rfl (by omega) (by omega) (by omega) (by first | exact Nat.le_of_ble_eq_true rfl | (simp [ww_rf_cat, Value.category])) rfl (fun E M9 h9 => h9.elim) (fun v9 M9 h9 => ?_)
    obtain ⟨rfl, rfl⟩ := h9
    refine ww_if_ne_f (tgt := 32) dX7_gate_25 (by decide) (by decide) ?_
    refine ww_iconst (v := 2) dX7_gate_28 (by decide) ?_
    refine ww_goto (tgt := 36) dX7_gate_29 (by decide) ?_
    refine ww_pputI (k := 0) hM hu dX7_gate_36 wf_X7_98 wt_8_0 rfl rfl rfl rfl (fun M1 hu => ?_)
    refine ww_aload_n (i := 0) dX7_gate_39 rfl rfl ?_
    refine ww_pgetI (k := 0) hM hu dX7_gate_40 wf_X7_98 rfl rfl (q_us_s) ?_
    refine ww_if_le_f (tgt := 48) dX7_gate_43 (by decide) (by decide) ?_
    refine ww_iconst (v := 0) dX7_gate_46 (by decide) ?_
    exact ww_ireturn dX7_gate_47 rfl (by first | rfl | exact ww_b_nar) ⟨rfl, ww_up_cg hu q_us_us⟩
  · refine ww_aload_n (i := 0) dX7_gate_0 rfl rfl ?_
    refine ww_aload_n (i := 0) dX7_gate_1 rfl rfl ?_
    refine ww_iload_n (i := 1) dX7_gate_2 rfl rfl ?_
    refine ww_iconst (v := 3) dX7_gate_3 (by decide) ?_
    refine ww_callV (κ := 8) (r := (RX7, TX7, 33)) wk_X7_148 dX7_gate_4 (u_kind_2 hM hu hG hp c1) rfl rfl (show ww_is _ _ 8 from (ww_up_mo hM hu).1).1 (show ww_is _ _ 8 from (ww_up_mo hM hu).1).2 rfl rfl (by omega) (by omega) (by omega) (by first | exact Nat.le_of_ble_eq_true rfl | (simp [ww_rf_cat, Value.category])) rfl (fun E M9 h9 => h9.elim) (fun v9 M9 h9 => ?_)
    obtain ⟨rfl, rfl⟩ := h9
    refine ww_pputI (k := 0) hM hu dX7_gate_7 wf_X7_98 wt_8_0 rfl rfl rfl rfl (fun M1 hu => ?_)
    refine ww_aload_n (i := 0) dX7_gate_10 rfl rfl ?_
    refine ww_aload_n (i := 0) dX7_gate_11 rfl rfl ?_
    refine ww_pgetI (k := 0) hM hu dX7_gate_12 wf_X7_98 rfl rfl (q_us_s) ?_
    refine ww_if_ne_t (tgt := 32) dX7_gate_15 (by decide) (by decide) ?_
    refine ww_aload_n (i := 0) dX7_gate_32 rfl rfl ?_
    refine ww_pgetI (k := 0) hM hu dX7_gate_33 wf_X7_98 rfl rfl (q_us_s) ?_
    refine ww_pputI (k := 0) hM hu dX7_gate_36 wf_X7_98 wt_8_0 rfl rfl rfl rfl (fun M1 hu => ?_)
    refine ww_aload_n (i := 0) dX7_gate_39 rfl rfl ?_
    refine ww_pgetI (k := 0) hM hu dX7_gate_40 wf_X7_98 rfl rfl (q_us_s) ?_
    refine ww_if_le_f (tgt := 48) dX7_gate_43 (by decide) (by decide) ?_
    refine ww_iconst (v := 0) dX7_gate_46 (by decide) ?_
    exact ww_ireturn dX7_gate_47 rfl (by first | rfl | exact ww_b_nar) ⟨rfl, ww_up_cg hu q_us_us⟩
set_option maxRecDepth 20000 in
set_option maxHeartbeats 4000000 in
theorem m_gate_0 (hM : ww_mo x ar M.1 M.2.2.1) (hG : q_G (q_S M x ar) n) {p : Nat} {v : Int32} (hp : p < n) (hc : (q_S M x ar) 2 p = 3 ∧ q_rg (-5) 5 v) : ww_C g wy_X7_gate 4 0 0 [.ref x, .int (nI p), .int v] M (ww_ru x ar M (some (.int ((q_S M x ar) 14 p + v))) (ww_u2 (ww_u2 (q_us (q_S M x ar) 0 0) 16 p ((q_S M x ar) 14 p + v)) 17 p 1)) ww_no := by
  refine ww_ent (by decide +kernel) (Nat.le_of_ble_eq_true rfl) ⟨rfl, rfl, rfl, trivial⟩ ?_
  have hu : ww_up x ar M (q_S M x ar) M := ww_up_rf
  have h6 := hG.2.1
  refine ww_aload_n (i := 0) dX7_gate_0 rfl rfl ?_
  refine ww_aload_n (i := 0) dX7_gate_1 rfl rfl ?_
  refine ww_iload_n (i := 1) dX7_gate_2 rfl rfl ?_
  refine ww_iconst (v := 3) dX7_gate_3 (by decide) ?_
  refine ww_callV (κ := 8) (r := (RX7, TX7, 33)) wk_X7_148 dX7_gate_4 (u_kind_0 hM hu hG hp hc.1) rfl rfl (show ww_is _ _ 8 from (ww_up_mo hM hu).1).1 (show ww_is _ _ 8 from (ww_up_mo hM hu).1).2 rfl rfl (by omega) (by omega) (by omega) (by first | exact Nat.le_of_ble_eq_true rfl | (simp [ww_rf_cat, Value.category])) rfl (fun E M9 h9 => h9.elim) (fun v9 M9 h9 => ?_)
  obtain ⟨rfl, rfl⟩ := h9
  refine ww_pputI (k := 0) hM hu dX7_gate_7 wf_X7_98 wt_8_0 rfl rfl rfl rfl (fun M1 hu => ?_)
  refine ww_aload_n (i := 0) dX7_gate_10 rfl rfl ?_
  refine ww_aload_n (i := 0) dX7_gate_11 rfl rfl ?_
  refine ww_pgetI (k := 0) hM hu dX7_gate_12 wf_X7_98 rfl rfl (q_us_s) ?_
  refine ww_if_ne_f (tgt := 32) dX7_gate_15 (by decide) (by decide) ?_
  refine ww_iload_n (i := 2) dX7_gate_18 rfl rfl ?_
  refine ww_bipush (v := (-5)) dX7_gate_19 (by decide) ?_
  refine ww_iconst (v := 5) dX7_gate_21 (by decide) ?_
  refine ww_callS wk_X7_105 rfl dX7_gate_22 (m_in_t hc.2.1 hc.2.2) rfl rfl (by omega) (by omega) (by omega) (by first | exact Nat.le_of_ble_eq_true rfl | (simp [ww_rf_cat, Value.category])) rfl (fun E M9 h9 => h9.elim) (fun v9 M9 h9 => ?_)
  obtain ⟨rfl, rfl⟩ := h9
  refine ww_if_ne_t (tgt := 32) dX7_gate_25 (by decide) (by decide) ?_
  refine ww_aload_n (i := 0) dX7_gate_32 rfl rfl ?_
  refine ww_pgetI (k := 0) hM hu dX7_gate_33 wf_X7_98 rfl rfl (q_us_s) ?_
  refine ww_pputI (k := 0) hM hu dX7_gate_36 wf_X7_98 wt_8_0 rfl rfl rfl rfl (fun M1 hu => ?_)
  refine ww_aload_n (i := 0) dX7_gate_39 rfl rfl ?_
  refine ww_pgetI (k := 0) hM hu dX7_gate_40 wf_X7_98 rfl rfl (q_us_s) ?_
  refine ww_if_le_t (tgt := 48) dX7_gate_43 (by decide) (by decide) ?_
  refine ww_aload_n (i := 0) dX7_gate_48 rfl rfl ?_
  refine ww_getR (f := 336) wf_X7_53 dX7_gate_49 rfl rfl (ww_up_mo hM hu).1.1 (ww_up_mo hM hu).1.2 ((ww_up_mo hM hu).2.1 16 rfl) ?_
  refine ww_iload_n (i := 1) dX7_gate_52 rfl rfl ?_
  refine ww_aload_n (i := 0) dX7_gate_53 rfl rfl ?_
  refine ww_getR (f := 334) wf_X7_47 dX7_gate_54 rfl rfl (ww_up_mo hM hu).1.1 (ww_up_mo hM hu).1.2 ((ww_up_mo hM hu).2.1 14 rfl) ?_
  refine ww_iload_n (i := 1) dX7_gate_57 rfl rfl ?_
  refine ww_pald (k := 14) hM hu dX7_gate_58 rfl rfl rfl (show _ < 60 by omega) ((q_us_n (by decide)).trans ((q_us_n (by decide)).trans (rfl))) ?_
  refine ww_iload_n (i := 2) dX7_gate_59 rfl rfl ?_
  refine ww_iadd dX7_gate_60 ?_
  refine ww_past (k := 16) hM hu dX7_gate_61 rfl rfl rfl (show _ < 60 by omega) (fun M1 hu => ?_)
  refine ww_aload_n (i := 0) dX7_gate_62 rfl rfl ?_
  refine ww_getR (f := 337) wf_X7_56 dX7_gate_63 rfl rfl (ww_up_mo hM hu).1.1 (ww_up_mo hM hu).1.2 ((ww_up_mo hM hu).2.1 17 rfl) ?_
  refine ww_iload_n (i := 1) dX7_gate_66 rfl rfl ?_
  refine ww_iconst (v := 1) dX7_gate_67 (by decide) ?_
  refine ww_pzst (k := 17) hM hu dX7_gate_68 rfl rfl rfl (show _ < 60 by omega) (by first | rfl | exact ww_b_vn) (fun M1 hu => ?_)
  refine ww_aload_n (i := 0) dX7_gate_69 rfl rfl ?_
  refine ww_getR (f := 336) wf_X7_53 dX7_gate_70 rfl rfl (ww_up_mo hM hu).1.1 (ww_up_mo hM hu).1.2 ((ww_up_mo hM hu).2.1 16 rfl) ?_
  refine ww_iload_n (i := 1) dX7_gate_73 rfl rfl ?_
  refine ww_pald (k := 16) hM hu dX7_gate_74 rfl rfl rfl (show _ < 60 by omega) ((ww_u2n (fun z => absurd z.1 (by decide))).trans (ww_u2s)) ?_
  exact ww_ireturn dX7_gate_75 rfl (by first | rfl | exact ww_b_nar) ⟨rfl, ww_up_cg hu (by rw [q_us_us])⟩
/-! foretell -/
set_option maxRecDepth 20000 in
set_option maxHeartbeats 4000000 in
theorem m_foretell_1 (hM : ww_mo x ar M.1 M.2.2.1) (hG : q_G (q_S M x ar) n) {p : Int32} (v s : Int32) (hc : q_noP n p) : ww_C g wy_X7_foretell 4 0 0 [.ref x, .int p, .int v, .int s] M (ww_ru x ar M (some (.int 0)) (q_us (q_S M x ar) 0 1)) ww_no := by
  refine ww_ent (by decide +kernel) (Nat.le_of_ble_eq_true rfl) ⟨rfl, rfl, rfl, rfl, trivial⟩ ?_
  have hu : ww_up x ar M (q_S M x ar) M := ww_up_rf
  refine ww_aload_n (i := 0) dX7_foretell_0 rfl rfl ?_
  refine ww_aload_n (i := 0) dX7_foretell_1 rfl rfl ?_
  refine ww_iload_n (i := 1) dX7_foretell_2 rfl rfl ?_
  refine ww_iconst (v := 3) dX7_foretell_3 (by decide) ?_
  refine ww_callV (κ := 8) (r := (RX7, TX7, 33)) wk_X7_148 dX7_foretell_4 (u_kind_1 hM hu hG 3 hc) rfl rfl (show ww_is _ _ 8 from (ww_up_mo hM hu).1).1 (show ww_is _ _ 8 from (ww_up_mo hM hu).1).2 rfl rfl (by omega) (by omega) (by omega) (by first | exact Nat.le_of_ble_eq_true rfl | (simp [ww_rf_cat, Value.category])) rfl (fun E M9 h9 => h9.elim) (fun v9 M9 h9 => ?_)
  obtain ⟨rfl, rfl⟩ := h9
  refine ww_pputI (k := 0) hM hu dX7_foretell_7 wf_X7_98 wt_8_0 rfl rfl rfl rfl (fun M1 hu => ?_)
  refine ww_aload_n (i := 0) dX7_foretell_10 rfl rfl ?_
  refine ww_aload_n (i := 0) dX7_foretell_11 rfl rfl ?_
  refine ww_pgetI (k := 0) hM hu dX7_foretell_12 wf_X7_98 rfl rfl (q_us_s) ?_
  refine ww_if_ne_t (tgt := 42) dX7_foretell_15 (by decide) (by decide) ?_
  refine ww_aload_n (i := 0) dX7_foretell_42 rfl rfl ?_
  refine ww_pgetI (k := 0) hM hu dX7_foretell_43 wf_X7_98 rfl rfl (q_us_s) ?_
  refine ww_pputI (k := 0) hM hu dX7_foretell_46 wf_X7_98 wt_8_0 rfl rfl rfl rfl (fun M1 hu => ?_)
  refine ww_aload_n (i := 0) dX7_foretell_49 rfl rfl ?_
  refine ww_pgetI (k := 0) hM hu dX7_foretell_50 wf_X7_98 rfl rfl (q_us_s) ?_
  refine ww_if_le_f (tgt := 58) dX7_foretell_53 (by decide) (by decide) ?_
  refine ww_iconst (v := 0) dX7_foretell_56 (by decide) ?_
  exact ww_ireturn dX7_foretell_57 rfl (by first | rfl | exact ww_b_nar) ⟨rfl, ww_up_cg hu q_us_us⟩
set_option maxRecDepth 20000 in
set_option maxHeartbeats 4000000 in
theorem m_foretell_2 (hM : ww_mo x ar M.1 M.2.2.1) (hG : q_G (q_S M x ar) n) {p : Nat} {v s : Int32} (hp : p < n) (hc : ¬ ((q_S M x ar) 2 p = 3 ∧ q_rg 1 2000 v ∧ q_rg 0 3 s)) : ww_C g wy_X7_foretell 4 0 0 [.ref x, .int (nI p), .int v, .int s] M (ww_ru x ar M (some (.int 0)) (q_us (q_S M x ar) 0 2)) ww_no := by
  refine ww_ent (by decide +kernel) (Nat.le_of_ble_eq_true rfl) ⟨rfl, rfl, rfl, rfl, trivial⟩ ?_
  have hu : ww_up x ar M (q_S M x ar) M := ww_up_rf
  have h6 := hG.2.1
  by_cases c1 : (q_S M x ar) 2 p = 3
  · by_cases c2 : q_rg 1 2000 v
    · have c3 : ¬ q_rg 0 3 s := fun z => hc ⟨c1, c2, z⟩
      refine ww_aload_n (i := 0) dX7_foretell_0 rfl rfl ?_
      refine ww_aload_n (i := 0) dX7_foretell_1 rfl rfl ?_
      refine ww_iload_n (i := 1) dX7_foretell_2 rfl rfl ?_
      refine ww_iconst (v := 3) dX7_foretell_3 (by decide) ?_
      refine ww_callV (κ := 8) (r := (RX7, TX7, 33)) wk_X7_148 dX7_foretell_4 (u_kind_0 hM hu hG hp c1) rfl rfl (show ww_is _ _ 8 from (ww_up_mo hM hu).1).1 (show ww_is _ _ 8 from (ww_up_mo hM hu).1).2 rfl rfl (by omega) (by omega) (by omega) (by first | exact Nat.le_of_ble_eq_true rfl | (simp [ww_rf_cat, Value.category])) rfl (fun E M9 h9 => h9.elim) (fun v9 M9 h9 => ?_)
      obtain ⟨rfl, rfl⟩ := h9
      refine ww_pputI (k := 0) hM hu dX7_foretell_7 wf_X7_98 wt_8_0 rfl rfl rfl rfl (fun M1 hu => ?_)
      refine ww_aload_n (i := 0) dX7_foretell_10 rfl rfl ?_
      refine ww_aload_n (i := 0) dX7_foretell_11 rfl rfl ?_
      refine ww_pgetI (k := 0) hM hu dX7_foretell_12 wf_X7_98 rfl rfl (q_us_s) ?_
      refine ww_if_ne_f (tgt := 42) dX7_foretell_15 (by decide) (by decide) ?_
      refine ww_iload_n (i := 2) dX7_foretell_18 rfl rfl ?_
      refine ww_iconst (v := 1) dX7_foretell_19 (by decide) ?_
      refine ww_sipush (v := 2000) dX7_foretell_20 (by decide) ?_
      refine ww_callS wk_X7_105 rfl dX7_foretell_23 (m_in_t c2.1 c2.2) rfl rfl (by omega) (by omega) (by omega) (by first | exact Nat.le_of_ble_eq_true rfl | (simp [ww_rf_cat, Value.category])) rfl (fun E M9 h9 => h9.elim) (fun v9 M9 h9 => ?_)
      obtain ⟨rfl, rfl⟩ := h9
      refine ww_if_eq_f (tgt := 38) dX7_foretell_26 (by decide) (by decide) ?_
      refine ww_iload_n (i := 3) dX7_foretell_29 rfl rfl ?_
      refine ww_iconst (v := 0) dX7_foretell_30 (by decide) ?_
      refine ww_iconst (v := 3) dX7_foretell_31 (by decide) ?_
      refine ww_callS wk_X7_105 rfl dX7_foretell_32 (m_in_f c3) rfl rfl (by omega) (by omega) (by omega) (by first | exact Nat.le_of_ble_eq_true rfl | (simp [ww_rf_cat, Value.category])) rfl (fun E M9 h9 => h9.elim) (fun v9 M9 h9 => ?_)
      obtain ⟨rfl, rfl⟩ := h9
      refine ww_if_ne_f (tgt := 42) dX7_foretell_35 (by decide) (by decide) ?_
      refine ww_iconst (v := 2) dX7_foretell_38 (by decide) ?_
      refine ww_goto (tgt := 46) dX7_foretell_39 (by decide) ?_
      refine ww_pputI (k := 0) hM hu dX7_foretell_46 wf_X7_98 wt_8_0 rfl rfl rfl rfl (fun M1 hu => ?_)
      refine ww_aload_n (i := 0) dX7_foretell_49 rfl rfl ?_
      refine ww_pgetI (k := 0) hM hu dX7_foretell_50 wf_X7_98 rfl rfl (q_us_s) ?_
      refine ww_if_le_f (tgt := 58) dX7_foretell_53 (by decide) (by decide) ?_
      refine ww_iconst (v := 0) dX7_foretell_56 (by decide) ?_
      exact ww_ireturn dX7_foretell_57 rfl (by first | rfl | exact ww_b_nar) ⟨rfl, ww_up_cg hu q_us_us⟩
    · refine ww_aload_n (i := 0) dX7_foretell_0 rfl rfl ?_
      refine ww_aload_n (i := 0) dX7_foretell_1 rfl rfl ?_
      refine ww_iload_n (i := 1) dX7_foretell_2 rfl rfl ?_
      refine ww_iconst (v := 3) dX7_foretell_3 (by decide) ?_
      refine ww_callV (κ := 8) (r := (RX7, TX7, 33)) wk_X7_148 dX7_foretell_4 (u_kind_0 hM hu hG hp c1) rfl rfl (show ww_is _ _ 8 from (ww_up_mo hM hu).1).1 (show ww_is _ _ 8 from (ww_up_mo hM hu).1).2 rfl rfl (by omega) (by omega) (by omega) (by first | exact Nat.le_of_ble_eq_true rfl | (simp [ww_rf_cat, Value.category])) rfl (fun E M9 h9 => h9.elim) (fun v9 M9 h9 => ?_)
      obtain ⟨rfl, rfl⟩ := h9
      refine ww_pputI (k := 0) hM hu dX7_foretell_7 wf_X7_98 wt_8_0 rfl rfl rfl rfl (fun M1 hu => ?_)
      refine ww_aload_n (i := 0) dX7_foretell_10 rfl rfl ?_
      refine ww_aload_n (i := 0) dX7_foretell_11 rfl rfl ?_
      refine ww_pgetI (k := 0) hM hu dX7_foretell_12 wf_X7_98 rfl rfl (q_us_s) ?_
      refine ww_if_ne_f (tgt := 42) dX7_foretell_15 (by decide) (by decide) ?_
      refine ww_iload_n (i := 2) dX7_foretell_18 rfl rfl ?_
      refine ww_iconst (v := 1) dX7_foretell_19 (by decide) ?_
      refine ww_sipush (v := 2000) dX7_foretell_20 (by decide) ?_
      refine ww_callS wk_X7_105 rfl dX7_foretell_23 (m_in_f c2) rfl rfl (by omega) (by omega) (by omega) (by first | exact Nat.le_of_ble_eq_true rfl | (simp [ww_rf_cat, Value.category])) rfl (fun E M9 h9 => h9.elim) (fun v9 M9 h9 => ?_)
      obtain ⟨rfl, rfl⟩ := h9
      refine ww_if_eq_t (tgt := 38) dX7_foretell_26 (by decide) (by decide) ?_
      refine ww_iconst (v := 2) dX7_foretell_38 (by decide) ?_
      refine ww_goto (tgt := 46) dX7_foretell_39 (by decide) ?_
      refine ww_pputI (k := 0) hM hu dX7_foretell_46 wf_X7_98 wt_8_0 rfl rfl rfl rfl (fun M1 hu => ?_)
      refine ww_aload_n (i := 0) dX7_foretell_49 rfl rfl ?_
      refine ww_pgetI (k := 0) hM hu dX7_foretell_50 wf_X7_98 rfl rfl (q_us_s) ?_
      refine ww_if_le_f (tgt := 58) dX7_foretell_53 (by decide) (by decide) ?_
      refine ww_iconst (v := 0) dX7_foretell_56 (by decide) ?_
      exact ww_ireturn dX7_foretell_57 rfl (by first | rfl | exact ww_b_nar) ⟨rfl, ww_up_cg hu q_us_us⟩
  · refine ww_aload_n (i := 0) dX7_foretell_0 rfl rfl ?_
    refine ww_aload_n (i := 0) dX7_foretell_1 rfl rfl ?_
    refine ww_iload_n (i := 1) dX7_foretell_2 rfl rfl ?_
    refine ww_iconst (v := 3) dX7_foretell_3 (by decide) ?_
    refine ww_callV (κ := 8) (r := (RX7, TX7, 33)) wk_X7_148 dX7_foretell_4 (u_kind_2 hM hu hG hp c1) rfl rfl (show ww_is _ _ 8 from (ww_up_mo hM hu).1).1 (show ww_is _ _ 8 from (ww_up_mo hM hu).1).2 rfl rfl (by omega) (by omega) (by omega) (by first | exact Nat.le_of_ble_eq_true rfl | (simp [ww_rf_cat, Value.category])) rfl (fun E M9 h9 => h9.elim) (fun v9 M9 h9 => ?_)
    obtain ⟨rfl, rfl⟩ := h9
    refine ww_pputI (k := 0) hM hu dX7_foretell_7 wf_X7_98 wt_8_0 rfl rfl rfl rfl (fun M1 hu => ?_)
    refine ww_aload_n (i := 0) dX7_foretell_10 rfl rfl ?_
    refine ww_aload_n (i := 0) dX7_foretell_11 rfl rfl ?_
    refine ww_pgetI (k := 0) hM hu dX7_foretell_12 wf_X7_98 rfl rfl (q_us_s) ?_
    refine ww_if_ne_t (tgt := 42) dX7_foretell_15 (by decide) (by decide) ?_
    refine ww_aload_n (i := 0) dX7_foretell_42 rfl rfl ?_
    refine ww_pgetI (k := 0) hM hu dX7_foretell_43 wf_X7_98 rfl rfl (q_us_s) ?_
    refine ww_pputI (k := 0) hM hu dX7_foretell_46 wf_X7_98 wt_8_0 rfl rfl rfl rfl (fun M1 hu => ?_)
    refine ww_aload_n (i := 0) dX7_foretell_49 rfl rfl ?_
    refine ww_pgetI (k := 0) hM hu dX7_foretell_50 wf_X7_98 rfl rfl (q_us_s) ?_
    refine ww_if_le_f (tgt := 58) dX7_foretell_53 (by decide) (by decide) ?_
    refine ww_iconst (v := 0) dX7_foretell_56 (by decide) ?_
    exact ww_ireturn dX7_foretell_57 rfl (by first | rfl | exact ww_b_nar) ⟨rfl, ww_up_cg hu q_us_us⟩
def q_fore (S : Nat → Nat → Int32) (p : Nat) (v s : Int32) : Int32 := if S 17 p = 0 then -1 else if S 16 p - 250 ≤ 0 then 0 else (S 16 p - 250) * 200 / (v * q_fac s)
theorem q_fac_ne {v s : Int32} (hv : q_rg 1 2000 v) (hs : q_rg 0 3 s) : ¬ v * q_fac s = 0 := by
  obtain ⟨h1, h2⟩ := hv
  obtain ⟨h3, h4⟩ := hs
  rw [ww_le'] at h1 h2 h3 h4
  have e1 : (1 : Int32).toInt = 1 := rfl
  have e2 : (2000 : Int32).toInt = 2000 := rfl
  have e3 : (0 : Int32).toInt = 0 := rfl
  have e4 : (3 : Int32).toInt = 3 := rfl
  have hs : s = 0 ∨ s = 1 ∨ s = 2 ∨ s = 3 := by
    rw [ww_eq, ww_eq, ww_eq, ww_eq, e3, e1, e4, show (2 : Int32).toInt = 2 from rfl]
    omega
  intro z
  rw [ww_eq, Int32.toInt_mul, e3] at z
  rcases hs with rfl | rfl | rfl | rfl
  · rw [show (q_fac 0).toInt = 1 from by decide, Int.bmod_eq_of_le (by omega) (by omega)] at z; omega
  · rw [show (q_fac 1).toInt = 2 from by decide, Int.bmod_eq_of_le (by omega) (by omega)] at z; omega
  · rw [show (q_fac 2).toInt = 3 from by decide, Int.bmod_eq_of_le (by omega) (by omega)] at z; omega
  · rw [show (q_fac 3).toInt = 2 from by decide, Int.bmod_eq_of_le (by omega) (by omega)] at z; omega
set_option maxRecDepth 20000 in
set_option maxHeartbeats 4000000 in
theorem m_foretell_0 (hM : ww_mo x ar M.1 M.2.2.1) (hG : q_G (q_S M x ar) n) {p : Nat} {v s : Int32} (hp : p < n) (hc : (q_S M x ar) 2 p = 3 ∧ q_rg 1 2000 v ∧ q_rg 0 3 s) : ww_C g wy_X7_foretell 4 0 0 [.ref x, .int (nI p), .int v, .int s] M (ww_ru x ar M (some (.int (q_fore (q_S M x ar) p v s))) (q_us (q_S M x ar) 0 0)) ww_no := by
  refine ww_ent (by decide +kernel) (Nat.le_of_ble_eq_true rfl) ⟨rfl, rfl, rfl, rfl, trivial⟩ ?_
  have hu : ww_up x ar M (q_S M x ar) M := ww_up_rf
  have h6 := hG.2.1
  obtain ⟨c1, c2, c3⟩ := hc
  unfold q_fore
  by_cases c4 : (q_S M x ar) 17 p = 0
  · rw [if_pos c4]
    refine ww_aload_n (i := 0) dX7_foretell_0 rfl rfl ?_
    refine ww_aload_n (i := 0) dX7_foretell_1 rfl rfl ?_
    refine ww_iload_n (i := 1) dX7_foretell_2 rfl rfl ?_
    refine ww_iconst (v := 3) dX7_foretell_3 (by decide) ?_
    refine ww_callV (κ := 8) (r := (RX7, TX7, 33)) wk_X7_148 dX7_foretell_4 (u_kind_0 hM hu hG hp c1) rfl rfl (show ww_is _ _ 8 from (ww_up_mo hM hu).1).1 (show ww_is _ _ 8 from (ww_up_mo hM hu).1).2 rfl rfl (by omega) (by omega) (by omega) (by first | exact Nat.le_of_ble_eq_true rfl | (simp [ww_rf_cat, Value.category])) rfl (fun E M9 h9 => h9.elim) (fun v9 M9 h9 => ?_)
    obtain ⟨rfl, rfl⟩ := h9
    refine ww_pputI (k := 0) hM hu dX7_foretell_7 wf_X7_98 wt_8_0 rfl rfl rfl rfl (fun M1 hu => ?_)
    refine ww_aload_n (i := 0) dX7_foretell_10 rfl rfl ?_
    refine ww_aload_n (i := 0) dX7_foretell_11 rfl rfl ?_
    refine ww_pgetI (k := 0) hM hu dX7_foretell_12 wf_X7_98 rfl rfl (q_us_s) ?_
    refine ww_if_ne_f (tgt := 42) dX7_foretell_15 (by decide) (by decide) ?_
    refine ww_iload_n (i := 2) dX7_foretell_18 rfl rfl ?_
    refine ww_iconst (v := 1) dX7_foretell_19 (by decide) ?_
    refine ww_sipush (v := 2000) dX7_foretell_20 (by decide) ?_
    refine ww_callS wk_X7_105 rfl dX7_foretell_23 (m_in_t c2.1 c2.2) rfl rfl (by omega) (by omega) (by omega) (by first | exact Nat.le_of_ble_eq_true rfl | (simp [ww_rf_cat, Value.category])) rfl (fun E M9 h9 => h9.elim) (fun v9 M9 h9 => ?_)
    obtain ⟨rfl, rfl⟩ := h9
    refine ww_if_eq_f (tgt := 38) dX7_foretell_26 (by decide) (by decide) ?_
    refine ww_iload_n (i := 3) dX7_foretell_29 rfl rfl ?_
    refine ww_iconst (v := 0) dX7_foretell_30 (by decide) ?_
    refine ww_iconst (v := 3) dX7_foretell_31 (by decide) ?_
    refine ww_callS wk_X7_105 rfl dX7_foretell_32 (m_in_t c3.1 c3.2) rfl rfl (by omega) (by omega) (by omega) (by first | exact Nat.le_of_ble_eq_true rfl | (simp [ww_rf_cat, Value.category])) rfl (fun E M9 h9 => h9.elim) (fun v9 M9 h9 => ?_)
    obtain ⟨rfl, rfl⟩ := h9
    refine ww_if_ne_t (tgt := 42) dX7_foretell_35 (by decide) (by decide) ?_
    refine ww_aload_n (i := 0) dX7_foretell_42 rfl rfl ?_
    refine ww_pgetI (k := 0) hM hu dX7_foretell_43 wf_X7_98 rfl rfl (q_us_s) ?_
    refine ww_pputI (k := 0) hM hu dX7_foretell_46 wf_X7_98 wt_8_0 rfl rfl rfl rfl (fun M1 hu => ?_)
    refine ww_aload_n (i := 0) dX7_foretell_49 rfl rfl ?_
    refine ww_pgetI (k := 0) hM hu dX7_foretell_50 wf_X7_98 rfl rfl (q_us_s) ?_
    refine ww_if_le_t (tgt := 58) dX7_foretell_53 (by decide) (by decide) ?_
    refine ww_aload_n (i := 0) dX7_foretell_58 rfl rfl ?_
    refine ww_getR (f := 336) wf_X7_53 dX7_foretell_59 rfl rfl (ww_up_mo hM hu).1.1 (ww_up_mo hM hu).1.2 ((ww_up_mo hM hu).2.1 16 rfl) ?_
    refine ww_iload_n (i := 1) dX7_foretell_62 rfl rfl ?_
    refine ww_pald (k := 16) hM hu dX7_foretell_63 rfl rfl rfl (show _ < 60 by omega) ((q_us_n (by decide)).trans ((q_us_n (by decide)).trans (rfl))) ?_
    refine ww_sipush (v := 250) dX7_foretell_64 (by decide) ?_
    refine ww_isub dX7_foretell_67 ?_
    refine ww_istore (i := 4) (lv2 := [(0, _), (1, _), (2, _), (3, _), (4, _)]) dX7_foretell_68 (Nat.le_of_ble_eq_true rfl) rfl ?_
    refine ww_aload_n (i := 0) dX7_foretell_70 rfl rfl ?_
    refine ww_getR (f := 337) wf_X7_56 dX7_foretell_71 rfl rfl (ww_up_mo hM hu).1.1 (ww_up_mo hM hu).1.2 ((ww_up_mo hM hu).2.1 17 rfl) ?_
    refine ww_iload_n (i := 1) dX7_foretell_74 rfl rfl ?_
    refine ww_pzld (k := 17) hM hu dX7_foretell_75 rfl rfl rfl (show _ < 60 by omega) ((q_us_n (by decide)).trans ((q_us_n (by decide)).trans (rfl))) ?_
    refine ww_if_ne_f (tgt := 83) dX7_foretell_76 (by decide) c4 ?_
    refine ww_iconst (v := (-1)) dX7_foretell_79 (by decide) ?_
    refine ww_goto (tgt := 105) dX7_foretell_80 (by decide) ?_
    exact ww_ireturn dX7_foretell_105 rfl (by first | rfl | exact ww_b_nar) ⟨rfl, ww_up_cg hu q_us_us⟩
  · rw [if_neg c4]
    by_cases c5 : (q_S M x ar) 16 p - 250 ≤ 0
    · rw [if_pos c5]
      have c5 : ¬ 0 < (q_S M x ar) 16 p - 250 := by rw [ww_le'] at c5; rw [ww_lt]; omega
      refine ww_aload_n (i := 0) dX7_foretell_0 rfl rfl ?_
      refine ww_aload_n (i := 0) dX7_foretell_1 rfl rfl ?_
      refine ww_iload_n (i := 1) dX7_foretell_2 rfl rfl ?_
      refine ww_iconst (v := 3) dX7_foretell_3 (by decide) ?_
      refine ww_callV (κ := 8) (r := (RX7, TX7, 33)) wk_X7_148 dX7_foretell_4 (u_kind_0 hM hu hG hp c1) rfl rfl (show ww_is _ _ 8 from (ww_up_mo hM hu).1).1 (show ww_is _ _ 8 from (ww_up_mo hM hu).1).2 rfl rfl (by omega) (by omega) (by omega) (by first | exact Nat.le_of_ble_eq_true rfl | (simp [ww_rf_cat, Value.category])) rfl (fun E M9 h9 => h9.elim) (fun v9 M9 h9 => ?_)
      obtain ⟨rfl, rfl⟩ := h9
      refine ww_pputI (k := 0) hM hu dX7_foretell_7 wf_X7_98 wt_8_0 rfl rfl rfl rfl (fun M1 hu => ?_)
      refine ww_aload_n (i := 0) dX7_foretell_10 rfl rfl ?_
      refine ww_aload_n (i := 0) dX7_foretell_11 rfl rfl ?_
      refine ww_pgetI (k := 0) hM hu dX7_foretell_12 wf_X7_98 rfl rfl (q_us_s) ?_
      refine ww_if_ne_f (tgt := 42) dX7_foretell_15 (by decide) (by decide) ?_
      refine ww_iload_n (i := 2) dX7_foretell_18 rfl rfl ?_
      refine ww_iconst (v := 1) dX7_foretell_19 (by decide) ?_
      refine ww_sipush (v := 2000) dX7_foretell_20 (by decide) ?_
      refine ww_callS wk_X7_105 rfl dX7_foretell_23 (m_in_t c2.1 c2.2) rfl rfl (by omega) (by omega) (by omega) (by first | exact Nat.le_of_ble_eq_true rfl | (simp [ww_rf_cat, Value.category])) rfl (fun E M9 h9 => h9.elim) (fun v9 M9 h9 => ?_)
      obtain ⟨rfl, rfl⟩ := h9
      refine ww_if_eq_f (tgt := 38) dX7_foretell_26 (by decide) (by decide) ?_
      refine ww_iload_n (i := 3) dX7_foretell_29 rfl rfl ?_
      refine ww_iconst (v := 0) dX7_foretell_30 (by decide) ?_
      refine ww_iconst (v := 3) dX7_foretell_31 (by decide) ?_
      refine ww_callS wk_X7_105 rfl dX7_foretell_32 (m_in_t c3.1 c3.2) rfl rfl (by omega) (by omega) (by omega) (by first | exact Nat.le_of_ble_eq_true rfl | (simp [ww_rf_cat, Value.category])) rfl (fun E M9 h9 => h9.elim) (fun v9 M9 h9 => ?_)
      obtain ⟨rfl, rfl⟩ := h9
      refine ww_if_ne_t (tgt := 42) dX7_foretell_35 (by decide) (by decide) ?_
      refine ww_aload_n (i := 0) dX7_foretell_42 rfl rfl ?_
      refine ww_pgetI (k := 0) hM hu dX7_foretell_43 wf_X7_98 rfl rfl (q_us_s) ?_
      refine ww_pputI (k := 0) hM hu dX7_foretell_46 wf_X7_98 wt_8_0 rfl rfl rfl rfl (fun M1 hu => ?_)
      refine ww_aload_n (i := 0) dX7_foretell_49 rfl rfl ?_
      refine ww_pgetI (k := 0) hM hu dX7_foretell_50 wf_X7_98 rfl rfl (q_us_s) ?_
      refine ww_if_le_t (tgt := 58) dX7_foretell_53 (by decide) (by decide) ?_
      refine ww_aload_n (i := 0) dX7_foretell_58 rfl rfl ?_
      refine ww_getR (f := 336) wf_X7_53 dX7_foretell_59 rfl rfl (ww_up_mo hM hu).1.1 (ww_up_mo hM hu).1.2 ((ww_up_mo hM hu).2.1 16 rfl) ?_
      refine ww_iload_n (i := 1) dX7_foretell_62 rfl rfl ?_
      refine ww_pald (k := 16) hM hu dX7_foretell_63 rfl rfl rfl (show _ < 60 by omega) ((q_us_n (by decide)).trans ((q_us_n (by decide)).trans (rfl))) ?_
      refine ww_sipush (v := 250) dX7_foretell_64 (by decide) ?_
      refine ww_isub dX7_foretell_67 ?_
      refine ww_istore (i := 4) (lv2 := [(0, _), (1, _), (2, _), (3, _), (4, _)]) dX7_foretell_68 (Nat.le_of_ble_eq_true rfl) rfl ?_
      refine ww_aload_n (i := 0) dX7_foretell_70 rfl rfl ?_
      refine ww_getR (f := 337) wf_X7_56 dX7_foretell_71 rfl rfl (ww_up_mo hM hu).1.1 (ww_up_mo hM hu).1.2 ((ww_up_mo hM hu).2.1 17 rfl) ?_
      refine ww_iload_n (i := 1) dX7_foretell_74 rfl rfl ?_
      refine ww_pzld (k := 17) hM hu dX7_foretell_75 rfl rfl rfl (show _ < 60 by omega) ((q_us_n (by decide)).trans ((q_us_n (by decide)).trans (rfl))) ?_
      refine ww_if_ne_t (tgt := 83) dX7_foretell_76 (by decide) c4 ?_
      refine ww_iload (i := 4) dX7_foretell_83 rfl ?_
      refine ww_if_gt_f (tgt := 92) dX7_foretell_85 (by decide) c5 ?_
      refine ww_iconst (v := 0) dX7_foretell_88 (by decide) ?_
      refine ww_goto (tgt := 105) dX7_foretell_89 (by decide) ?_
      exact ww_ireturn dX7_foretell_105 rfl (by first | rfl | exact ww_b_nar) ⟨rfl, ww_up_cg hu q_us_us⟩
    · rw [if_neg c5]
      have c5 : 0 < (q_S M x ar) 16 p - 250 := by rw [ww_le'] at c5; rw [ww_lt]; omega
      refine ww_aload_n (i := 0) dX7_foretell_0 rfl rfl ?_
      refine ww_aload_n (i := 0) dX7_foretell_1 rfl rfl ?_
      refine ww_iload_n (i := 1) dX7_foretell_2 rfl rfl ?_
      refine ww_iconst (v := 3) dX7_foretell_3 (by decide) ?_
      refine ww_callV (κ := 8) (r := (RX7, TX7, 33)) wk_X7_148 dX7_foretell_4 (u_kind_0 hM hu hG hp c1) rfl rfl (show ww_is _ _ 8 from (ww_up_mo hM hu).1).1 (show ww_is _ _ 8 from (ww_up_mo hM hu).1).2 rfl rfl (by omega) (by omega) (by omega) (by first | exact Nat.le_of_ble_eq_true rfl | (simp [ww_rf_cat, Value.category])) rfl (fun E M9 h9 => h9.elim) (fun v9 M9 h9 => ?_)
      obtain ⟨rfl, rfl⟩ := h9
      refine ww_pputI (k := 0) hM hu dX7_foretell_7 wf_X7_98 wt_8_0 rfl rfl rfl rfl (fun M1 hu => ?_)
      refine ww_aload_n (i := 0) dX7_foretell_10 rfl rfl ?_
      refine ww_aload_n (i := 0) dX7_foretell_11 rfl rfl ?_
      refine ww_pgetI (k := 0) hM hu dX7_foretell_12 wf_X7_98 rfl rfl (q_us_s) ?_
      refine ww_if_ne_f (tgt := 42) dX7_foretell_15 (by decide) (by decide) ?_
      refine ww_iload_n (i := 2) dX7_foretell_18 rfl rfl ?_
      refine ww_iconst (v := 1) dX7_foretell_19 (by decide) ?_
      refine ww_sipush (v := 2000) dX7_foretell_20 (by decide) ?_
      refine ww_callS wk_X7_105 rfl dX7_foretell_23 (m_in_t c2.1 c2.2) rfl rfl (by omega) (by omega) (by omega) (by first | exact Nat.le_of_ble_eq_true rfl | (simp [ww_rf_cat, Value.category])) rfl (fun E M9 h9 => h9.elim) (fun v9 M9 h9 => ?_)
      obtain ⟨rfl, rfl⟩ := h9
      refine ww_if_eq_f (tgt := 38) dX7_foretell_26 (by decide) (by decide) ?_
      refine ww_iload_n (i := 3) dX7_foretell_29 rfl rfl ?_
      refine ww_iconst (v := 0) dX7_foretell_30 (by decide) ?_
      refine ww_iconst (v := 3) dX7_foretell_31 (by decide) ?_
      refine ww_callS wk_X7_105 rfl dX7_foretell_32 (m_in_t c3.1 c3.2) rfl rfl (by omega) (by omega) (by omega) (by first | exact Nat.le_of_ble_eq_true rfl | (simp [ww_rf_cat, Value.category])) rfl (fun E M9 h9 => h9.elim) (fun v9 M9 h9 => ?_)
      obtain ⟨rfl, rfl⟩ := h9
      refine ww_if_ne_t (tgt := 42) dX7_foretell_35 (by decide) (by decide) ?_
      refine ww_aload_n (i := 0) dX7_foretell_42 rfl rfl ?_
      refine ww_pgetI (k := 0) hM hu dX7_foretell_43 wf_X7_98 rfl rfl (q_us_s) ?_
      refine ww_pputI (k := 0) hM hu dX7_foretell_46 wf_X7_98 wt_8_0 rfl rfl rfl rfl (fun M1 hu => ?_)
      refine ww_aload_n (i := 0) dX7_foretell_49 rfl rfl ?_
      refine ww_pgetI (k := 0) hM hu dX7_foretell_50 wf_X7_98 rfl rfl (q_us_s) ?_
      refine ww_if_le_t (tgt := 58) dX7_foretell_53 (by decide) (by decide) ?_
      refine ww_aload_n (i := 0) dX7_foretell_58 rfl rfl ?_
      refine ww_getR (f := 336) wf_X7_53 dX7_foretell_59 rfl rfl (ww_up_mo hM hu).1.1 (ww_up_mo hM hu).1.2 ((ww_up_mo hM hu).2.1 16 rfl) ?_
      refine ww_iload_n (i := 1) dX7_foretell_62 rfl rfl ?_
      refine ww_pald (k := 16) hM hu dX7_foretell_63 rfl rfl rfl (show _ < 60 by omega) ((q_us_n (by decide)).trans ((q_us_n (by decide)).trans (rfl))) ?_
      refine ww_sipush (v := 250) dX7_foretell_64 (by decide) ?_
      refine ww_isub dX7_foretell_67 ?_
      refine ww_istore (i := 4) (lv2 := [(0, _), (1, _), (2, _), (3, _), (4, _)]) dX7_foretell_68 (Nat.le_of_ble_eq_true rfl) rfl ?_
      refine ww_aload_n (i := 0) dX7_foretell_70 rfl rfl ?_
      refine ww_getR (f := 337) wf_X7_56 dX7_foretell_71 rfl rfl (ww_up_mo hM hu).1.1 (ww_up_mo hM hu).1.2 ((ww_up_mo hM hu).2.1 17 rfl) ?_
      refine ww_iload_n (i := 1) dX7_foretell_74 rfl rfl ?_
      refine ww_pzld (k := 17) hM hu dX7_foretell_75 rfl rfl rfl (show _ < 60 by omega) ((q_us_n (by decide)).trans ((q_us_n (by decide)).trans (rfl))) ?_
      refine ww_if_ne_t (tgt := 83) dX7_foretell_76 (by decide) c4 ?_
      refine ww_iload (i := 4) dX7_foretell_83 rfl ?_
      refine ww_if_gt_t (tgt := 92) dX7_foretell_85 (by decide) c5 ?_
      refine ww_iload (i := 4) dX7_foretell_92 rfl ?_
      refine ww_sipush (v := 200) dX7_foretell_94 (by decide) ?_
      refine ww_imul dX7_foretell_97 ?_
      refine ww_iload_n (i := 2) dX7_foretell_98 rfl rfl ?_
      refine ww_iload_n (i := 3) dX7_foretell_99 rfl rfl ?_
      refine ww_callS wk_X7_145 rfl dX7_foretell_100 (m_factor s) rfl rfl (by omega) (by omega) (by omega) (by first | exact Nat.le_of_ble_eq_true rfl | (simp [ww_rf_cat, Value.category])) rfl (fun E M9 h9 => h9.elim) (fun v9 M9 h9 => ?_)
      obtain ⟨rfl, rfl⟩ := h9
      refine ww_imul dX7_foretell_103 ?_
      refine ww_idiv dX7_foretell_104 (q_fac_ne c2 c3) ?_
      exact ww_ireturn dX7_foretell_105 rfl (by first | rfl | exact ww_b_nar) ⟨rfl, ww_up_cg hu q_us_us⟩
end WWV
