section WWN
variable {g : ww_G} {M : ww_M} {x : Nat} {ar : Nat → Nat} {n w : Nat}
/-- it, and what it is in, stands on a road -/
def q_bound (S : Nat → Nat → Int32) (p : Nat) : Prop := S 12 (q_hd (S 5) 5 p) = 1
theorem m_bound_t (hM : ww_mo x ar M.1 M.2.2.1) (hg : q_gh n (q_S M x ar 2) (q_S M x ar 5)) (h6 : n ≤ 60) {p : Nat} (hp : p < n) (hb : q_bound (q_S M x ar) p) : ww_C g wy_X7_isBound 2 0 0 [.ref x, .int (nI p)] M (ww_ret (some (.int 1)) M) ww_no := by
  have e : ww_X M (ar 12) (q_hd (ww_X M (ar 5)) 5 p) = 1 := hb
  have h := m_isBound (g := g) hM hg h6 hp (by rw [show ww_X M (ar 12) (q_hd (ww_X M (ar 5)) 5 p) = 1 from hb]; rfl)
  rw [e] at h
  exact h
theorem m_bound_f (hM : ww_mo x ar M.1 M.2.2.1) (hg : q_gh n (q_S M x ar 2) (q_S M x ar 5)) (h6 : n ≤ 60) (b12 : q_bool (q_S M x ar) 12) {p : Nat} (hp : p < n) (hb : ¬ q_bound (q_S M x ar) p) : ww_C g wy_X7_isBound 2 0 0 [.ref x, .int (nI p)] M (ww_ret (some (.int 0)) M) ww_no := by
  have e : ww_X M (ar 12) (q_hd (ww_X M (ar 5)) 5 p) = 0 := (b12 _).resolve_right hb
  have h := m_isBound (g := g) hM hg h6 hp (by rw [e]; rfl)
  rw [e] at h
  exact h
def q_fitP (S : Nat → Nat → Int32) (p h : Nat) : Prop := ¬ q_places (S 2 h) (S 2 p) = 0
def q_fitS (S : Nat → Nat → Int32) (n p h : Nat) : Prop := S 5 p = -1 ∧ S 9 p = 0 ∧ ¬ S 5 h = -2 ∧ ¬ q_bound S h ∧ nI (q_inK S n (nI h) (S 2 p)) < q_places (S 2 h) (S 2 p) ∧ S 4 p - S 4 h ≤ 1 ∧ -1 ≤ S 4 p - S 4 h
/-- no such part -/
def q_noP (n : Nat) (p : Int32) : Prop := ¬ (0 ≤ p.toInt ∧ p.toInt < (n : Int))
set_option maxRecDepth 20000 in
theorem m_fit_1 (hM : ww_mo x ar M.1 M.2.2.1) (hn : ww_I M 321 x = nI n) (h6 : n ≤ 60) (p h : Int32) (hc : q_noP n p ∨ q_noP n h) : ww_C g wy_X7_fit 3 0 0 [.ref x, .int p, .int h] M (ww_ret (some (.int 0)) (ww_cd M x 1)) ww_no := by
  refine ww_ent (by decide +kernel) (Nat.le_of_ble_eq_true rfl) ⟨rfl, rfl, rfl, trivial⟩ ?_
  by_cases h1 : q_noP n p
  · refine ww_aload_n (i := 0) dX7_fit_0 rfl rfl ?_
    refine ww_aload_n (i := 0) dX7_fit_1 rfl rfl ?_
    refine ww_iload_n (i := 1) dX7_fit_2 rfl rfl ?_
    refine ww_callV (κ := 8) (r := (RX7, TX7, 33)) wk_X7_109 dX7_fit_3 (m_isPart_f hM hn h6 h1) rfl rfl (show ww_is _ _ 8 from hM.1).1 (show ww_is _ _ 8 from hM.1).2 rfl rfl (by omega) (by omega) (by omega) (by first | exact Nat.le_of_ble_eq_true rfl | (simp [ww_rf_cat, Value.category])) rfl (fun E M9 h9 => h9.elim) (fun v9 M9 h9 => ?_)
    obtain ⟨rfl, rfl⟩ := h9
    refine ww_if_eq_t (tgt := 17) dX7_fit_6 (by decide) (by decide) ?_
    refine ww_iconst (v := 1) dX7_fit_17 (by decide) ?_
    refine ww_goto (tgt := 44) dX7_fit_18 (by decide) ?_
    refine ww_putI (f := 320) wf_X7_98 wt_8_0 dX7_fit_44 rfl rfl hM.1.1 hM.1.2 rfl rfl ?_
    refine ww_aload_n (i := 0) dX7_fit_47 rfl rfl ?_
    refine ww_getI (f := 320) wf_X7_98 dX7_fit_48 rfl rfl hM.1.1 hM.1.2 ?_
    refine ww_if_le_f (tgt := 56) dX7_fit_51 (by decide) (ww_sI_nle (by decide)) ?_
    refine ww_iconst (v := 0) dX7_fit_54 (by decide) ?_
    exact ww_ireturn dX7_fit_55 rfl (by first | rfl | exact ww_b_nar) ⟨rfl, rfl⟩
  · have h2 := hc.resolve_left h1
    obtain ⟨j, hj, rfl⟩ := ww_nat (Classical.not_not.mp h1).1 (Classical.not_not.mp h1).2 (by omega)
    refine ww_aload_n (i := 0) dX7_fit_0 rfl rfl ?_
    refine ww_aload_n (i := 0) dX7_fit_1 rfl rfl ?_
    refine ww_iload_n (i := 1) dX7_fit_2 rfl rfl ?_
    refine ww_callV (κ := 8) (r := (RX7, TX7, 33)) wk_X7_109 dX7_fit_3 (m_isPart_t hM hn h6 hj) rfl rfl (show ww_is _ _ 8 from hM.1).1 (show ww_is _ _ 8 from hM.1).2 rfl rfl (by omega) (by omega) (by omega) (by first | exact Nat.le_of_ble_eq_true rfl | (simp [ww_rf_cat, Value.category])) rfl (fun E M9 h9 => h9.elim) (fun v9 M9 h9 => ?_)
    obtain ⟨rfl, rfl⟩ := h9
    refine ww_if_eq_f (tgt := 17) dX7_fit_6 (by decide) (by decide) ?_
    refine ww_aload_n (i := 0) dX7_fit_9 rfl rfl ?_
    refine ww_iload_n (i := 2) dX7_fit_10 rfl rfl ?_
    refine ww_callV (κ := 8) (r := (RX7, TX7, 33)) wk_X7_109 dX7_fit_11 (m_isPart_f hM hn h6 h2) rfl rfl (show ww_is _ _ 8 from hM.1).1 (show ww_is _ _ 8 from hM.1).2 rfl rfl (by omega) (by omega) (by omega) (by first | exact Nat.le_of_ble_eq_true rfl | (simp [ww_rf_cat, Value.category])) rfl (fun E M9 h9 => h9.elim) (fun v9 M9 h9 => ?_)
    obtain ⟨rfl, rfl⟩ := h9
    refine ww_if_ne_f (tgt := 21) dX7_fit_14 (by decide) (by decide) ?_
    refine ww_iconst (v := 1) dX7_fit_17 (by decide) ?_
    refine ww_goto (tgt := 44) dX7_fit_18 (by decide) ?_
    refine ww_putI (f := 320) wf_X7_98 wt_8_0 dX7_fit_44 rfl rfl hM.1.1 hM.1.2 rfl rfl ?_
    refine ww_aload_n (i := 0) dX7_fit_47 rfl rfl ?_
    refine ww_getI (f := 320) wf_X7_98 dX7_fit_48 rfl rfl hM.1.1 hM.1.2 ?_
    refine ww_if_le_f (tgt := 56) dX7_fit_51 (by decide) (ww_sI_nle (by decide)) ?_
    refine ww_iconst (v := 0) dX7_fit_54 (by decide) ?_
    exact ww_ireturn dX7_fit_55 rfl (by first | rfl | exact ww_b_nar) ⟨rfl, rfl⟩
set_option maxRecDepth 20000 in
theorem m_fit_2 (hM : ww_mo x ar M.1 M.2.2.1) (hn : ww_I M 321 x = nI n) (h6 : n ≤ 60) {p h : Nat} (hp : p < n) (hh : h < n) (hc : ¬ q_fitP (q_S M x ar) p h) : ww_C g wy_X7_fit 3 0 0 [.ref x, .int (nI p), .int (nI h)] M (ww_ret (some (.int 0)) (ww_cd M x 2)) ww_no := by
  refine ww_ent (by decide +kernel) (Nat.le_of_ble_eq_true rfl) ⟨rfl, rfl, rfl, trivial⟩ ?_
  have h1 := Classical.not_not.mp hc
  refine ww_aload_n (i := 0) dX7_fit_0 rfl rfl ?_
  refine ww_aload_n (i := 0) dX7_fit_1 rfl rfl ?_
  refine ww_iload_n (i := 1) dX7_fit_2 rfl rfl ?_
  refine ww_callV (κ := 8) (r := (RX7, TX7, 33)) wk_X7_109 dX7_fit_3 (m_isPart_t hM hn h6 hp) rfl rfl (show ww_is _ _ 8 from hM.1).1 (show ww_is _ _ 8 from hM.1).2 rfl rfl (by omega) (by omega) (by omega) (by first | exact Nat.le_of_ble_eq_true rfl | (simp [ww_rf_cat, Value.category])) rfl (fun E M9 h9 => h9.elim) (fun v9 M9 h9 => ?_)
  obtain ⟨rfl, rfl⟩ := h9
  refine ww_if_eq_f (tgt := 17) dX7_fit_6 (by decide) (by decide) ?_
  refine ww_aload_n (i := 0) dX7_fit_9 rfl rfl ?_
  refine ww_iload_n (i := 2) dX7_fit_10 rfl rfl ?_
  refine ww_callV (κ := 8) (r := (RX7, TX7, 33)) wk_X7_109 dX7_fit_11 (m_isPart_t hM hn h6 hh) rfl rfl (show ww_is _ _ 8 from hM.1).1 (show ww_is _ _ 8 from hM.1).2 rfl rfl (by omega) (by omega) (by omega) (by first | exact Nat.le_of_ble_eq_true rfl | (simp [ww_rf_cat, Value.category])) rfl (fun E M9 h9 => h9.elim) (fun v9 M9 h9 => ?_)
  obtain ⟨rfl, rfl⟩ := h9
  refine ww_if_ne_t (tgt := 21) dX7_fit_14 (by decide) (by decide) ?_
  refine ww_aload_n (i := 0) dX7_fit_21 rfl rfl ?_
  refine ww_getR (f := 322) wf_X7_7 dX7_fit_22 rfl rfl hM.1.1 hM.1.2 (hM.2.1 2 rfl) ?_
  refine ww_iload_n (i := 2) dX7_fit_25 rfl rfl ?_
  refine ww_mald (k := 2) hM dX7_fit_26 rfl rfl rfl (show _ < 60 by omega) ?_
  refine ww_aload_n (i := 0) dX7_fit_27 rfl rfl ?_
  refine ww_getR (f := 322) wf_X7_7 dX7_fit_28 rfl rfl hM.1.1 hM.1.2 (hM.2.1 2 rfl) ?_
  refine ww_iload_n (i := 1) dX7_fit_31 rfl rfl ?_
  refine ww_mald (k := 2) hM dX7_fit_32 rfl rfl rfl (show _ < 60 by omega) ?_
  refine ww_callS wk_X7_121 rfl dX7_fit_33 (m_places _ _) rfl rfl (by omega) (by omega) (by omega) (by first | exact Nat.le_of_ble_eq_true rfl | (simp [ww_rf_cat, Value.category])) rfl (fun E M9 h9 => h9.elim) (fun v9 M9 h9 => ?_)
  obtain ⟨rfl, rfl⟩ := h9
  refine ww_if_ne_f (tgt := 43) dX7_fit_36 (by decide) h1 ?_
  refine ww_iconst (v := 2) dX7_fit_39 (by decide) ?_
  refine ww_goto (tgt := 44) dX7_fit_40 (by decide) ?_
  refine ww_putI (f := 320) wf_X7_98 wt_8_0 dX7_fit_44 rfl rfl hM.1.1 hM.1.2 rfl rfl ?_
  refine ww_aload_n (i := 0) dX7_fit_47 rfl rfl ?_
  refine ww_getI (f := 320) wf_X7_98 dX7_fit_48 rfl rfl hM.1.1 hM.1.2 ?_
  refine ww_if_le_f (tgt := 56) dX7_fit_51 (by decide) (ww_sI_nle (by decide)) ?_
  refine ww_iconst (v := 0) dX7_fit_54 (by decide) ?_
  exact ww_ireturn dX7_fit_55 rfl (by first | rfl | exact ww_b_nar) ⟨rfl, rfl⟩
set_option maxRecDepth 20000 in
set_option maxHeartbeats 4000000 in
theorem m_fit_a (hM : ww_mo x ar M.1 M.2.2.1) (hn : ww_I M 321 x = nI n) (h6 : n ≤ 60) (hg : q_gh n (q_S M x ar 2) (q_S M x ar 5)) (b9 : q_bool (q_S M x ar) 9) (b12 : q_bool (q_S M x ar) 12) {p h : Nat} (hp : p < n) (hh : h < n) (hc : q_fitP (q_S M x ar) p h) {Q : Option Value → ww_M → Prop}
    (k1 : q_fitS (q_S M x ar) n p h → ∀ v3 v4, ww_A g wy_X7_fit 3 0 0 (ww_cd M x 0) 165 [(0, .ref x), (1, .int (nI p)), (2, .int (nI h)), (3, v3), (4, v4)] [.int 1] Q ww_no) (k0 : ¬ q_fitS (q_S M x ar) n p h → ∀ v3 v4, ww_A g wy_X7_fit 3 0 0 (ww_cd M x 0) 165 [(0, .ref x), (1, .int (nI p)), (2, .int (nI h)), (3, v3), (4, v4)] [.int 0] Q ww_no) :
    ww_C g wy_X7_fit 3 0 0 [.ref x, .int (nI p), .int (nI h)] M Q ww_no := by
  refine ww_ent (by decide +kernel) (Nat.le_of_ble_eq_true rfl) ⟨rfl, rfl, rfl, trivial⟩ ?_
  have h1 : ¬ q_places (q_S M x ar 2 h) (q_S M x ar 2 p) = 0 := hc
  have s0 : ¬ q_fitS (q_S M x ar) n p h → ww_A g wy_X7_fit 3 0 0 (ww_cd M x 0) 98 [(0, .ref x), (1, .int (nI p)), (2, .int (nI h))] [] Q ww_no := by
    intro hs
    refine ww_iconst (v := 0) dX7_fit_98 (by decide) ?_
    refine ww_istore_n (i := 3) (lv2 := [(0, _), (1, _), (2, _), (3, _)]) dX7_fit_99 rfl (Nat.le_of_ble_eq_true rfl) rfl ?_
    refine ww_aload_n (i := 0) dX7_fit_100 rfl rfl ?_
    refine ww_getR (f := 324) wf_X7_16 dX7_fit_101 rfl rfl hM.1.1 hM.1.2 (hM.2.1 4 rfl) ?_
    refine ww_iload_n (i := 1) dX7_fit_104 rfl rfl ?_
    refine ww_mald (k := 4) hM dX7_fit_105 rfl rfl rfl (show _ < 60 by omega) ?_
    refine ww_aload_n (i := 0) dX7_fit_106 rfl rfl ?_
    refine ww_getR (f := 324) wf_X7_16 dX7_fit_107 rfl rfl hM.1.1 hM.1.2 (hM.2.1 4 rfl) ?_
    refine ww_iload_n (i := 2) dX7_fit_110 rfl rfl ?_
    refine ww_mald (k := 4) hM dX7_fit_111 rfl rfl rfl (show _ < 60 by omega) ?_
    refine ww_isub dX7_fit_112 ?_
    refine ww_istore (i := 4) (lv2 := [(0, _), (1, _), (2, _), (3, _), (4, _)]) dX7_fit_113 (Nat.le_of_ble_eq_true rfl) rfl ?_
    refine ww_iload_n (i := 3) dX7_fit_115 rfl rfl ?_
    refine ww_if_eq_t (tgt := 164) dX7_fit_116 (by decide) (by decide) ?_
    refine ww_iconst (v := 0) dX7_fit_164 (by decide) ?_
    -- at 165, locals [0, 1, 2, 3, 4]
    exact k0 hs _ _
  refine ww_aload_n (i := 0) dX7_fit_0 rfl rfl ?_
  refine ww_aload_n (i := 0) dX7_fit_1 rfl rfl ?_
  refine ww_iload_n (i := 1) dX7_fit_2 rfl rfl ?_
  refine ww_callV (κ := 8) (r := (RX7, TX7, 33)) wk_X7_109 dX7_fit_3 (m_isPart_t hM hn h6 hp) rfl rfl (show ww_is _ _ 8 from hM.1).1 (show ww_is _ _ 8 from hM.1).2 rfl rfl (by omega) (by omega) (by omega) (by first | exact Nat.le_of_ble_eq_true rfl | (simp [ww_rf_cat, Value.category])) rfl (fun E M9 h9 => h9.elim) (fun v9 M9 h9 => ?_)
  obtain ⟨rfl, rfl⟩ := h9
  refine ww_if_eq_f (tgt := 17) dX7_fit_6 (by decide) (by decide) ?_
  refine ww_aload_n (i := 0) dX7_fit_9 rfl rfl ?_
  refine ww_iload_n (i := 2) dX7_fit_10 rfl rfl ?_
  refine ww_callV (κ := 8) (r := (RX7, TX7, 33)) wk_X7_109 dX7_fit_11 (m_isPart_t hM hn h6 hh) rfl rfl (show ww_is _ _ 8 from hM.1).1 (show ww_is _ _ 8 from hM.1).2 rfl rfl (by omega) (by omega) (by omega) (by first | exact Nat.le_of_ble_eq_true rfl | (simp [ww_rf_cat, Value.category])) rfl (fun E M9 h9 => h9.elim) (fun v9 M9 h9 => ?_)
  obtain ⟨rfl, rfl⟩ := h9
  refine ww_if_ne_t (tgt := 21) dX7_fit_14 (by decide) (by decide) ?_
  refine ww_aload_n (i := 0) dX7_fit_21 rfl rfl ?_
  refine ww_getR (f := 322) wf_X7_7 dX7_fit_22 rfl rfl hM.1.1 hM.1.2 (hM.2.1 2 rfl) ?_
  refine ww_iload_n (i := 2) dX7_fit_25 rfl rfl ?_
  refine ww_mald (k := 2) hM dX7_fit_26 rfl rfl rfl (show _ < 60 by omega) ?_
  refine ww_aload_n (i := 0) dX7_fit_27 rfl rfl ?_
  refine ww_getR (f := 322) wf_X7_7 dX7_fit_28 rfl rfl hM.1.1 hM.1.2 (hM.2.1 2 rfl) ?_
  refine ww_iload_n (i := 1) dX7_fit_31 rfl rfl ?_
  refine ww_mald (k := 2) hM dX7_fit_32 rfl rfl rfl (show _ < 60 by omega) ?_
  refine ww_callS wk_X7_121 rfl dX7_fit_33 (m_places _ _) rfl rfl (by omega) (by omega) (by omega) (by first | exact Nat.le_of_ble_eq_true rfl | (simp [ww_rf_cat, Value.category])) rfl (fun E M9 h9 => h9.elim) (fun v9 M9 h9 => ?_)
  obtain ⟨rfl, rfl⟩ := h9
  refine ww_if_ne_t (tgt := 43) dX7_fit_36 (by decide) h1 ?_
  refine ww_iconst (v := 0) dX7_fit_43 (by decide) ?_
  refine ww_putI (f := 320) wf_X7_98 wt_8_0 dX7_fit_44 rfl rfl hM.1.1 hM.1.2 rfl rfl ?_
  refine ww_aload_n (i := 0) dX7_fit_47 rfl rfl ?_
  refine ww_getI (f := 320) wf_X7_98 dX7_fit_48 rfl rfl hM.1.1 hM.1.2 ?_
  refine ww_if_le_t (tgt := 56) dX7_fit_51 (by decide) (ww_sI_le (by decide)) ?_
  -- at 56, locals [0, 1, 2]
  refine ww_mem (ww_cd M x 0) rfl ?_
  by_cases c1 : q_S M x ar 5 p = -1
  · by_cases c2 : q_S M x ar 9 p = 0
    · by_cases c3 : q_S M x ar 5 h = -2
      · have hs : ¬ q_fitS (q_S M x ar) n p h := fun z => z.2.2.1 c3
        refine ww_aload_n (i := 0) dX7_fit_56 rfl rfl ?_
        refine ww_getR (f := 325) wf_X7_19 dX7_fit_57 rfl rfl hM.1.1 hM.1.2 (hM.2.1 5 rfl) ?_
        refine ww_iload_n (i := 1) dX7_fit_60 rfl rfl ?_
        refine ww_mald (k := 5) hM dX7_fit_61 rfl rfl rfl (show _ < 60 by omega) ?_
        refine ww_iconst (v := (-1)) dX7_fit_62 (by decide) ?_
        refine ww_icmp_ne_f (tgt := 98) dX7_fit_63 (by decide) c1 ?_
        refine ww_aload_n (i := 0) dX7_fit_66 rfl rfl ?_
        refine ww_getR (f := 329) wf_X7_31 dX7_fit_67 rfl rfl hM.1.1 hM.1.2 (hM.2.1 9 rfl) ?_
        refine ww_iload_n (i := 1) dX7_fit_70 rfl rfl ?_
        refine ww_mzld (k := 9) hM dX7_fit_71 rfl rfl rfl (show _ < 60 by omega) ?_
        refine ww_if_ne_f (tgt := 98) dX7_fit_72 (by decide) c2 ?_
        refine ww_aload_n (i := 0) dX7_fit_75 rfl rfl ?_
        refine ww_getR (f := 325) wf_X7_19 dX7_fit_76 rfl rfl hM.1.1 hM.1.2 (hM.2.1 5 rfl) ?_
        refine ww_iload_n (i := 2) dX7_fit_79 rfl rfl ?_
        refine ww_mald (k := 5) hM dX7_fit_80 rfl rfl rfl (show _ < 60 by omega) ?_
        refine ww_bipush (v := (-2)) dX7_fit_81 (by decide) ?_
        refine ww_icmp_eq_t (tgt := 98) dX7_fit_83 (by decide) c3 ?_
        -- at 98, locals [0, 1, 2]
        exact s0 hs
      · by_cases c4 : q_bound (q_S M x ar) h
        · have hs : ¬ q_fitS (q_S M x ar) n p h := fun z => z.2.2.2.1 c4
          refine ww_aload_n (i := 0) dX7_fit_56 rfl rfl ?_
          refine ww_getR (f := 325) wf_X7_19 dX7_fit_57 rfl rfl hM.1.1 hM.1.2 (hM.2.1 5 rfl) ?_
          refine ww_iload_n (i := 1) dX7_fit_60 rfl rfl ?_
          refine ww_mald (k := 5) hM dX7_fit_61 rfl rfl rfl (show _ < 60 by omega) ?_
          refine ww_iconst (v := (-1)) dX7_fit_62 (by decide) ?_
          refine ww_icmp_ne_f (tgt := 98) dX7_fit_63 (by decide) c1 ?_
          refine ww_aload_n (i := 0) dX7_fit_66 rfl rfl ?_
          refine ww_getR (f := 329) wf_X7_31 dX7_fit_67 rfl rfl hM.1.1 hM.1.2 (hM.2.1 9 rfl) ?_
          refine ww_iload_n (i := 1) dX7_fit_70 rfl rfl ?_
          refine ww_mzld (k := 9) hM dX7_fit_71 rfl rfl rfl (show _ < 60 by omega) ?_
          refine ww_if_ne_f (tgt := 98) dX7_fit_72 (by decide) c2 ?_
          refine ww_aload_n (i := 0) dX7_fit_75 rfl rfl ?_
          refine ww_getR (f := 325) wf_X7_19 dX7_fit_76 rfl rfl hM.1.1 hM.1.2 (hM.2.1 5 rfl) ?_
          refine ww_iload_n (i := 2) dX7_fit_79 rfl rfl ?_
          refine ww_mald (k := 5) hM dX7_fit_80 rfl rfl rfl (show _ < 60 by omega) ?_
          refine ww_bipush (v := (-2)) dX7_fit_81 (by decide) ?_
          refine ww_icmp_eq_f (tgt := 98) dX7_fit_83 (by decide) c3 ?_
          refine ww_aload_n (i := 0) dX7_fit_86 rfl rfl ?_
          refine ww_iload_n (i := 2) dX7_fit_87 rfl rfl ?_
          refine ww_callV (κ := 8) (r := (RX7, TX7, 33)) wk_X7_125 dX7_fit_88 (m_bound_t (M := ww_cd M x 0) hM hg h6 hh c4) rfl rfl (show ww_is _ _ 8 from hM.1).1 (show ww_is _ _ 8 from hM.1).2 rfl rfl (by omega) (by omega) (by omega) (by first | exact Nat.le_of_ble_eq_true rfl | (simp [ww_rf_cat, Value.category])) rfl (fun E M9 h9 => h9.elim) (fun v9 M9 h9 => ?_)
          obtain ⟨rfl, rfl⟩ := h9
          refine ww_if_ne_t (tgt := 98) dX7_fit_91 (by decide) (by decide) ?_
          -- at 98, locals [0, 1, 2]
          exact s0 hs
        · have ck : ¬ q_S M x ar 2 p = -1 := by
            obtain ⟨e, hk⟩ := q_kd_of hg hp
            rw [e, ww_eq, nI_toInt (by omega)]
            show ¬ (_ : Int) = -1
            omega
          refine ww_aload_n (i := 0) dX7_fit_56 rfl rfl ?_
          refine ww_getR (f := 325) wf_X7_19 dX7_fit_57 rfl rfl hM.1.1 hM.1.2 (hM.2.1 5 rfl) ?_
          refine ww_iload_n (i := 1) dX7_fit_60 rfl rfl ?_
          refine ww_mald (k := 5) hM dX7_fit_61 rfl rfl rfl (show _ < 60 by omega) ?_
          refine ww_iconst (v := (-1)) dX7_fit_62 (by decide) ?_
          refine ww_icmp_ne_f (tgt := 98) dX7_fit_63 (by decide) c1 ?_
          refine ww_aload_n (i := 0) dX7_fit_66 rfl rfl ?_
          refine ww_getR (f := 329) wf_X7_31 dX7_fit_67 rfl rfl hM.1.1 hM.1.2 (hM.2.1 9 rfl) ?_
          refine ww_iload_n (i := 1) dX7_fit_70 rfl rfl ?_
          refine ww_mzld (k := 9) hM dX7_fit_71 rfl rfl rfl (show _ < 60 by omega) ?_
          refine ww_if_ne_f (tgt := 98) dX7_fit_72 (by decide) c2 ?_
          refine ww_aload_n (i := 0) dX7_fit_75 rfl rfl ?_
          refine ww_getR (f := 325) wf_X7_19 dX7_fit_76 rfl rfl hM.1.1 hM.1.2 (hM.2.1 5 rfl) ?_
          refine ww_iload_n (i := 2) dX7_fit_79 rfl rfl ?_
          refine ww_mald (k := 5) hM dX7_fit_80 rfl rfl rfl (show _ < 60 by omega) ?_
          refine ww_bipush (v := (-2)) dX7_fit_81 (by decide) ?_
          refine ww_icmp_eq_f (tgt := 98) dX7_fit_83 (by decide) c3 ?_
          refine ww_aload_n (i := 0) dX7_fit_86 rfl rfl ?_
          refine ww_iload_n (i := 2) dX7_fit_87 rfl rfl ?_
          refine ww_callV (κ := 8) (r := (RX7, TX7, 33)) wk_X7_125 dX7_fit_88 (m_bound_f (M := ww_cd M x 0) hM hg h6 b12 hh c4) rfl rfl (show ww_is _ _ 8 from hM.1).1 (show ww_is _ _ 8 from hM.1).2 rfl rfl (by omega) (by omega) (by omega) (by first | exact Nat.le_of_ble_eq_true rfl | (simp [ww_rf_cat, Value.category])) rfl (fun E M9 h9 => h9.elim) (fun v9 M9 h9 => ?_)
          obtain ⟨rfl, rfl⟩ := h9
          refine ww_if_ne_f (tgt := 98) dX7_fit_91 (by decide) (by decide) ?_
          refine ww_iconst (v := 1) dX7_fit_94 (by decide) ?_
          refine ww_goto (tgt := 99) dX7_fit_95 (by decide) ?_
          refine ww_istore_n (i := 3) (lv2 := [(0, _), (1, _), (2, _), (3, _)]) dX7_fit_99 rfl (Nat.le_of_ble_eq_true rfl) rfl ?_
          refine ww_aload_n (i := 0) dX7_fit_100 rfl rfl ?_
          refine ww_getR (f := 324) wf_X7_16 dX7_fit_101 rfl rfl hM.1.1 hM.1.2 (hM.2.1 4 rfl) ?_
          refine ww_iload_n (i := 1) dX7_fit_104 rfl rfl ?_
          refine ww_mald (k := 4) hM dX7_fit_105 rfl rfl rfl (show _ < 60 by omega) ?_
          refine ww_aload_n (i := 0) dX7_fit_106 rfl rfl ?_
          refine ww_getR (f := 324) wf_X7_16 dX7_fit_107 rfl rfl hM.1.1 hM.1.2 (hM.2.1 4 rfl) ?_
          refine ww_iload_n (i := 2) dX7_fit_110 rfl rfl ?_
          refine ww_mald (k := 4) hM dX7_fit_111 rfl rfl rfl (show _ < 60 by omega) ?_
          refine ww_isub dX7_fit_112 ?_
          refine ww_istore (i := 4) (lv2 := [(0, _), (1, _), (2, _), (3, _), (4, _)]) dX7_fit_113 (Nat.le_of_ble_eq_true rfl) rfl ?_
          refine ww_iload_n (i := 3) dX7_fit_115 rfl rfl ?_
          refine ww_if_eq_f (tgt := 164) dX7_fit_116 (by decide) (by decide) ?_
          refine ww_aload_n (i := 0) dX7_fit_119 rfl rfl ?_
          refine ww_iload_n (i := 2) dX7_fit_120 rfl rfl ?_
          refine ww_aload_n (i := 0) dX7_fit_121 rfl rfl ?_
          refine ww_getR (f := 322) wf_X7_7 dX7_fit_122 rfl rfl hM.1.1 hM.1.2 (hM.2.1 2 rfl) ?_
          refine ww_iload_n (i := 1) dX7_fit_125 rfl rfl ?_
          refine ww_mald (k := 2) hM dX7_fit_126 rfl rfl rfl (show _ < 60 by omega) ?_
          refine ww_callV (κ := 8) (r := (RX7, TX7, 33)) wk_X7_128 dX7_fit_127 (m_insideK (M := ww_cd M x 0) hM hn h6 (nI h) (q_S M x ar 2 p) ck) rfl rfl (show ww_is _ _ 8 from hM.1).1 (show ww_is _ _ 8 from hM.1).2 rfl rfl (by omega) (by omega) (by omega) (by first | exact Nat.le_of_ble_eq_true rfl | (simp [ww_rf_cat, Value.category])) rfl (fun E M9 h9 => h9.elim) (fun v9 M9 h9 => ?_)
          obtain ⟨rfl, rfl⟩ := h9
          refine ww_aload_n (i := 0) dX7_fit_130 rfl rfl ?_
          refine ww_getR (f := 322) wf_X7_7 dX7_fit_131 rfl rfl hM.1.1 hM.1.2 (hM.2.1 2 rfl) ?_
          refine ww_iload_n (i := 2) dX7_fit_134 rfl rfl ?_
          refine ww_mald (k := 2) hM dX7_fit_135 rfl rfl rfl (show _ < 60 by omega) ?_
          refine ww_aload_n (i := 0) dX7_fit_136 rfl rfl ?_
          refine ww_getR (f := 322) wf_X7_7 dX7_fit_137 rfl rfl hM.1.1 hM.1.2 (hM.2.1 2 rfl) ?_
          refine ww_iload_n (i := 1) dX7_fit_140 rfl rfl ?_
          refine ww_mald (k := 2) hM dX7_fit_141 rfl rfl rfl (show _ < 60 by omega) ?_
          refine ww_callS wk_X7_121 rfl dX7_fit_142 (m_places _ _) rfl rfl (by omega) (by omega) (by omega) (by first | exact Nat.le_of_ble_eq_true rfl | (simp [ww_rf_cat, Value.category])) rfl (fun E M9 h9 => h9.elim) (fun v9 M9 h9 => ?_)
          obtain ⟨rfl, rfl⟩ := h9
          -- at 145, locals [0, 1, 2, 3, 4]
          by_cases c5 : nI (q_inK (q_S M x ar) n (nI h) (q_S M x ar 2 p)) < q_places (q_S M x ar 2 h) (q_S M x ar 2 p)
          · have c5' : ¬ q_places (q_S M x ar 2 h) (q_S M x ar 2 p) ≤ nI (q_inK (q_S M x ar) n (nI h) (q_S M x ar 2 p)) := by rw [ww_le']; rw [ww_lt] at c5; omega
            by_cases c6 : q_S M x ar 4 p - q_S M x ar 4 h ≤ 1
            · have c6' : ¬ 1 < q_S M x ar 4 p - q_S M x ar 4 h := by rw [ww_lt]; rw [ww_le'] at c6; omega
              by_cases c7 : -1 ≤ q_S M x ar 4 p - q_S M x ar 4 h
              · have c7' : ¬ q_S M x ar 4 p - q_S M x ar 4 h < -1 := by rw [ww_lt]; rw [ww_le'] at c7; omega
                have hs : q_fitS (q_S M x ar) n p h := ⟨c1, c2, c3, c4, c5, c6, c7⟩
                refine ww_icmp_ge_f (tgt := 164) dX7_fit_145 (by decide) c5' ?_
                refine ww_iload (i := 4) dX7_fit_148 rfl ?_
                refine ww_iconst (v := 1) dX7_fit_150 (by decide) ?_
                refine ww_icmp_gt_f (tgt := 164) dX7_fit_151 (by decide) c6' ?_
                refine ww_iload (i := 4) dX7_fit_154 rfl ?_
                refine ww_iconst (v := (-1)) dX7_fit_156 (by decide) ?_
                refine ww_icmp_lt_f (tgt := 164) dX7_fit_157 (by decide) c7' ?_
                refine ww_iconst (v := 1) dX7_fit_160 (by decide) ?_
                refine ww_goto (tgt := 165) dX7_fit_161 (by decide) ?_
                -- at 165, locals [0, 1, 2, 3, 4]
                exact k1 hs _ _
              · have c7' : q_S M x ar 4 p - q_S M x ar 4 h < -1 := by rw [ww_lt]; rw [ww_le'] at c7; omega
                have hs : ¬ q_fitS (q_S M x ar) n p h := fun z => c7 z.2.2.2.2.2.2
                refine ww_icmp_ge_f (tgt := 164) dX7_fit_145 (by decide) c5' ?_
                refine ww_iload (i := 4) dX7_fit_148 rfl ?_
                refine ww_iconst (v := 1) dX7_fit_150 (by decide) ?_
                refine ww_icmp_gt_f (tgt := 164) dX7_fit_151 (by decide) c6' ?_
                refine ww_iload (i := 4) dX7_fit_154 rfl ?_
                refine ww_iconst (v := (-1)) dX7_fit_156 (by decide) ?_
                refine ww_icmp_lt_t (tgt := 164) dX7_fit_157 (by decide) c7' ?_
                refine ww_iconst (v := 0) dX7_fit_164 (by decide) ?_
                -- at 165, locals [0, 1, 2, 3, 4]
                exact k0 hs _ _
            · have c6' : 1 < q_S M x ar 4 p - q_S M x ar 4 h := by rw [ww_lt]; rw [ww_le'] at c6; omega
              have hs : ¬ q_fitS (q_S M x ar) n p h := fun z => c6 z.2.2.2.2.2.1
              refine ww_icmp_ge_f (tgt := 164) dX7_fit_145 (by decide) c5' ?_
              refine ww_iload (i := 4) dX7_fit_148 rfl ?_
              refine ww_iconst (v := 1) dX7_fit_150 (by decide) ?_
              refine ww_icmp_gt_t (tgt := 164) dX7_fit_151 (by decide) c6' ?_
              refine ww_iconst (v := 0) dX7_fit_164 (by decide) ?_
              -- at 165, locals [0, 1, 2, 3, 4]
              exact k0 hs _ _
          · have c5' : q_places (q_S M x ar 2 h) (q_S M x ar 2 p) ≤ nI (q_inK (q_S M x ar) n (nI h) (q_S M x ar 2 p)) := by rw [ww_le']; rw [ww_lt] at c5; omega
            have hs : ¬ q_fitS (q_S M x ar) n p h := fun z => c5 z.2.2.2.2.1
            refine ww_icmp_ge_t (tgt := 164) dX7_fit_145 (by decide) c5' ?_
            refine ww_iconst (v := 0) dX7_fit_164 (by decide) ?_
            -- at 165, locals [0, 1, 2, 3, 4]
            exact k0 hs _ _
    · have hs : ¬ q_fitS (q_S M x ar) n p h := fun z => c2 z.2.1
      refine ww_aload_n (i := 0) dX7_fit_56 rfl rfl ?_
      refine ww_getR (f := 325) wf_X7_19 dX7_fit_57 rfl rfl hM.1.1 hM.1.2 (hM.2.1 5 rfl) ?_
      refine ww_iload_n (i := 1) dX7_fit_60 rfl rfl ?_
      refine ww_mald (k := 5) hM dX7_fit_61 rfl rfl rfl (show _ < 60 by omega) ?_
      refine ww_iconst (v := (-1)) dX7_fit_62 (by decide) ?_
      refine ww_icmp_ne_f (tgt := 98) dX7_fit_63 (by decide) c1 ?_
      refine ww_aload_n (i := 0) dX7_fit_66 rfl rfl ?_
      refine ww_getR (f := 329) wf_X7_31 dX7_fit_67 rfl rfl hM.1.1 hM.1.2 (hM.2.1 9 rfl) ?_
      refine ww_iload_n (i := 1) dX7_fit_70 rfl rfl ?_
      refine ww_mzld (k := 9) hM dX7_fit_71 rfl rfl rfl (show _ < 60 by omega) ?_
      refine ww_if_ne_t (tgt := 98) dX7_fit_72 (by decide) c2 ?_
      -- at 98, locals [0, 1, 2]
      exact s0 hs
  · have hs : ¬ q_fitS (q_S M x ar) n p h := fun z => c1 z.1
    refine ww_aload_n (i := 0) dX7_fit_56 rfl rfl ?_
    refine ww_getR (f := 325) wf_X7_19 dX7_fit_57 rfl rfl hM.1.1 hM.1.2 (hM.2.1 5 rfl) ?_
    refine ww_iload_n (i := 1) dX7_fit_60 rfl rfl ?_
    refine ww_mald (k := 5) hM dX7_fit_61 rfl rfl rfl (show _ < 60 by omega) ?_
    refine ww_iconst (v := (-1)) dX7_fit_62 (by decide) ?_
    refine ww_icmp_ne_t (tgt := 98) dX7_fit_63 (by decide) c1 ?_
    -- at 98, locals [0, 1, 2]
    exact s0 hs
set_option maxRecDepth 20000 in
theorem m_fit_3 (hM : ww_mo x ar M.1 M.2.2.1) (hn : ww_I M 321 x = nI n) (h6 : n ≤ 60) (hg : q_gh n (q_S M x ar 2) (q_S M x ar 5)) (b9 : q_bool (q_S M x ar) 9) (b12 : q_bool (q_S M x ar) 12) {p h : Nat} (hp : p < n) (hh : h < n) (hc : q_fitP (q_S M x ar) p h) (hs : ¬ q_fitS (q_S M x ar) n p h) : ww_C g wy_X7_fit 3 0 0 [.ref x, .int (nI p), .int (nI h)] M (ww_ret (some (.int 0)) (ww_cd (ww_cd M x 0) x 3)) ww_no := by
  refine m_fit_a hM hn h6 hg b9 b12 hp hh hc (fun z => absurd z hs) (fun _ v3 v4 => ?_)
  refine ww_istore_n (i := 3) (lv2 := [(0, _), (1, _), (2, _), (3, _), (4, _)]) dX7_fit_165 rfl (Nat.le_of_ble_eq_true rfl) rfl ?_
  refine ww_aload_n (i := 0) dX7_fit_166 rfl rfl ?_
  refine ww_iload_n (i := 3) dX7_fit_167 rfl rfl ?_
  refine ww_if_eq_t (tgt := 175) dX7_fit_168 (by decide) (by decide) ?_
  refine ww_iconst (v := 3) dX7_fit_175 (by decide) ?_
  refine ww_putI (f := 320) wf_X7_98 wt_8_0 dX7_fit_176 rfl rfl hM.1.1 hM.1.2 rfl rfl ?_
  refine ww_aload_n (i := 0) dX7_fit_179 rfl rfl ?_
  refine ww_getI (f := 320) wf_X7_98 dX7_fit_180 rfl rfl hM.1.1 hM.1.2 ?_
  refine ww_if_le_f (tgt := 188) dX7_fit_183 (by decide) (ww_sI_nle (by decide)) ?_
  refine ww_iconst (v := 0) dX7_fit_186 (by decide) ?_
  exact ww_ireturn dX7_fit_187 rfl (by first | rfl | exact ww_b_nar) ⟨rfl, rfl⟩
/-- the model behind a fit -/
def ww_mfit (M : ww_M) (x : Nat) (ar : Nat → Nat) (w p h : Nat) : ww_M := ww_sX (ww_mmoves (ww_cd (ww_cd M x 0) x 0) x ar p w (nI h)) (ar 11) (q_hd (ww_X M (ar 5)) 5 h) 0
theorem q_hd_set {n : Nat} {kd ho : Nat → Int32} (hg : q_gh n kd ho) (h6 : n ≤ 60) {p h : Nat} (hlt : (kd h).toInt < (kd p).toInt) : ∀ (f q : Nat), q < n → (kd q).toInt ≤ (kd h).toInt → q_hd (fun j => if j = p then nI h else ho j) f q = q_hd ho f q
  | 0, q, _, _ => rfl
  | f + 1, q, hq, hk => by
    have hne : q ≠ p := fun z => by subst z; omega
    rcases q_gh_cases hg h6 hq with h1 | ⟨r, hr, e, hl⟩
    · rw [q_hd_neg h1, q_hd_neg (by show (if q = p then nI h else ho q) < 0; rw [if_neg hne]; exact h1)]
    · rw [q_hd_pos e (by omega), q_hd_pos (q := r) (by show (if q = p then nI h else ho q) = nI r; rw [if_neg hne]; exact e) (by omega)]
      exact q_hd_set hg h6 hlt f r hr (by omega)
theorem q_hd_stab {n : Nat} {kd ho : Nat → Int32} (hg : q_gh n kd ho) (h6 : n ≤ 60) : ∀ (f f' q : Nat), q < n → (kd q).toInt < f → (kd q).toInt < f' → q_hd ho f q = q_hd ho f' q
  | 0, _, q, hq, h1, _ => by have := (q_gh_kd hg hq).1; omega
  | _ + 1, 0, q, hq, _, h1 => by have := (q_gh_kd hg hq).1; omega
  | f + 1, f' + 1, q, hq, h1, h2 => by
    rcases q_gh_cases hg h6 hq with h3 | ⟨r, hr, e, hl⟩
    · rw [q_hd_neg h3, q_hd_neg h3]
    · rw [q_hd_pos e (by omega), q_hd_pos e (by omega)]
      exact q_hd_stab hg h6 f f' r hr (by omega) (by omega)
theorem q_gh_set {n : Nat} {kd ho : Nat → Int32} (hg : q_gh n kd ho) {p h : Nat} (hh : h < n) (hlt : (kd h).toInt < (kd p).toInt) : q_gh n kd (fun j => if j = p then nI h else ho j) := by
  intro q hq
  refine ⟨(hg q hq).1, ?_⟩
  show (if q = p then nI h else ho q) = -1 ∨ (if q = p then nI h else ho q) = -2 ∨ ∃ r, r < n ∧ (if q = p then nI h else ho q) = nI r ∧ _
  by_cases e : q = p
  · subst e
    rw [if_pos rfl]
    exact Or.inr (Or.inr ⟨h, hh, rfl, hlt⟩)
  · rw [if_neg e]
    exact (hg q hq).2
theorem q_places_lt {h k : Int32} (hz : ¬ q_places h k = 0) (h0 : 0 ≤ h.toInt) (h5 : h.toInt < 5) : h.toInt < k.toInt := by
  unfold q_places at hz
  by_cases h1 : h = 2
  · subst h1
    rw [if_pos rfl] at hz
    by_cases h2 : k = 3
    · subst h2; decide
    · rw [if_neg h2] at hz
      by_cases h3 : k = 4
      · subst h3; decide
      · rw [if_neg h3] at hz; exact absurd rfl hz
  · rw [if_neg h1] at hz
    by_cases h2 : (h = 0 ∨ h = 1) ∧ k = h + 1
    · obtain ⟨h3, rfl⟩ := h2
      rcases h3 with rfl | rfl <;> decide
    · rw [if_neg h2] at hz; exact absurd rfl hz
theorem ww_row_X {M : ww_M} {a i : Nat} {v : Int32} : ww_X (ww_sX M a i v) a = fun j => if j = i then v else ww_X M a j := by
  funext j
  show ww_u2 (ww_X M) a i v a j = _
  unfold ww_u2
  by_cases h : j = i
  · rw [if_pos ⟨rfl, h⟩, if_pos h]
  · rw [if_neg (fun z => h z.2), if_neg h]
theorem ww_row_n {M : ww_M} {a b i : Nat} {v : Int32} (h : b ≠ a) : ww_X (ww_sX M a i v) b = ww_X M b := ww_upd_Xn h
theorem ww_mo_ne (hM : ww_mo x ar M.1 M.2.2.1) {k j : Nat} (hk : ww_mr k = true) (hj : ww_mr j = true) (h : k ≠ j) : ar k ≠ ar j := fun z => h (hM.2.2.2 k j hk hj z)
theorem ww_mmoves_5 (hM : ww_mo x ar M.1 M.2.2.1) {p : Nat} {to : Int32} : ww_X (ww_mmoves M x ar p w to) (ar 5) = fun j => if j = p then to else ww_X M (ar 5) j := by
  show ww_X (ww_sX (ww_sX (ww_sX M (ar 5) p to) (ar 24) w (nI p)) (ar 25) w to) (ar 5) = _
  rw [ww_row_n (ww_mo_ne hM rfl rfl (by decide)), ww_row_n (ww_mo_ne hM rfl rfl (by decide)), ww_row_X]
theorem ww_mmoves_k (hM : ww_mo x ar M.1 M.2.2.1) {p k : Nat} {to : Int32} (hk : ww_mr k = true) (h5 : k ≠ 5) (h24 : k ≠ 24) (h25 : k ≠ 25) : ww_X (ww_mmoves M x ar p w to) (ar k) = ww_X M (ar k) := by
  show ww_X (ww_sX (ww_sX (ww_sX M (ar 5) p to) (ar 24) w (nI p)) (ar 25) w to) (ar k) = _
  rw [ww_row_n (ww_mo_ne hM hk rfl h25), ww_row_n (ww_mo_ne hM hk rfl h24), ww_row_n (ww_mo_ne hM hk rfl h5)]
set_option maxRecDepth 20000 in
set_option maxHeartbeats 4000000 in
theorem m_fit_0 (hM : ww_mo x ar M.1 M.2.2.1) (hn : ww_I M 321 x = nI n) (h6 : n ≤ 60) (hg : q_gh n (q_S M x ar 2) (q_S M x ar 5)) (b9 : q_bool (q_S M x ar) 9) (b12 : q_bool (q_S M x ar) 12) (hw : ww_I M 343 x = nI w) (h4 : w < 4000) {p h : Nat} (hp : p < n) (hh : h < n) (hc : q_fitP (q_S M x ar) p h) (hs : q_fitS (q_S M x ar) n p h) : ww_C g wy_X7_fit 3 0 0 [.ref x, .int (nI p), .int (nI h)] M (ww_ret (some (.int (nI (q_in (q_S (ww_mfit M x ar w p h) x ar) n (nI h))))) (ww_mfit M x ar w p h)) ww_no := by
  refine m_fit_a hM hn h6 hg b9 b12 hp hh hc (fun _ v3 v4 => ?_) (fun z => absurd hs z)
  have hlt : (q_S M x ar 2 h).toInt < (q_S M x ar 2 p).toInt := q_places_lt hc (q_gh_kd hg hh).1 (q_gh_kd hg hh).2
  have e2 : ww_X (ww_mmoves (ww_cd (ww_cd M x 0) x 0) x ar p w (nI h)) (ar 2) = ww_X M (ar 2) := ww_mmoves_k (M := ww_cd (ww_cd M x 0) x 0) hM rfl (by decide) (by decide) (by decide)
  have e5 : ww_X (ww_mmoves (ww_cd (ww_cd M x 0) x 0) x ar p w (nI h)) (ar 5) = fun j => if j = p then nI h else ww_X M (ar 5) j := ww_mmoves_5 (M := ww_cd (ww_cd M x 0) x 0) hM
  have hg2 : q_gh n (ww_X (ww_mmoves (ww_cd (ww_cd M x 0) x 0) x ar p w (nI h)) (ar 2)) (ww_X (ww_mmoves (ww_cd (ww_cd M x 0) x 0) x ar p w (nI h)) (ar 5)) := by
    rw [e2, e5]
    exact q_gh_set hg hh hlt
  have ehd : q_hd (ww_X (ww_mmoves (ww_cd (ww_cd M x 0) x 0) x ar p w (nI h)) (ar 5)) 5 p = q_hd (ww_X M (ar 5)) 5 h := by
    rw [e5, q_hd_pos (q := h) (if_pos rfl) (by omega)]
    refine (q_hd_set hg h6 hlt 4 h hh (Int.le_refl _)).trans ?_
    have hk := (q_gh_kd hg hp).2
    have hk' : (q_S M x ar 2 h).toInt < 4 := by omega
    exact q_hd_stab hg h6 4 5 h hh hk' (by have := (q_gh_kd hg hh).2; exact this)
  have hends := m_ends (g := g) (M := ww_mmoves (ww_cd (ww_cd M x 0) x 0) x ar p w (nI h)) hM hg2 h6 hp
  rw [ehd] at hends
  refine ww_istore_n (i := 3) (lv2 := [(0, _), (1, _), (2, _), (3, _), (4, _)]) dX7_fit_165 rfl (Nat.le_of_ble_eq_true rfl) rfl ?_
  refine ww_aload_n (i := 0) dX7_fit_166 rfl rfl ?_
  refine ww_iload_n (i := 3) dX7_fit_167 rfl rfl ?_
  refine ww_if_eq_f (tgt := 175) dX7_fit_168 (by decide) (by decide) ?_
  refine ww_iconst (v := 0) dX7_fit_171 (by decide) ?_
  refine ww_goto (tgt := 176) dX7_fit_172 (by decide) ?_
  refine ww_putI (f := 320) wf_X7_98 wt_8_0 dX7_fit_176 rfl rfl hM.1.1 hM.1.2 rfl rfl ?_
  refine ww_aload_n (i := 0) dX7_fit_179 rfl rfl ?_
  refine ww_getI (f := 320) wf_X7_98 dX7_fit_180 rfl rfl hM.1.1 hM.1.2 ?_
  refine ww_if_le_t (tgt := 188) dX7_fit_183 (by decide) (ww_sI_le (by decide)) ?_
  refine ww_aload_n (i := 0) dX7_fit_188 rfl rfl ?_
  refine ww_iload_n (i := 1) dX7_fit_189 rfl rfl ?_
  refine ww_iload_n (i := 2) dX7_fit_190 rfl rfl ?_
  refine ww_callV (κ := 8) (r := (RX7, TX7, 33)) wk_X7_131 dX7_fit_191 (m_moves (M := ww_cd (ww_cd M x 0) x 0) hM hw h4 (by omega) (nI h)) rfl rfl (show ww_is _ _ 8 from hM.1).1 (show ww_is _ _ 8 from hM.1).2 rfl rfl (by omega) (by omega) (by omega) (by first | exact Nat.le_of_ble_eq_true rfl | (simp [ww_rf_cat, Value.category])) rfl (fun E M9 h9 => h9.elim) (fun v9 M9 h9 => ?_)
  obtain ⟨rfl, rfl⟩ := h9
  refine ww_aload_n (i := 0) dX7_fit_194 rfl rfl ?_
  refine ww_iload_n (i := 1) dX7_fit_195 rfl rfl ?_
  refine ww_callV (κ := 8) (r := (RX7, TX7, 33)) wk_X7_135 dX7_fit_196 (hends) rfl rfl (show ww_is _ _ 8 from hM.1).1 (show ww_is _ _ 8 from hM.1).2 rfl rfl (by omega) (by omega) (by omega) (by first | exact Nat.le_of_ble_eq_true rfl | (simp [ww_rf_cat, Value.category])) rfl (fun E M9 h9 => h9.elim) (fun v9 M9 h9 => ?_)
  obtain ⟨rfl, rfl⟩ := h9
  refine ww_aload_n (i := 0) dX7_fit_199 rfl rfl ?_
  refine ww_iload_n (i := 2) dX7_fit_200 rfl rfl ?_
  refine ww_iconst (v := (-1)) dX7_fit_201 (by decide) ?_
  refine ww_callV (κ := 8) (r := (RX7, TX7, 33)) wk_X7_128 dX7_fit_202 (m_inside (M := ww_mfit M x ar w p h) hM hn h6 (nI h)) rfl rfl (show ww_is _ _ 8 from hM.1).1 (show ww_is _ _ 8 from hM.1).2 rfl rfl (by omega) (by omega) (by omega) (by first | exact Nat.le_of_ble_eq_true rfl | (simp [ww_rf_cat, Value.category])) rfl (fun E M9 h9 => h9.elim) (fun v9 M9 h9 => ?_)
  obtain ⟨rfl, rfl⟩ := h9
  exact ww_ireturn dX7_fit_205 rfl (by first | rfl | exact ww_b_nar) ⟨rfl, rfl⟩
end WWN
