section WWJ1
variable {g : ww_G} {M0 M M1 : ww_M} {a x pl pe n : Nat} {P W kl : Nat → Nat} {S : Nat → Nat → Int32}
set_option maxRecDepth 20000 in
theorem c_host (hw : ww_wo g M0 M x pl pe n P) (h : ww_pf M P W kl n S) (hG : q_G S n) {p : Nat} (hp : p < n) : ww_C g wy_X6_host 5 0 0 [.ref x, .int (nI p)] M (ww_ret (some (.int (S 5 p))) M) ww_no := by
  refine ww_ent (by decide +kernel) (Nat.le_of_ble_eq_true rfl) ⟨rfl, rfl, trivial⟩ ?_
  have hi4 := (h.1 p hp).1.1
  have hc : S 5 p < 0 → S 5 p = -1 ∨ S 5 p = -2 := fun h0 => by
    rcases (hG.2.2.1 p hp).2 with e | e | ⟨q, hq, e, hl⟩
    · exact Or.inl e
    · exact Or.inr e
    · have := hG.2.1
      rw [e] at h0; exact absurd h0 (nI_pos (by omega))
  have hwh := c_whereabouts (g := g) (ww_pf_hs h) hG.2.2.1 hG.2.1 (fun i hi => (h.1 i hi).1.2.1) hp (fun _ => (h.1 p hp).2.2.2.2.1) hc
  refine ww_aload_n (i := 0) dX6_host_0 rfl rfl ?_
  refine ww_iload_n (i := 1) dX6_host_1 rfl rfl ?_
  refine ww_callV (κ := 7) (r := (RX6, TX6, 4)) wk_X6_83 dX6_host_2 (c_existing hw h hp) rfl rfl (show ww_is _ _ 7 from hw.1).1 (show ww_is _ _ 7 from hw.1).2 rfl rfl (by omega) (by omega) (by omega) (by first | exact Nat.le_of_ble_eq_true rfl | (simp [ww_rf_cat, Value.category])) rfl (fun E M9 h9 => h9.elim) (fun v9 M9 h9 => ?_)
  obtain ⟨rfl, rfl⟩ := h9
  refine ww_callV (κ := 4) (r := (RX3, TX3, 18)) wk_X6_293 dX6_host_5 (hwh) rfl rfl (show ww_is _ _ 4 from hi4).1 (show ww_is _ _ 4 from hi4).2 rfl rfl (by omega) (by omega) (by omega) (by first | exact Nat.le_of_ble_eq_true rfl | (simp [ww_rf_cat, Value.category])) rfl (fun E M9 h9 => h9.elim) (fun v9 M9 h9 => ?_)
  obtain ⟨rfl, rfl⟩ := h9
  exact ww_ireturn dX6_host_8 rfl (by first | rfl | exact ww_b_nar) ⟨rfl, rfl⟩
/-- who bars first: -1 when none does -/
noncomputable def q_cby (S : Nat → Nat → Int32) (n t : Nat) : Int32 := if q_fbar S n t 7 1 = 0 then -1 else q_oi (q_clow S n t (q_fbar S n t 7 1))
theorem q_fbar_le {S : Nat → Nat → Int32} {n t : Nat} : ∀ (m r : Nat), q_fbar S n t m r = 0 ∨ (r ≤ q_fbar S n t m r ∧ q_fbar S n t m r < r + m)
  | 0, r => Or.inl rfl
  | m + 1, r => by
    unfold q_fbar
    cases q_clow S n t r with
    | some p => exact Or.inr ⟨Nat.le_refl _, by show r < _; omega⟩
    | none =>
      rcases q_fbar_le (S := S) (n := n) (t := t) m (r + 1) with h | h
      · exact Or.inl h
      · exact Or.inr ⟨by show r ≤ q_fbar S n t m (r + 1); omega, by show q_fbar S n t m (r + 1) < _; omega⟩
set_option maxRecDepth 20000 in
theorem c_checkRun {d s : Int32} (h1 : q_rg 1 2000 d) (h2 : q_rg 0 3 s) : ww_C g wy_X6_checkRun 2 0 0 [.int d, .int s] M (ww_ret none M) ww_no := by
  refine ww_ent (by decide +kernel) (Nat.le_of_ble_eq_true rfl) ⟨rfl, rfl, trivial⟩ ?_
  refine ww_iload_n (i := 0) dX6_checkRun_0 rfl rfl ?_
  refine ww_iconst (v := 1) dX6_checkRun_1 (by decide) ?_
  refine ww_sipush (v := 2000) dX6_checkRun_2 (by decide) ?_
  refine ww_callS wk_X6_41 rfl dX6_checkRun_5 (c_out_f h1) rfl rfl (by omega) (by omega) (by omega) (by first | exact Nat.le_of_ble_eq_true rfl | (simp [ww_rf_cat, Value.category])) rfl (fun E M9 h9 => h9.elim) (fun v9 M9 h9 => ?_)
  obtain ⟨rfl, rfl⟩ := h9
  refine ww_if_ne_f (tgt := 20) dX6_checkRun_8 (by decide) (by decide) ?_
  refine ww_iload_n (i := 1) dX6_checkRun_11 rfl rfl ?_
  refine ww_iconst (v := 0) dX6_checkRun_12 (by decide) ?_
  refine ww_iconst (v := 3) dX6_checkRun_13 (by decide) ?_
  refine ww_callS wk_X6_41 rfl dX6_checkRun_14 (c_out_f h2) rfl rfl (by omega) (by omega) (by omega) (by first | exact Nat.le_of_ble_eq_true rfl | (simp [ww_rf_cat, Value.category])) rfl (fun E M9 h9 => h9.elim) (fun v9 M9 h9 => ?_)
  obtain ⟨rfl, rfl⟩ := h9
  refine ww_if_eq_t (tgt := 31) dX6_checkRun_17 (by decide) (by decide) ?_
  exact ww_vreturn dX6_checkRun_31 rfl ⟨rfl, rfl⟩
set_option maxRecDepth 20000 in
theorem c_checkRun_x {d s : Int32} (hc : ¬ (q_rg 1 2000 d ∧ q_rg 0 3 s)) : ww_C g wy_X6_checkRun 7 1 6 [.int d, .int s] M ww_nr (ww_th "java/lang/IllegalArgumentException" M) := by
  refine ww_ent (by decide +kernel) (Nat.le_of_ble_eq_true rfl) ⟨rfl, rfl, trivial⟩ ?_
  by_cases h1 : q_rg 1 2000 d
  · have h2 : ¬ q_rg 0 3 s := fun z => hc ⟨h1, z⟩
    refine ww_iload_n (i := 0) dX6_checkRun_0 rfl rfl ?_
    refine ww_iconst (v := 1) dX6_checkRun_1 (by decide) ?_
    refine ww_sipush (v := 2000) dX6_checkRun_2 (by decide) ?_
    refine ww_callS wk_X6_41 rfl dX6_checkRun_5 (c_out_f h1) rfl rfl (by omega) (by omega) (by omega) (by first | exact Nat.le_of_ble_eq_true rfl | (simp [ww_rf_cat, Value.category])) rfl (fun E M9 h9 => h9.elim) (fun v9 M9 h9 => ?_)
    obtain ⟨rfl, rfl⟩ := h9
    refine ww_if_ne_f (tgt := 20) dX6_checkRun_8 (by decide) (by decide) ?_
    refine ww_iload_n (i := 1) dX6_checkRun_11 rfl rfl ?_
    refine ww_iconst (v := 0) dX6_checkRun_12 (by decide) ?_
    refine ww_iconst (v := 3) dX6_checkRun_13 (by decide) ?_
    refine ww_callS wk_X6_41 rfl dX6_checkRun_14 (c_out_t h2) rfl rfl (by omega) (by omega) (by omega) (by first | exact Nat.le_of_ble_eq_true rfl | (simp [ww_rf_cat, Value.category])) rfl (fun E M9 h9 => h9.elim) (fun v9 M9 h9 => ?_)
    obtain ⟨rfl, rfl⟩ := h9
    refine ww_if_eq_f (tgt := 31) dX6_checkRun_17 (by decide) (by decide) ?_
    exact ww_throwW wx_X6_45_337 dX6_checkRun_20 dX6_checkRun_23 dX6_checkRun_24 dX6_checkRun_27 dX6_checkRun_30 rfl (Nat.le_of_ble_eq_true rfl) (by omega) (by omega) (by first | exact Nat.le_of_ble_eq_true rfl | (simp [ww_rf_cat, Value.category])) ⟨rfl, rfl⟩
  · refine ww_iload_n (i := 0) dX6_checkRun_0 rfl rfl ?_
    refine ww_iconst (v := 1) dX6_checkRun_1 (by decide) ?_
    refine ww_sipush (v := 2000) dX6_checkRun_2 (by decide) ?_
    refine ww_callS wk_X6_41 rfl dX6_checkRun_5 (c_out_t h1) rfl rfl (by omega) (by omega) (by omega) (by first | exact Nat.le_of_ble_eq_true rfl | (simp [ww_rf_cat, Value.category])) rfl (fun E M9 h9 => h9.elim) (fun v9 M9 h9 => ?_)
    obtain ⟨rfl, rfl⟩ := h9
    refine ww_if_ne_t (tgt := 20) dX6_checkRun_8 (by decide) (by decide) ?_
    exact ww_throwW wx_X6_45_337 dX6_checkRun_20 dX6_checkRun_23 dX6_checkRun_24 dX6_checkRun_27 dX6_checkRun_30 rfl (Nat.le_of_ble_eq_true rfl) (by omega) (by omega) (by first | exact Nat.le_of_ble_eq_true rfl | (simp [ww_rf_cat, Value.category])) ⟨rfl, rfl⟩
/-! foretell -/
def q_cfore (S : Nat → Nat → Int32) (p : Nat) (v s : Int32) : Int32 := if (if S 17 p = 0 then -1 else S 16 p) = -1 then -1 else (if 0 < (if S 17 p = 0 then -1 else S 16 p) - 250 then (if S 17 p = 0 then -1 else S 16 p) - 250 else 0) * 200 / (v * q_fac s)
set_option maxRecDepth 20000 in
theorem c_foretell (hw : ww_wo g M0 M x pl pe n P) (h : ww_pf M P W kl n S) {p : Nat} {v s : Int32} (hp : p < n) (hk : S 2 p = 3) (h1 : q_rg 1 2000 v) (h2 : q_rg 0 3 s) : ww_C g wy_X6_foretell 6 0 0 [.ref x, .int (nI p), .int v, .int s] M (ww_ret (some (.int (q_cfore S p v s))) M) ww_no := by
  refine ww_ent (by decide +kernel) (Nat.le_of_ble_eq_true rfl) ⟨rfl, rfl, rfl, rfl, trivial⟩ ?_
  have hwp := (h.1 p hp).2.1 hk
  have hw5 := hwp.2.1
  have e2 := hwp.2.2.2.2.1
  unfold q_cfore
  rw [← e2]
  by_cases c : ww_I M 202 (W p) = -1
  · rw [if_pos c]
    refine ww_aload_n (i := 0) dX6_foretell_0 rfl rfl ?_
    refine ww_iload_n (i := 1) dX6_foretell_1 rfl rfl ?_
    refine ww_callV (κ := 7) (r := (RX6, TX6, 4)) wk_X6_207 dX6_foretell_2 (c_existingWheel hw h hp hk) rfl rfl (show ww_is _ _ 7 from hw.1).1 (show ww_is _ _ 7 from hw.1).2 rfl rfl (by omega) (by omega) (by omega) (by first | exact Nat.le_of_ble_eq_true rfl | (simp [ww_rf_cat, Value.category])) rfl (fun E M9 h9 => h9.elim) (fun v9 M9 h9 => ?_)
    obtain ⟨rfl, rfl⟩ := h9
    first | refine ww_astore (i := 4) (lv2 := [(0, _), (1, _), (2, _), (3, _), (4, _)]) dX6_foretell_5 (Nat.le_of_ble_eq_true rfl) rfl ?_ | refine ww_astoreQ (i := 4) (lv2 := [(0, _), (1, _), (2, _), (3, _), (4, _)]) dX6_foretell_5 (Nat.le_of_ble_eq_true rfl) rfl ?_
    refine ww_iload_n (i := 2) dX6_foretell_7 rfl rfl ?_
    refine ww_iload_n (i := 3) dX6_foretell_8 rfl rfl ?_
    refine ww_callS wk_X6_163 rfl dX6_foretell_9 (c_checkRun h1 h2) rfl rfl (by omega) (by omega) (by omega) (by first | exact Nat.le_of_ble_eq_true rfl | (simp [ww_rf_cat, Value.category])) rfl (fun E M9 h9 => h9.elim) (fun v9 M9 h9 => ?_)
    obtain ⟨rfl, rfl⟩ := h9
    refine ww_aload (i := 4) dX6_foretell_12 rfl ?_
    refine ww_getI (f := 202) wf_X6_216 dX6_foretell_14 rfl rfl (show ww_is _ _ 5 from hw5).1 (show ww_is _ _ 5 from hw5).2 ?_
    refine ww_iconst (v := (-1)) dX6_foretell_17 (by decide) ?_
    refine ww_icmp_ne_f (tgt := 23) dX6_foretell_18 (by decide) c ?_
    refine ww_iconst (v := (-1)) dX6_foretell_21 (by decide) ?_
    exact ww_ireturn dX6_foretell_22 rfl (by first | rfl | exact ww_b_nar) ⟨rfl, rfl⟩
  · rw [if_neg c]
    refine ww_aload_n (i := 0) dX6_foretell_0 rfl rfl ?_
    refine ww_iload_n (i := 1) dX6_foretell_1 rfl rfl ?_
    refine ww_callV (κ := 7) (r := (RX6, TX6, 4)) wk_X6_207 dX6_foretell_2 (c_existingWheel hw h hp hk) rfl rfl (show ww_is _ _ 7 from hw.1).1 (show ww_is _ _ 7 from hw.1).2 rfl rfl (by omega) (by omega) (by omega) (by first | exact Nat.le_of_ble_eq_true rfl | (simp [ww_rf_cat, Value.category])) rfl (fun E M9 h9 => h9.elim) (fun v9 M9 h9 => ?_)
    obtain ⟨rfl, rfl⟩ := h9
    first | refine ww_astore (i := 4) (lv2 := [(0, _), (1, _), (2, _), (3, _), (4, _)]) dX6_foretell_5 (Nat.le_of_ble_eq_true rfl) rfl ?_ | refine ww_astoreQ (i := 4) (lv2 := [(0, _), (1, _), (2, _), (3, _), (4, _)]) dX6_foretell_5 (Nat.le_of_ble_eq_true rfl) rfl ?_
    refine ww_iload_n (i := 2) dX6_foretell_7 rfl rfl ?_
    refine ww_iload_n (i := 3) dX6_foretell_8 rfl rfl ?_
    refine ww_callS wk_X6_163 rfl dX6_foretell_9 (c_checkRun h1 h2) rfl rfl (by omega) (by omega) (by omega) (by first | exact Nat.le_of_ble_eq_true rfl | (simp [ww_rf_cat, Value.category])) rfl (fun E M9 h9 => h9.elim) (fun v9 M9 h9 => ?_)
    obtain ⟨rfl, rfl⟩ := h9
    refine ww_aload (i := 4) dX6_foretell_12 rfl ?_
    refine ww_getI (f := 202) wf_X6_216 dX6_foretell_14 rfl rfl (show ww_is _ _ 5 from hw5).1 (show ww_is _ _ 5 from hw5).2 ?_
    refine ww_iconst (v := (-1)) dX6_foretell_17 (by decide) ?_
    refine ww_icmp_ne_t (tgt := 23) dX6_foretell_18 (by decide) c ?_
    refine ww_iconst (v := 0) dX6_foretell_23 (by decide) ?_
    refine ww_aload (i := 4) dX6_foretell_24 rfl ?_
    refine ww_getI (f := 202) wf_X6_216 dX6_foretell_26 rfl rfl (show ww_is _ _ 5 from hw5).1 (show ww_is _ _ 5 from hw5).2 ?_
    refine ww_sipush (v := 250) dX6_foretell_29 (by decide) ?_
    refine ww_isub dX6_foretell_32 ?_
    refine ww_mmax wk_X6_320 dX6_foretell_33 (by omega) (by first | exact Nat.le_of_ble_eq_true rfl | (simp [ww_rf_cat, Value.category])) ?_
    refine ww_istore (i := 5) (lv2 := [(0, _), (1, _), (2, _), (3, _), (4, _), (5, _)]) dX6_foretell_36 (Nat.le_of_ble_eq_true rfl) rfl ?_
    refine ww_iload (i := 5) dX6_foretell_38 rfl ?_
    refine ww_sipush (v := 200) dX6_foretell_40 (by decide) ?_
    refine ww_imul dX6_foretell_43 ?_
    refine ww_iload_n (i := 2) dX6_foretell_44 rfl rfl ?_
    refine ww_iload_n (i := 3) dX6_foretell_45 rfl rfl ?_
    refine ww_callS wk_X6_175 rfl dX6_foretell_46 (c_rubbing h2) rfl rfl (by omega) (by omega) (by omega) (by first | exact Nat.le_of_ble_eq_true rfl | (simp [ww_rf_cat, Value.category])) rfl (fun E M9 h9 => h9.elim) (fun v9 M9 h9 => ?_)
    obtain ⟨rfl, rfl⟩ := h9
    refine ww_imul dX6_foretell_49 ?_
    refine ww_idiv dX6_foretell_50 (q_fac_ne h1 h2) ?_
    exact ww_ireturn dX6_foretell_51 rfl (by first | rfl | exact ww_b_nar) ⟨rfl, rfl⟩
set_option maxRecDepth 20000 in
theorem c_foretell_1 (hw : ww_wo g M0 M x pl pe n P) {p : Int32} (v s : Int32) (hc : q_noP n p) : ww_C g wy_X6_foretell 9 1 6 [.ref x, .int p, .int v, .int s] M ww_nr (ww_th "java/lang/IndexOutOfBoundsException" M) := by
  refine ww_ent (by decide +kernel) (Nat.le_of_ble_eq_true rfl) ⟨rfl, rfl, rfl, rfl, trivial⟩ ?_
  refine ww_aload_n (i := 0) dX6_foretell_0 rfl rfl ?_
  refine ww_iload_n (i := 1) dX6_foretell_1 rfl rfl ?_
  refine ww_callV (κ := 7) (r := (RX6, TX6, 4)) wk_X6_207 dX6_foretell_2 (c_existingWheel_1 hw hc) rfl rfl (show ww_is _ _ 7 from hw.1).1 (show ww_is _ _ 7 from hw.1).2 rfl rfl (by omega) (by omega) (by omega) (by first | exact Nat.le_of_ble_eq_true rfl | (simp [ww_rf_cat, Value.category])) rfl (fun E M9 h9 => h9) (fun v9 M9 h9 => ?_)
  exact h9.elim
  -- at 5, locals [0, 1, 2, 3]
set_option maxRecDepth 20000 in
theorem c_foretell_2k (hw : ww_wo g M0 M x pl pe n P) (h : ww_pf M P W kl n S) {p : Nat} (v s : Int32) (hp : p < n) (hk : ¬ S 2 p = 3) : ww_C g wy_X6_foretell 9 1 6 [.ref x, .int (nI p), .int v, .int s] M ww_nr (ww_th "java/lang/IllegalArgumentException" M) := by
  refine ww_ent (by decide +kernel) (Nat.le_of_ble_eq_true rfl) ⟨rfl, rfl, rfl, rfl, trivial⟩ ?_
  refine ww_aload_n (i := 0) dX6_foretell_0 rfl rfl ?_
  refine ww_iload_n (i := 1) dX6_foretell_1 rfl rfl ?_
  refine ww_callV (κ := 7) (r := (RX6, TX6, 4)) wk_X6_207 dX6_foretell_2 (c_existingWheel_2 hw h hp hk) rfl rfl (show ww_is _ _ 7 from hw.1).1 (show ww_is _ _ 7 from hw.1).2 rfl rfl (by omega) (by omega) (by omega) (by first | exact Nat.le_of_ble_eq_true rfl | (simp [ww_rf_cat, Value.category])) rfl (fun E M9 h9 => h9) (fun v9 M9 h9 => ?_)
  exact h9.elim
  -- at 5, locals [0, 1, 2, 3]
set_option maxRecDepth 20000 in
theorem c_foretell_2 (hw : ww_wo g M0 M x pl pe n P) (h : ww_pf M P W kl n S) {p : Nat} {v s : Int32} (hp : p < n) (hk : S 2 p = 3) (hc : ¬ (q_rg 1 2000 v ∧ q_rg 0 3 s)) : ww_C g wy_X6_foretell 9 1 6 [.ref x, .int (nI p), .int v, .int s] M ww_nr (ww_th "java/lang/IllegalArgumentException" M) := by
  refine ww_ent (by decide +kernel) (Nat.le_of_ble_eq_true rfl) ⟨rfl, rfl, rfl, rfl, trivial⟩ ?_
  refine ww_aload_n (i := 0) dX6_foretell_0 rfl rfl ?_
  refine ww_iload_n (i := 1) dX6_foretell_1 rfl rfl ?_
  refine ww_callV (κ := 7) (r := (RX6, TX6, 4)) wk_X6_207 dX6_foretell_2 (c_existingWheel hw h hp hk) rfl rfl (show ww_is _ _ 7 from hw.1).1 (show ww_is _ _ 7 from hw.1).2 rfl rfl (by omega) (by omega) (by omega) (by first | exact Nat.le_of_ble_eq_true rfl | (simp [ww_rf_cat, Value.category])) rfl (fun E M9 h9 => h9.elim) (fun v9 M9 h9 => ?_)
  obtain ⟨rfl, rfl⟩ := h9
  first | refine ww_astore (i := 4) (lv2 := [(0, _), (1, _), (2, _), (3, _), (4, _)]) dX6_foretell_5 (Nat.le_of_ble_eq_true rfl) rfl ?_ | refine ww_astoreQ (i := 4) (lv2 := [(0, _), (1, _), (2, _), (3, _), (4, _)]) dX6_foretell_5 (Nat.le_of_ble_eq_true rfl) rfl ?_
  refine ww_iload_n (i := 2) dX6_foretell_7 rfl rfl ?_
  refine ww_iload_n (i := 3) dX6_foretell_8 rfl rfl ?_
  refine ww_callS wk_X6_163 rfl dX6_foretell_9 (c_checkRun_x hc) rfl rfl (by omega) (by omega) (by omega) (by first | exact Nat.le_of_ble_eq_true rfl | (simp [ww_rf_cat, Value.category])) rfl (fun E M9 h9 => h9) (fun v9 M9 h9 => ?_)
  exact h9.elim
  -- at 12, locals [0, 1, 2, 3, 4]
end WWJ1
