section WWP1
variable {g : ww_G} {M0 M M1 : ww_M} {a x pl pe n : Nat} {P W kl : Nat → Nat} {S : Nat → Nat → Int32} {v : Int32}
/-- the wheels lie apart -/
def ww_wa (W : Nat → Nat) (n : Nat) (S : Nat → Nat → Int32) : Prop := ∀ i j, i < n → j < n → S 2 i = 3 → S 2 j = 3 → W i = W j → i = j
theorem ww_pf_202 (h : ww_pf M P W kl n S) (hW : ww_wa W n S) {p : Nat} (hp : p < n) (hk : S 2 p = 3) : ww_pf (ww_sI M 202 (W p) v) P W kl n (ww_u2 (ww_u2 S 16 p v) 17 p 1) := by
  refine ⟨fun i hi => ?_, fun j hj => ?_, h.2.2⟩
  · obtain ⟨⟨a0, a1, a2, a3, a4, a5⟩, b, c, d, e, ⟨s1, s2, s3, s4, s5, s6, s7, s8, s9⟩, z⟩ := h.1 i hi
    refine ⟨⟨a0, (ww_sI_f (by decide)).trans a1, (ww_sI_f (by decide)).trans a2, (ww_sI_f (by decide)).trans a3, (ww_sI_f (by decide)).trans a4, a5⟩, fun hk' => ?_, c, d, (ww_sI_f (by decide)).trans e, ⟨(ww_sI_f (by decide)).trans s1, (ww_sI_f (by decide)).trans s2, (ww_sI_f (by decide)).trans s3, (ww_sI_f (by decide)).trans s4, (ww_sI_f (by decide)).trans s5, (ww_sI_f (by decide)).trans s6, (ww_sI_f (by decide)).trans s7, (ww_sI_f (by decide)).trans s8, (ww_sI_f (by decide)).trans s9⟩, ?_⟩
    · obtain ⟨w1, w2, w3, w4, w5, w6⟩ := b hk'
      refine ⟨w1, w2, (ww_sI_f (by decide)).trans w3, (ww_sI_f (by decide)).trans w4, ?_, (ww_sI_f (by decide)).trans w6⟩
      show ww_I (ww_sI M 202 (W p) v) 202 (W i) = if ww_u2 (ww_u2 S 16 p v) 17 p 1 17 i = 0 then -1 else ww_u2 (ww_u2 S 16 p v) 17 p 1 16 i
      by_cases q : i = p
      · subst q
        rw [ww_sI_s, ww_u2s, if_neg (by decide)]
        exact ((ww_u2n (fun y => absurd y.1 (by decide))).trans ww_u2s).symm
      · rw [ww_sI_a (fun y => q (hW i p hi hp hk' hk y)), w5, ww_u2n (fun y => q y.2)]
        rw [show ww_u2 S 16 p v 17 i = S 17 i from ww_u2n (fun y => q y.2), show ww_u2 (ww_u2 S 16 p v) 17 p 1 16 i = S 16 i from (ww_u2n (fun y => q y.2)).trans (ww_u2n (fun y => q y.2))]
    · show ww_I (ww_sI M 202 (W p) v) 176 (P i) = -1 ↔ S 12 i = 0
      rw [show ww_I (ww_sI M 202 (W p) v) 176 (P i) = ww_I M 176 (P i) from ww_sI_f (by decide)]
      exact z
  · obtain ⟨l1, l2, l3, l4⟩ := h.2.1 j hj
    exact ⟨l1, (ww_sI_f (by decide)).trans l2, (ww_sI_f (by decide)).trans l3, (ww_sI_f (by decide)).trans l4⟩
set_option maxRecDepth 20000 in
theorem c_gate_1 (hw : ww_wo g M0 M x pl pe n P) {p : Int32} (v : Int32) (hc : q_noP n p) : ww_C g wy_X6_gate 9 1 6 [.ref x, .int p, .int v] M ww_nr (ww_th "java/lang/IndexOutOfBoundsException" M) := by
  refine ww_ent (by decide +kernel) (Nat.le_of_ble_eq_true rfl) ⟨rfl, rfl, rfl, trivial⟩ ?_
  refine ww_aload_n (i := 0) dX6_gate_0 rfl rfl ?_
  refine ww_iload_n (i := 1) dX6_gate_1 rfl rfl ?_
  refine ww_callV (κ := 7) (r := (RX6, TX6, 4)) wk_X6_207 dX6_gate_2 (c_existingWheel_1 hw hc) rfl rfl (show ww_is _ _ 7 from hw.1).1 (show ww_is _ _ 7 from hw.1).2 rfl rfl (by omega) (by omega) (by omega) (by first | exact Nat.le_of_ble_eq_true rfl | (simp [ww_rf_cat, Value.category])) rfl (fun E M9 h9 => h9) (fun v9 M9 h9 => ?_)
  exact h9.elim
  -- at 5, locals [0, 1, 2]
set_option maxRecDepth 20000 in
theorem c_gate_2 (hw : ww_wo g M0 M x pl pe n P) (h : ww_pf M P W kl n S) {p : Nat} (hp : p < n) (hc : ¬ (S 2 p = 3 ∧ q_rg (-5) 5 v)) : ww_C g wy_X6_gate 9 1 6 [.ref x, .int (nI p), .int v] M ww_nr (ww_th "java/lang/IllegalArgumentException" M) := by
  refine ww_ent (by decide +kernel) (Nat.le_of_ble_eq_true rfl) ⟨rfl, rfl, rfl, trivial⟩ ?_
  by_cases c1 : S 2 p = 3
  · have hv : ¬ q_rg (-5) 5 v := fun z => hc ⟨c1, z⟩
    refine ww_aload_n (i := 0) dX6_gate_0 rfl rfl ?_
    refine ww_iload_n (i := 1) dX6_gate_1 rfl rfl ?_
    refine ww_callV (κ := 7) (r := (RX6, TX6, 4)) wk_X6_207 dX6_gate_2 (c_existingWheel hw h hp c1) rfl rfl (show ww_is _ _ 7 from hw.1).1 (show ww_is _ _ 7 from hw.1).2 rfl rfl (by omega) (by omega) (by omega) (by first | exact Nat.le_of_ble_eq_true rfl | (simp [ww_rf_cat, Value.category])) rfl (fun E M9 h9 => h9.elim) (fun v9 M9 h9 => ?_)
    obtain ⟨rfl, rfl⟩ := h9
    first | refine ww_astore_n (i := 3) (lv2 := [(0, _), (1, _), (2, _), (3, _)]) dX6_gate_5 rfl (Nat.le_of_ble_eq_true rfl) rfl ?_ | refine ww_astore_nQ (i := 3) (lv2 := [(0, _), (1, _), (2, _), (3, _)]) dX6_gate_5 rfl (Nat.le_of_ble_eq_true rfl) rfl ?_
    refine ww_iload_n (i := 2) dX6_gate_6 rfl rfl ?_
    refine ww_bipush (v := (-5)) dX6_gate_7 (by decide) ?_
    refine ww_iconst (v := 5) dX6_gate_9 (by decide) ?_
    refine ww_callS wk_X6_41 rfl dX6_gate_10 (c_out_t hv) rfl rfl (by omega) (by omega) (by omega) (by first | exact Nat.le_of_ble_eq_true rfl | (simp [ww_rf_cat, Value.category])) rfl (fun E M9 h9 => h9.elim) (fun v9 M9 h9 => ?_)
    obtain ⟨rfl, rfl⟩ := h9
    refine ww_if_eq_f (tgt := 26) dX6_gate_13 (by decide) (by decide) ?_
    exact ww_throw wx_X6_45_211 dX6_gate_16 dX6_gate_19 dX6_gate_20 dX6_gate_22 dX6_gate_25 rfl (Nat.le_of_ble_eq_true rfl) (by omega) (by omega) (by first | exact Nat.le_of_ble_eq_true rfl | (simp [ww_rf_cat, Value.category])) ⟨rfl, rfl⟩
  · refine ww_aload_n (i := 0) dX6_gate_0 rfl rfl ?_
    refine ww_iload_n (i := 1) dX6_gate_1 rfl rfl ?_
    refine ww_callV (κ := 7) (r := (RX6, TX6, 4)) wk_X6_207 dX6_gate_2 (c_existingWheel_2 hw h hp c1) rfl rfl (show ww_is _ _ 7 from hw.1).1 (show ww_is _ _ 7 from hw.1).2 rfl rfl (by omega) (by omega) (by omega) (by first | exact Nat.le_of_ble_eq_true rfl | (simp [ww_rf_cat, Value.category])) rfl (fun E M9 h9 => h9) (fun v9 M9 h9 => ?_)
    exact h9.elim
    -- at 5, locals [0, 1, 2]
set_option maxRecDepth 20000 in
theorem c_gate_0 (hw : ww_wo g M0 M x pl pe n P) (h : ww_pf M P W kl n S) (hW : ww_wa W n S) {p : Nat} (hp : p < n) (hk : S 2 p = 3) (hv : q_rg (-5) 5 v) : ww_C g wy_X6_gate 6 0 0 [.ref x, .int (nI p), .int v] M (ww_cq g M0 (some (.int (S 14 p + v))) x pl pe n P W kl (ww_u2 (ww_u2 S 16 p (S 14 p + v)) 17 p 1)) ww_no := by
  refine ww_ent (by decide +kernel) (Nat.le_of_ble_eq_true rfl) ⟨rfl, rfl, rfl, trivial⟩ ?_
  obtain ⟨_, hw5, _, k14, _⟩ := (h.1 p hp).2.1 hk
  have hend := ww_pf_202 (v := S 14 p + v) h hW hp hk
  have e : ww_I (ww_sI M 202 (W p) (S 14 p + v)) 202 (W p) = S 14 p + v := ww_sI_s
  refine ww_aload_n (i := 0) dX6_gate_0 rfl rfl ?_
  refine ww_iload_n (i := 1) dX6_gate_1 rfl rfl ?_
  refine ww_callV (κ := 7) (r := (RX6, TX6, 4)) wk_X6_207 dX6_gate_2 (c_existingWheel hw h hp hk) rfl rfl (show ww_is _ _ 7 from hw.1).1 (show ww_is _ _ 7 from hw.1).2 rfl rfl (by omega) (by omega) (by omega) (by first | exact Nat.le_of_ble_eq_true rfl | (simp [ww_rf_cat, Value.category])) rfl (fun E M9 h9 => h9.elim) (fun v9 M9 h9 => ?_)
  obtain ⟨rfl, rfl⟩ := h9
  first | refine ww_astore_n (i := 3) (lv2 := [(0, _), (1, _), (2, _), (3, _)]) dX6_gate_5 rfl (Nat.le_of_ble_eq_true rfl) rfl ?_ | refine ww_astore_nQ (i := 3) (lv2 := [(0, _), (1, _), (2, _), (3, _)]) dX6_gate_5 rfl (Nat.le_of_ble_eq_true rfl) rfl ?_
  refine ww_iload_n (i := 2) dX6_gate_6 rfl rfl ?_
  refine ww_bipush (v := (-5)) dX6_gate_7 (by decide) ?_
  refine ww_iconst (v := 5) dX6_gate_9 (by decide) ?_
  refine ww_callS wk_X6_41 rfl dX6_gate_10 (c_out_f hv) rfl rfl (by omega) (by omega) (by omega) (by first | exact Nat.le_of_ble_eq_true rfl | (simp [ww_rf_cat, Value.category])) rfl (fun E M9 h9 => h9.elim) (fun v9 M9 h9 => ?_)
  obtain ⟨rfl, rfl⟩ := h9
  refine ww_if_eq_t (tgt := 26) dX6_gate_13 (by decide) (by decide) ?_
  refine ww_aload_n (i := 3) dX6_gate_26 rfl rfl ?_
  refine ww_aload_n (i := 3) dX6_gate_27 rfl rfl ?_
  refine ww_getI (f := 201) wf_X6_213 dX6_gate_28 rfl rfl (show ww_is _ _ 5 from hw5).1 (show ww_is _ _ 5 from hw5).2 ?_
  -- at 31, locals [0, 1, 2, 3]
  rw [k14]
  refine ww_iload_n (i := 2) dX6_gate_31 rfl rfl ?_
  refine ww_iadd dX6_gate_32 ?_
  refine ww_putI (f := 202) wf_X6_216 wt_5_2 dX6_gate_33 rfl rfl (show ww_is _ _ 5 from (by assumption)).1 (show ww_is _ _ 5 from (by assumption)).2 rfl rfl ?_
  refine ww_aload_n (i := 3) dX6_gate_36 rfl rfl ?_
  refine ww_getI (f := 202) wf_X6_216 dX6_gate_37 rfl rfl (show ww_is _ _ 5 from hw5).1 (show ww_is _ _ 5 from hw5).2 ?_
  -- at 40, locals [0, 1, 2, 3]
  rw [e]
  exact ww_ireturn dX6_gate_40 rfl (by first | rfl | exact ww_b_nar) ⟨rfl, ww_wo_I hw (by decide), hend⟩
end WWP1
