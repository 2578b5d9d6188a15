section WWG1
variable {g : ww_G} {M0 M M1 : ww_M} {a x pl pe n : Nat} {P W kl : Nat → Nat} {S : Nat → Nat → Int32}
noncomputable def q_sp (S : Nat → Nat → Int32) (n p : Nat) : Int32 := q_chi S p n - q_clo S p n
def q_cap (S : Nat → Nat → Int32) (n p : Nat) : Prop := (S 2 p = 2 ∧ 20 < q_sp S n p) ∨ (S 2 p = 1 ∧ 60 < q_sp S n p)
set_option maxRecDepth 20000 in
set_option maxHeartbeats 4000000 in
theorem c_isApart (hw : ww_wo g M0 M x pl pe n P) (h : ww_pf M P W kl n S) (hG : q_G S n) {p : Nat} (hp : p < n) : ww_C g wy_X6_isApart 5 0 0 [.ref x, .ref (P p)] M (ww_ret (some (.int (ww_b (q_cap S n p)))) M) ww_no := by
  refine ww_ent (by decide +kernel) (Nat.le_of_ble_eq_true rfl) ⟨rfl, rfl, trivial⟩ ?_
  have hp4 := (h.1 p hp).1.1
  have hk := ww_pf_kd h p hp
  have hs := c_spread (g := g) hw h hG hp
  by_cases c2 : S 2 p = 2
  · have c2' : ww_I M 161 (P p) = 2 := hk.trans c2
    have c1' : ¬ ww_I M 161 (P p) = 1 := by rw [c2']; decide
    by_cases c3 : 20 < q_sp S n p
    · rw [ww_b_t (P := q_cap S n p) (Or.inl ⟨c2, c3⟩)]
      refine ww_aload_n (i := 1) dX6_isApart_0 rfl rfl ?_
      refine ww_getI (f := 161) wf_X6_87 dX6_isApart_1 rfl rfl (show ww_is _ _ 4 from hp4).1 (show ww_is _ _ 4 from hp4).2 ?_
      refine ww_iconst (v := 2) dX6_isApart_4 (by decide) ?_
      refine ww_icmp_ne_f (tgt := 18) dX6_isApart_5 (by decide) c2' ?_
      refine ww_aload_n (i := 0) dX6_isApart_8 rfl rfl ?_
      refine ww_aload_n (i := 1) dX6_isApart_9 rfl rfl ?_
      refine ww_callV (κ := 7) (r := (RX6, TX6, 4)) wk_X6_367 dX6_isApart_10 (hs) rfl rfl (show ww_is _ _ 7 from hw.1).1 (show ww_is _ _ 7 from hw.1).2 rfl rfl (by omega) (by omega) (by omega) (by first | exact Nat.le_of_ble_eq_true rfl | (simp [ww_rf_cat, Value.category])) rfl (fun E M9 h9 => h9.elim) (fun v9 M9 h9 => ?_)
      obtain ⟨rfl, rfl⟩ := h9
      refine ww_bipush (v := 20) dX6_isApart_13 (by decide) ?_
      refine ww_icmp_gt_t (tgt := 36) dX6_isApart_15 (by decide) c3 ?_
      refine ww_iconst (v := 1) dX6_isApart_36 (by decide) ?_
      refine ww_goto (tgt := 41) dX6_isApart_37 (by decide) ?_
      exact ww_ireturn dX6_isApart_41 rfl (by first | rfl | exact ww_b_nar) ⟨rfl, rfl⟩
    · rw [ww_b_f (fun z => z.elim (fun y => c3 y.2) (fun y => absurd (c2.symm.trans y.1) (by decide)))]
      refine ww_aload_n (i := 1) dX6_isApart_0 rfl rfl ?_
      refine ww_getI (f := 161) wf_X6_87 dX6_isApart_1 rfl rfl (show ww_is _ _ 4 from hp4).1 (show ww_is _ _ 4 from hp4).2 ?_
      refine ww_iconst (v := 2) dX6_isApart_4 (by decide) ?_
      refine ww_icmp_ne_f (tgt := 18) dX6_isApart_5 (by decide) c2' ?_
      refine ww_aload_n (i := 0) dX6_isApart_8 rfl rfl ?_
      refine ww_aload_n (i := 1) dX6_isApart_9 rfl rfl ?_
      refine ww_callV (κ := 7) (r := (RX6, TX6, 4)) wk_X6_367 dX6_isApart_10 (hs) rfl rfl (show ww_is _ _ 7 from hw.1).1 (show ww_is _ _ 7 from hw.1).2 rfl rfl (by omega) (by omega) (by omega) (by first | exact Nat.le_of_ble_eq_true rfl | (simp [ww_rf_cat, Value.category])) rfl (fun E M9 h9 => h9.elim) (fun v9 M9 h9 => ?_)
      obtain ⟨rfl, rfl⟩ := h9
      refine ww_bipush (v := 20) dX6_isApart_13 (by decide) ?_
      refine ww_icmp_gt_f (tgt := 36) dX6_isApart_15 (by decide) c3 ?_
      refine ww_aload_n (i := 1) dX6_isApart_18 rfl rfl ?_
      refine ww_getI (f := 161) wf_X6_87 dX6_isApart_19 rfl rfl (show ww_is _ _ 4 from hp4).1 (show ww_is _ _ 4 from hp4).2 ?_
      refine ww_iconst (v := 1) dX6_isApart_22 (by decide) ?_
      refine ww_icmp_ne_t (tgt := 40) dX6_isApart_23 (by decide) c1' ?_
      refine ww_iconst (v := 0) dX6_isApart_40 (by decide) ?_
      exact ww_ireturn dX6_isApart_41 rfl (by first | rfl | exact ww_b_nar) ⟨rfl, rfl⟩
  · have c2' : ¬ ww_I M 161 (P p) = 2 := fun z => c2 (hk.symm.trans z)
    by_cases c1 : S 2 p = 1
    · have c1' : ww_I M 161 (P p) = 1 := hk.trans c1
      by_cases c3 : 60 < q_sp S n p
      · have c3' : ¬ q_sp S n p ≤ 60 := by rw [ww_le']; rw [ww_lt] at c3; omega
        rw [ww_b_t (P := q_cap S n p) (Or.inr ⟨c1, c3⟩)]
        refine ww_aload_n (i := 1) dX6_isApart_0 rfl rfl ?_
        refine ww_getI (f := 161) wf_X6_87 dX6_isApart_1 rfl rfl (show ww_is _ _ 4 from hp4).1 (show ww_is _ _ 4 from hp4).2 ?_
        refine ww_iconst (v := 2) dX6_isApart_4 (by decide) ?_
        refine ww_icmp_ne_t (tgt := 18) dX6_isApart_5 (by decide) c2' ?_
        refine ww_aload_n (i := 1) dX6_isApart_18 rfl rfl ?_
        refine ww_getI (f := 161) wf_X6_87 dX6_isApart_19 rfl rfl (show ww_is _ _ 4 from hp4).1 (show ww_is _ _ 4 from hp4).2 ?_
        refine ww_iconst (v := 1) dX6_isApart_22 (by decide) ?_
        refine ww_icmp_ne_f (tgt := 40) dX6_isApart_23 (by decide) c1' ?_
        refine ww_aload_n (i := 0) dX6_isApart_26 rfl rfl ?_
        refine ww_aload_n (i := 1) dX6_isApart_27 rfl rfl ?_
        refine ww_callV (κ := 7) (r := (RX6, TX6, 4)) wk_X6_367 dX6_isApart_28 (hs) rfl rfl (show ww_is _ _ 7 from hw.1).1 (show ww_is _ _ 7 from hw.1).2 rfl rfl (by omega) (by omega) (by omega) (by first | exact Nat.le_of_ble_eq_true rfl | (simp [ww_rf_cat, Value.category])) rfl (fun E M9 h9 => h9.elim) (fun v9 M9 h9 => ?_)
        obtain ⟨rfl, rfl⟩ := h9
        refine ww_bipush (v := 60) dX6_isApart_31 (by decide) ?_
        refine ww_icmp_le_f (tgt := 40) dX6_isApart_33 (by decide) c3' ?_
        refine ww_iconst (v := 1) dX6_isApart_36 (by decide) ?_
        refine ww_goto (tgt := 41) dX6_isApart_37 (by decide) ?_
        exact ww_ireturn dX6_isApart_41 rfl (by first | rfl | exact ww_b_nar) ⟨rfl, rfl⟩
      · have c3' : q_sp S n p ≤ 60 := by rw [ww_le']; rw [ww_lt] at c3; omega
        rw [ww_b_f (fun z => z.elim (fun y => c2 y.1) (fun y => c3 y.2))]
        refine ww_aload_n (i := 1) dX6_isApart_0 rfl rfl ?_
        refine ww_getI (f := 161) wf_X6_87 dX6_isApart_1 rfl rfl (show ww_is _ _ 4 from hp4).1 (show ww_is _ _ 4 from hp4).2 ?_
        refine ww_iconst (v := 2) dX6_isApart_4 (by decide) ?_
        refine ww_icmp_ne_t (tgt := 18) dX6_isApart_5 (by decide) c2' ?_
        refine ww_aload_n (i := 1) dX6_isApart_18 rfl rfl ?_
        refine ww_getI (f := 161) wf_X6_87 dX6_isApart_19 rfl rfl (show ww_is _ _ 4 from hp4).1 (show ww_is _ _ 4 from hp4).2 ?_
        refine ww_iconst (v := 1) dX6_isApart_22 (by decide) ?_
        refine ww_icmp_ne_f (tgt := 40) dX6_isApart_23 (by decide) c1' ?_
        refine ww_aload_n (i := 0) dX6_isApart_26 rfl rfl ?_
        refine ww_aload_n (i := 1) dX6_isApart_27 rfl rfl ?_
        refine ww_callV (κ := 7) (r := (RX6, TX6, 4)) wk_X6_367 dX6_isApart_28 (hs) rfl rfl (show ww_is _ _ 7 from hw.1).1 (show ww_is _ _ 7 from hw.1).2 rfl rfl (by omega) (by omega) (by omega) (by first | exact Nat.le_of_ble_eq_true rfl | (simp [ww_rf_cat, Value.category])) rfl (fun E M9 h9 => h9.elim) (fun v9 M9 h9 => ?_)
        obtain ⟨rfl, rfl⟩ := h9
        refine ww_bipush (v := 60) dX6_isApart_31 (by decide) ?_
        refine ww_icmp_le_t (tgt := 40) dX6_isApart_33 (by decide) c3' ?_
        refine ww_iconst (v := 0) dX6_isApart_40 (by decide) ?_
        exact ww_ireturn dX6_isApart_41 rfl (by first | rfl | exact ww_b_nar) ⟨rfl, rfl⟩
    · have c1' : ¬ ww_I M 161 (P p) = 1 := fun z => c1 (hk.symm.trans z)
      rw [ww_b_f (fun z => z.elim (fun y => c2 y.1) (fun y => c1 y.1))]
      refine ww_aload_n (i := 1) dX6_isApart_0 rfl rfl ?_
      refine ww_getI (f := 161) wf_X6_87 dX6_isApart_1 rfl rfl (show ww_is _ _ 4 from hp4).1 (show ww_is _ _ 4 from hp4).2 ?_
      refine ww_iconst (v := 2) dX6_isApart_4 (by decide) ?_
      refine ww_icmp_ne_t (tgt := 18) dX6_isApart_5 (by decide) c2' ?_
      refine ww_aload_n (i := 1) dX6_isApart_18 rfl rfl ?_
      refine ww_getI (f := 161) wf_X6_87 dX6_isApart_19 rfl rfl (show ww_is _ _ 4 from hp4).1 (show ww_is _ _ 4 from hp4).2 ?_
      refine ww_iconst (v := 1) dX6_isApart_22 (by decide) ?_
      refine ww_icmp_ne_t (tgt := 40) dX6_isApart_23 (by decide) c1' ?_
      refine ww_iconst (v := 0) dX6_isApart_40 (by decide) ?_
      exact ww_ireturn dX6_isApart_41 rfl (by first | rfl | exact ww_b_nar) ⟨rfl, rfl⟩
def q_cdue (S : Nat → Nat → Int32) (p : Nat) : Prop := ¬ S 21 (q_kd S p) ≤ 0 ∧ ¬ S 7 p ≤ S 21 (q_kd S p) + S 8 p
def q_so (S : Nat → Nat → Int32) (n p r : Nat) : Prop := (r = 1 ∧ q_any (q_room S n p) 5) ∨ (r = 2 ∧ S 9 p = 1) ∨ (r = 3 ∧ S 10 p = 1) ∨ (r = 4 ∧ q_life S p) ∨ (r = 5 ∧ q_worn S p) ∨ (r = 6 ∧ q_cap S n p) ∨ (r = 7 ∧ q_cdue S p)
theorem q_so_1 {S : Nat → Nat → Int32} {n p : Nat} : q_so S n p 1 ↔ q_any (q_room S n p) 5 := by simp [q_so]
theorem q_so_2 {S : Nat → Nat → Int32} {n p : Nat} : q_so S n p 2 ↔ S 9 p = 1 := by simp [q_so]
theorem q_so_3 {S : Nat → Nat → Int32} {n p : Nat} : q_so S n p 3 ↔ S 10 p = 1 := by simp [q_so]
theorem q_so_4 {S : Nat → Nat → Int32} {n p : Nat} : q_so S n p 4 ↔ q_life S p := by simp [q_so]
theorem q_so_5 {S : Nat → Nat → Int32} {n p : Nat} : q_so S n p 5 ↔ q_worn S p := by simp [q_so]
theorem q_so_6 {S : Nat → Nat → Int32} {n p : Nat} : q_so S n p 6 ↔ q_cap S n p := by simp [q_so]
theorem q_so_7 {S : Nat → Nat → Int32} {n p : Nat} : q_so S n p 7 ↔ q_cdue S p := by simp [q_so]
set_option maxRecDepth 20000 in
set_option maxHeartbeats 4000000 in
theorem c_isSo1 (hw : ww_wo g M0 M x pl pe n P) (h : ww_pf M P W kl n S) (hG : q_G S n) {p r : Nat} (hp : p < n) (hr1 : 1 ≤ r) (hr7 : r ≤ 7) : ww_C g wy_X6_isSo 6 0 0 [.ref x, .ref (P p), .int (nI r)] M (ww_ret (some (.int (ww_b (q_so S n p r)))) M) ww_no := by
  refine ww_ent (by decide +kernel) (Nat.le_of_ble_eq_true rfl) ⟨rfl, rfl, rfl, trivial⟩ ?_
  obtain ⟨⟨hp4, _, hk, _, _, hR4⟩, _, _, _, _, ⟨k6, k7, k8, k9, k10, _⟩, _⟩ := h.1 p hp
  have hkd := q_kd_of hG.2.2.1 hp
  have hl := h.2.1 (q_kd S p) hkd.2
  refine ww_iload_n (i := 2) dX6_isSo_0 rfl rfl ?_
  -- at 1, locals [0, 1, 2]
  rcases (show r = 1 ∨ r = 2 ∨ r = 3 ∨ r = 4 ∨ r = 5 ∨ r = 6 ∨ r = 7 by omega) with rfl | rfl | rfl | rfl | rfl | rfl | rfl
  · rw [ww_b_cg q_so_1]
    refine ww_tableIn (off := 43) (tgt := 44) dX6_isSo_1 (by decide) (by decide) rfl (by decide) ?_
    refine ww_aload_n (i := 0) dX6_isSo_44 rfl rfl ?_
    refine ww_aload_n (i := 1) dX6_isSo_45 rfl rfl ?_
    refine ww_callV (κ := 7) (r := (RX6, TX6, 4)) wk_X6_355 dX6_isSo_46 (c_hasEmpty hw h hG hp) rfl rfl (show ww_is _ _ 7 from hw.1).1 (show ww_is _ _ 7 from hw.1).2 rfl rfl (by omega) (by omega) (by omega) (by first | exact Nat.le_of_ble_eq_true rfl | (simp [ww_rf_cat, Value.category])) rfl (fun E M9 h9 => h9.elim) (fun v9 M9 h9 => ?_)
    obtain ⟨rfl, rfl⟩ := h9
    exact ww_ireturn dX6_isSo_49 rfl (by first | rfl | exact ww_b_nar) ⟨rfl, rfl⟩
  · rw [ww_b_cg q_so_2, ← ww_b_of (hG.2.2.2.1 p), ← k9]
    refine ww_tableIn (off := 49) (tgt := 50) dX6_isSo_1 (by decide) (by decide) rfl (by decide) ?_
    have hnar : narrow .boolean (.int (ww_I M 171 (P p))) = .int (ww_I M 171 (P p)) := by
      rw [k9]
      rcases hG.2.2.2.1 p with e | e <;> rw [e] <;> rfl
    refine ww_aload_n (i := 1) dX6_isSo_50 rfl rfl ?_
    refine ww_getI (f := 171) wf_X6_100 dX6_isSo_51 rfl rfl (show ww_is _ _ 4 from hp4).1 (show ww_is _ _ 4 from hp4).2 ?_
    -- at 54, locals [0, 1, 2]
    exact ww_ireturn dX6_isSo_54 rfl hnar ⟨rfl, rfl⟩
  · rw [ww_b_cg q_so_3, ← ww_b_of (hG.2.2.2.2.1 p), ← k10]
    refine ww_tableIn (off := 54) (tgt := 55) dX6_isSo_1 (by decide) (by decide) rfl (by decide) ?_
    have hnar : narrow .boolean (.int (ww_I M 172 (P p))) = .int (ww_I M 172 (P p)) := by
      rw [k10]
      rcases hG.2.2.2.2.1 p with e | e <;> rw [e] <;> rfl
    refine ww_aload_n (i := 1) dX6_isSo_55 rfl rfl ?_
    refine ww_getI (f := 172) wf_X6_248 dX6_isSo_56 rfl rfl (show ww_is _ _ 4 from hp4).1 (show ww_is _ _ 4 from hp4).2 ?_
    -- at 59, locals [0, 1, 2]
    exact ww_ireturn dX6_isSo_59 rfl hnar ⟨rfl, rfl⟩
  · rw [ww_b_cg q_so_4]
    refine ww_tableIn (off := 59) (tgt := 60) dX6_isSo_1 (by decide) (by decide) rfl (by decide) ?_
    by_cases c1 : 0 < S 20 (q_kd S p)
    · have c1' : ¬ ww_I M 80 (kl (q_kd S p)) ≤ 0 := by rw [hl.2.1, ww_le']; rw [ww_lt] at c1; omega
      by_cases c2 : S 20 (q_kd S p) < S 6 p
      · have c2' : ¬ ww_I M 168 (P p) ≤ ww_I M 80 (kl (q_kd S p)) := by rw [hl.2.1, k6, ww_le']; rw [ww_lt] at c2; omega
        rw [ww_b_t (P := q_life S p) ⟨c1, c2⟩]
        refine ww_aload_n (i := 1) dX6_isSo_60 rfl rfl ?_
        refine ww_getR (f := 164) wf_X6_232 dX6_isSo_61 rfl rfl (show ww_is _ _ 4 from hp4).1 (show ww_is _ _ 4 from hp4).2 hR4 ?_
        refine ww_getI (f := 80) wf_X6_73 dX6_isSo_64 rfl rfl (show ww_is _ _ 2 from hl.1).1 (show ww_is _ _ 2 from hl.1).2 ?_
        refine ww_if_le_f (tgt := 88) dX6_isSo_67 (by decide) c1' ?_
        refine ww_aload_n (i := 1) dX6_isSo_70 rfl rfl ?_
        refine ww_getI (f := 168) wf_X6_242 dX6_isSo_71 rfl rfl (show ww_is _ _ 4 from hp4).1 (show ww_is _ _ 4 from hp4).2 ?_
        refine ww_aload_n (i := 1) dX6_isSo_74 rfl rfl ?_
        refine ww_getR (f := 164) wf_X6_232 dX6_isSo_75 rfl rfl (show ww_is _ _ 4 from hp4).1 (show ww_is _ _ 4 from hp4).2 hR4 ?_
        refine ww_getI (f := 80) wf_X6_73 dX6_isSo_78 rfl rfl (show ww_is _ _ 2 from hl.1).1 (show ww_is _ _ 2 from hl.1).2 ?_
        refine ww_icmp_le_f (tgt := 88) dX6_isSo_81 (by decide) c2' ?_
        refine ww_iconst (v := 1) dX6_isSo_84 (by decide) ?_
        refine ww_goto (tgt := 89) dX6_isSo_85 (by decide) ?_
        exact ww_ireturn dX6_isSo_89 rfl (by first | rfl | exact ww_b_nar) ⟨rfl, rfl⟩
      · have c2' : ww_I M 168 (P p) ≤ ww_I M 80 (kl (q_kd S p)) := by rw [hl.2.1, k6, ww_le']; rw [ww_lt] at c2; omega
        rw [ww_b_f (P := q_life S p) (fun z => c2 z.2)]
        refine ww_aload_n (i := 1) dX6_isSo_60 rfl rfl ?_
        refine ww_getR (f := 164) wf_X6_232 dX6_isSo_61 rfl rfl (show ww_is _ _ 4 from hp4).1 (show ww_is _ _ 4 from hp4).2 hR4 ?_
        refine ww_getI (f := 80) wf_X6_73 dX6_isSo_64 rfl rfl (show ww_is _ _ 2 from hl.1).1 (show ww_is _ _ 2 from hl.1).2 ?_
        refine ww_if_le_f (tgt := 88) dX6_isSo_67 (by decide) c1' ?_
        refine ww_aload_n (i := 1) dX6_isSo_70 rfl rfl ?_
        refine ww_getI (f := 168) wf_X6_242 dX6_isSo_71 rfl rfl (show ww_is _ _ 4 from hp4).1 (show ww_is _ _ 4 from hp4).2 ?_
        refine ww_aload_n (i := 1) dX6_isSo_74 rfl rfl ?_
        refine ww_getR (f := 164) wf_X6_232 dX6_isSo_75 rfl rfl (show ww_is _ _ 4 from hp4).1 (show ww_is _ _ 4 from hp4).2 hR4 ?_
        refine ww_getI (f := 80) wf_X6_73 dX6_isSo_78 rfl rfl (show ww_is _ _ 2 from hl.1).1 (show ww_is _ _ 2 from hl.1).2 ?_
        refine ww_icmp_le_t (tgt := 88) dX6_isSo_81 (by decide) c2' ?_
        refine ww_iconst (v := 0) dX6_isSo_88 (by decide) ?_
        exact ww_ireturn dX6_isSo_89 rfl (by first | rfl | exact ww_b_nar) ⟨rfl, rfl⟩
    · have c1' : ww_I M 80 (kl (q_kd S p)) ≤ 0 := by rw [hl.2.1, ww_le']; rw [ww_lt] at c1; omega
      rw [ww_b_f (P := q_life S p) (fun z => c1 z.1)]
      refine ww_aload_n (i := 1) dX6_isSo_60 rfl rfl ?_
      refine ww_getR (f := 164) wf_X6_232 dX6_isSo_61 rfl rfl (show ww_is _ _ 4 from hp4).1 (show ww_is _ _ 4 from hp4).2 hR4 ?_
      refine ww_getI (f := 80) wf_X6_73 dX6_isSo_64 rfl rfl (show ww_is _ _ 2 from hl.1).1 (show ww_is _ _ 2 from hl.1).2 ?_
      refine ww_if_le_t (tgt := 88) dX6_isSo_67 (by decide) c1' ?_
      refine ww_iconst (v := 0) dX6_isSo_88 (by decide) ?_
      exact ww_ireturn dX6_isSo_89 rfl (by first | rfl | exact ww_b_nar) ⟨rfl, rfl⟩
  · rw [ww_b_cg q_so_5]
    refine ww_tableIn (off := 89) (tgt := 90) dX6_isSo_1 (by decide) (by decide) rfl (by decide) ?_
    by_cases c1 : S 2 p = 3
    · have hwh := (h.1 p hp).2.1 c1
      have hR := hwh.1
      have hworn := c_isWorn (g := g) hwh.2.1
      rw [hwh.2.2.1, hwh.2.2.2.1] at hworn
      by_cases c2 : S 13 p < 8500 ∨ S 14 p < 250
      · rw [ww_b_t (P := q_worn S p) ⟨c1, c2⟩]
        rw [if_pos c2] at hworn
        refine ww_aload_n (i := 1) dX6_isSo_90 rfl rfl ?_
        refine ww_getR (f := 165) wf_X6_345 dX6_isSo_91 rfl rfl (show ww_is _ _ 4 from hp4).1 (show ww_is _ _ 4 from hp4).2 hR ?_
        refine ww_ifnull_f dX6_isSo_94 ?_
        refine ww_aload_n (i := 1) dX6_isSo_97 rfl rfl ?_
        refine ww_getR (f := 165) wf_X6_345 dX6_isSo_98 rfl rfl (show ww_is _ _ 4 from hp4).1 (show ww_is _ _ 4 from hp4).2 hR ?_
        refine ww_callV (κ := 5) (r := (RX4, TX4, 4)) wk_X6_358 dX6_isSo_101 (hworn) rfl rfl (show ww_is _ _ 5 from hwh.2.1).1 (show ww_is _ _ 5 from hwh.2.1).2 rfl rfl (by omega) (by omega) (by omega) (by first | exact Nat.le_of_ble_eq_true rfl | (simp [ww_rf_cat, Value.category])) rfl (fun E M9 h9 => h9.elim) (fun v9 M9 h9 => ?_)
        obtain ⟨rfl, rfl⟩ := h9
        refine ww_if_eq_f (tgt := 111) dX6_isSo_104 (by decide) (by decide) ?_
        refine ww_iconst (v := 1) dX6_isSo_107 (by decide) ?_
        refine ww_goto (tgt := 112) dX6_isSo_108 (by decide) ?_
        exact ww_ireturn dX6_isSo_112 rfl (by first | rfl | exact ww_b_nar) ⟨rfl, rfl⟩
      · rw [ww_b_f (P := q_worn S p) (fun z => c2 z.2)]
        rw [if_neg c2] at hworn
        refine ww_aload_n (i := 1) dX6_isSo_90 rfl rfl ?_
        refine ww_getR (f := 165) wf_X6_345 dX6_isSo_91 rfl rfl (show ww_is _ _ 4 from hp4).1 (show ww_is _ _ 4 from hp4).2 hR ?_
        refine ww_ifnull_f dX6_isSo_94 ?_
        refine ww_aload_n (i := 1) dX6_isSo_97 rfl rfl ?_
        refine ww_getR (f := 165) wf_X6_345 dX6_isSo_98 rfl rfl (show ww_is _ _ 4 from hp4).1 (show ww_is _ _ 4 from hp4).2 hR ?_
        refine ww_callV (κ := 5) (r := (RX4, TX4, 4)) wk_X6_358 dX6_isSo_101 (hworn) rfl rfl (show ww_is _ _ 5 from hwh.2.1).1 (show ww_is _ _ 5 from hwh.2.1).2 rfl rfl (by omega) (by omega) (by omega) (by first | exact Nat.le_of_ble_eq_true rfl | (simp [ww_rf_cat, Value.category])) rfl (fun E M9 h9 => h9.elim) (fun v9 M9 h9 => ?_)
        obtain ⟨rfl, rfl⟩ := h9
        refine ww_if_eq_t (tgt := 111) dX6_isSo_104 (by decide) (by decide) ?_
        refine ww_iconst (v := 0) dX6_isSo_111 (by decide) ?_
        exact ww_ireturn dX6_isSo_112 rfl (by first | rfl | exact ww_b_nar) ⟨rfl, rfl⟩
    · have hR := (h.1 p hp).2.2.1 c1
      rw [ww_b_f (P := q_worn S p) (fun z => c1 z.1)]
      refine ww_aload_n (i := 1) dX6_isSo_90 rfl rfl ?_
      refine ww_getN (f := 165) wf_X6_345 dX6_isSo_91 rfl rfl (show ww_is _ _ 4 from hp4).1 (show ww_is _ _ 4 from hp4).2 hR ?_
      refine ww_ifnull_t (tgt := 111) dX6_isSo_94 (by decide) ?_
      refine ww_iconst (v := 0) dX6_isSo_111 (by decide) ?_
      exact ww_ireturn dX6_isSo_112 rfl (by first | rfl | exact ww_b_nar) ⟨rfl, rfl⟩
  · rw [ww_b_cg q_so_6]
    refine ww_tableIn (off := 112) (tgt := 113) dX6_isSo_1 (by decide) (by decide) rfl (by decide) ?_
    refine ww_aload_n (i := 0) dX6_isSo_113 rfl rfl ?_
    refine ww_aload_n (i := 1) dX6_isSo_114 rfl rfl ?_
    refine ww_callV (κ := 7) (r := (RX6, TX6, 4)) wk_X6_361 dX6_isSo_115 (c_isApart hw h hG hp) rfl rfl (show ww_is _ _ 7 from hw.1).1 (show ww_is _ _ 7 from hw.1).2 rfl rfl (by omega) (by omega) (by omega) (by first | exact Nat.le_of_ble_eq_true rfl | (simp [ww_rf_cat, Value.category])) rfl (fun E M9 h9 => h9.elim) (fun v9 M9 h9 => ?_)
    obtain ⟨rfl, rfl⟩ := h9
    exact ww_ireturn dX6_isSo_118 rfl (by first | rfl | exact ww_b_nar) ⟨rfl, rfl⟩
  · rw [ww_b_cg q_so_7]
    refine ww_tableIn (off := 118) (tgt := 119) dX6_isSo_1 (by decide) (by decide) rfl (by decide) ?_
    have hdue := c_isDue (g := g) hp4 hR4 hl.1
    rw [hl.2.2.1, k7, k8] at hdue
    by_cases c : q_cdue S p
    · rw [if_pos (show ¬ S 21 (q_kd S p) ≤ 0 ∧ ¬ S 7 p ≤ S 21 (q_kd S p) + S 8 p from c)] at hdue
      rw [ww_b_t c]
      refine ww_aload_n (i := 1) dX6_isSo_119 rfl rfl ?_
      refine ww_callV (κ := 4) (r := (RX3, TX3, 18)) wk_X6_364 dX6_isSo_120 (hdue) rfl rfl (show ww_is _ _ 4 from hp4).1 (show ww_is _ _ 4 from hp4).2 rfl rfl (by omega) (by omega) (by omega) (by first | exact Nat.le_of_ble_eq_true rfl | (simp [ww_rf_cat, Value.category])) rfl (fun E M9 h9 => h9.elim) (fun v9 M9 h9 => ?_)
      obtain ⟨rfl, rfl⟩ := h9
      exact ww_ireturn dX6_isSo_123 rfl (by first | rfl | exact ww_b_nar) ⟨rfl, rfl⟩
    · rw [if_neg (show ¬ (¬ S 21 (q_kd S p) ≤ 0 ∧ ¬ S 7 p ≤ S 21 (q_kd S p) + S 8 p) from c)] at hdue
      rw [ww_b_f c]
      refine ww_aload_n (i := 1) dX6_isSo_119 rfl rfl ?_
      refine ww_callV (κ := 4) (r := (RX3, TX3, 18)) wk_X6_364 dX6_isSo_120 (hdue) rfl rfl (show ww_is _ _ 4 from hp4).1 (show ww_is _ _ 4 from hp4).2 rfl rfl (by omega) (by omega) (by omega) (by first | exact Nat.le_of_ble_eq_true rfl | (simp [ww_rf_cat, Value.category])) rfl (fun E M9 h9 => h9.elim) (fun v9 M9 h9 => ?_)
      obtain ⟨rfl, rfl⟩ := h9
      exact ww_ireturn dX6_isSo_123 rfl (by first | rfl | exact ww_b_nar) ⟨rfl, rfl⟩
set_option maxRecDepth 20000 in
theorem c_isSo (hw : ww_wo g M0 M x pl pe n P) (h : ww_pf M P W kl n S) (hG : q_G S n) {p r : Nat} (hp : p < n) (hr7 : r ≤ 7) : ww_C g wy_X6_isSo 6 0 0 [.ref x, .ref (P p), .int (nI r)] M (ww_ret (some (.int (ww_b (q_so S n p r)))) M) ww_no := by
  by_cases h1 : 1 ≤ r
  · exact c_isSo1 hw h hG hp h1 hr7
  · have e : r = 0 := by omega
    subst e
    rw [ww_b_f (by simp [q_so])]
    refine ww_ent (by decide +kernel) (Nat.le_of_ble_eq_true rfl) ⟨rfl, rfl, rfl, trivial⟩ ?_
    refine ww_iload_n (i := 2) dX6_isSo_0 rfl rfl ?_
    -- at 1, locals [0, 1, 2]
    refine ww_tableOut (tgt := 124) dX6_isSo_1 (by decide) (by decide) ?_
    refine ww_iconst (v := 0) dX6_isSo_124 (by decide) ?_
    exact ww_ireturn dX6_isSo_125 rfl (by first | rfl | exact ww_b_nar) ⟨rfl, rfl⟩
end WWG1
