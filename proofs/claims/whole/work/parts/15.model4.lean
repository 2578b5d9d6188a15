/-! ===== the model's writing methods: parts ===== -/
def q_us (S : Nat → Nat → Int32) (k : Nat) (v : Int32) : Nat → Nat → Int32 := fun k' i => if k' = k then v else S k' i
theorem ww_sI_le {M : ww_M} {f x : Nat} {c : Int32} (h : c ≤ 0) : ww_I (ww_sI M f x c) f x ≤ 0 := by rw [show ww_I (ww_sI M f x c) f x = c from ww_u2s]; exact h
theorem ww_sI_nle {M : ww_M} {f x : Nat} {c : Int32} (h : ¬ c ≤ 0) : ¬ ww_I (ww_sI M f x c) f x ≤ 0 := by rw [show ww_I (ww_sI M f x c) f x = c from ww_u2s]; exact h
theorem ww_sI_eq {M : ww_M} {f x : Nat} {c d : Int32} (h : c = d) : ww_I (ww_sI M f x c) f x = d := (show ww_I (ww_sI M f x c) f x = c from ww_u2s).trans h
theorem ww_sI_ne {M : ww_M} {f x : Nat} {c d : Int32} (h : ¬ c = d) : ¬ ww_I (ww_sI M f x c) f x = d := by rw [show ww_I (ww_sI M f x c) f x = c from ww_u2s]; exact h
/-- the model with its code of what was thrown -/
def ww_cd (M : ww_M) (x : Nat) (c : Int32) : ww_M := ww_sI M 320 x c
section WWN
variable {g : ww_G} {M : ww_M} {x : Nat} {ar : Nat → Nat} {n w : Nat}
theorem m_in_t {v lo hi : Int32} (h1 : lo ≤ v) (h2 : v ≤ hi) : ww_C g wy_X7_in 1 0 0 [.int v, .int lo, .int hi] M (ww_ret (some (.int 1)) M) ww_no := by
  have h := m_in (g := g) (M := M) v lo hi
  rw [ww_b_t ⟨h1, h2⟩] at h
  exact h
theorem m_in_f {v lo hi : Int32} (h1 : ¬ (lo ≤ v ∧ v ≤ hi)) : ww_C g wy_X7_in 1 0 0 [.int v, .int lo, .int hi] M (ww_ret (some (.int 0)) M) ww_no := by
  have h := m_in (g := g) (M := M) v lo hi
  rw [ww_b_f h1] at h
  exact h
/-- in a range -/
def q_rg (lo hi v : Int32) : Prop := lo ≤ v ∧ v ≤ hi
set_option maxRecDepth 20000 in
set_option maxHeartbeats 4000000 in
theorem m_part_1 (hM : ww_mo x ar M.1 M.2.2.1) (k e d : Int32) (h : ¬ (q_rg 0 4 k ∧ q_rg 0 9 e ∧ q_rg 0 3 d)) : ww_C g wy_X7_part 2 0 0 [.ref x, .int k, .int e, .int d] M (ww_ret (some (.int 0)) (ww_cd M x 1)) ww_no := by
  refine ww_ent (by decide +kernel) (Nat.le_of_ble_eq_true rfl) ⟨rfl, rfl, rfl, rfl, trivial⟩ ?_
  by_cases h1 : q_rg 0 4 k
  · by_cases h2 : q_rg 0 9 e
    · have h3 : ¬ q_rg 0 3 d := fun z => h ⟨h1, h2, z⟩
      refine ww_aload_n (i := 0) dX7_part_0 rfl rfl ?_
      refine ww_iload_n (i := 1) dX7_part_1 rfl rfl ?_
      refine ww_iconst (v := 0) dX7_part_2 (by decide) ?_
      refine ww_iconst (v := 4) dX7_part_3 (by decide) ?_
      refine ww_callS wk_X7_105 rfl dX7_part_4 (m_in_t h1.1 h1.2) rfl rfl (by omega) (by omega) (by omega) (by first | exact Nat.le_of_ble_eq_true rfl | (simp [ww_rf_cat, Value.category])) rfl (fun E M9 h9 => h9.elim) (fun v9 M9 h9 => ?_)
      obtain ⟨rfl, rfl⟩ := h9
      refine ww_if_eq_f (tgt := 29) dX7_part_7 (by decide) (by decide) ?_
      refine ww_iload_n (i := 2) dX7_part_10 rfl rfl ?_
      refine ww_iconst (v := 0) dX7_part_11 (by decide) ?_
      refine ww_bipush (v := 9) dX7_part_12 (by decide) ?_
      refine ww_callS wk_X7_105 rfl dX7_part_14 (m_in_t h2.1 h2.2) rfl rfl (by omega) (by omega) (by omega) (by first | exact Nat.le_of_ble_eq_true rfl | (simp [ww_rf_cat, Value.category])) rfl (fun E M9 h9 => h9.elim) (fun v9 M9 h9 => ?_)
      obtain ⟨rfl, rfl⟩ := h9
      refine ww_if_eq_f (tgt := 29) dX7_part_17 (by decide) (by decide) ?_
      refine ww_iload_n (i := 3) dX7_part_20 rfl rfl ?_
      refine ww_iconst (v := 0) dX7_part_21 (by decide) ?_
      refine ww_iconst (v := 3) dX7_part_22 (by decide) ?_
      refine ww_callS wk_X7_105 rfl dX7_part_23 (m_in_f h3) rfl rfl (by omega) (by omega) (by omega) (by first | exact Nat.le_of_ble_eq_true rfl | (simp [ww_rf_cat, Value.category])) rfl (fun E M9 h9 => h9.elim) (fun v9 M9 h9 => ?_)
      obtain ⟨rfl, rfl⟩ := h9
      refine ww_if_ne_f (tgt := 33) dX7_part_26 (by decide) (by decide) ?_
      refine ww_iconst (v := 1) dX7_part_29 (by decide) ?_
      refine ww_goto (tgt := 47) dX7_part_30 (by decide) ?_
      refine ww_putI (f := 320) wf_X7_98 wt_8_0 dX7_part_47 rfl rfl hM.1.1 hM.1.2 rfl rfl ?_
      refine ww_aload_n (i := 0) dX7_part_50 rfl rfl ?_
      refine ww_getI (f := 320) wf_X7_98 dX7_part_51 rfl rfl hM.1.1 hM.1.2 ?_
      refine ww_if_le_f (tgt := 59) dX7_part_54 (by decide) (ww_sI_nle (by decide)) ?_
      refine ww_iconst (v := 0) dX7_part_57 (by decide) ?_
      exact ww_ireturn dX7_part_58 rfl (by first | rfl | exact ww_b_nar) ⟨rfl, rfl⟩
    · refine ww_aload_n (i := 0) dX7_part_0 rfl rfl ?_
      refine ww_iload_n (i := 1) dX7_part_1 rfl rfl ?_
      refine ww_iconst (v := 0) dX7_part_2 (by decide) ?_
      refine ww_iconst (v := 4) dX7_part_3 (by decide) ?_
      refine ww_callS wk_X7_105 rfl dX7_part_4 (m_in_t h1.1 h1.2) rfl rfl (by omega) (by omega) (by omega) (by first | exact Nat.le_of_ble_eq_true rfl | (simp [ww_rf_cat, Value.category])) rfl (fun E M9 h9 => h9.elim) (fun v9 M9 h9 => ?_)
      obtain ⟨rfl, rfl⟩ := h9
      refine ww_if_eq_f (tgt := 29) dX7_part_7 (by decide) (by decide) ?_
      refine ww_iload_n (i := 2) dX7_part_10 rfl rfl ?_
      refine ww_iconst (v := 0) dX7_part_11 (by decide) ?_
      refine ww_bipush (v := 9) dX7_part_12 (by decide) ?_
      refine ww_callS wk_X7_105 rfl dX7_part_14 (m_in_f h2) rfl rfl (by omega) (by omega) (by omega) (by first | exact Nat.le_of_ble_eq_true rfl | (simp [ww_rf_cat, Value.category])) rfl (fun E M9 h9 => h9.elim) (fun v9 M9 h9 => ?_)
      obtain ⟨rfl, rfl⟩ := h9
      refine ww_if_eq_t (tgt := 29) dX7_part_17 (by decide) (by decide) ?_
      refine ww_iconst (v := 1) dX7_part_29 (by decide) ?_
      refine ww_goto (tgt := 47) dX7_part_30 (by decide) ?_
      refine ww_putI (f := 320) wf_X7_98 wt_8_0 dX7_part_47 rfl rfl hM.1.1 hM.1.2 rfl rfl ?_
      refine ww_aload_n (i := 0) dX7_part_50 rfl rfl ?_
      refine ww_getI (f := 320) wf_X7_98 dX7_part_51 rfl rfl hM.1.1 hM.1.2 ?_
      refine ww_if_le_f (tgt := 59) dX7_part_54 (by decide) (ww_sI_nle (by decide)) ?_
      refine ww_iconst (v := 0) dX7_part_57 (by decide) ?_
      exact ww_ireturn dX7_part_58 rfl (by first | rfl | exact ww_b_nar) ⟨rfl, rfl⟩
  · refine ww_aload_n (i := 0) dX7_part_0 rfl rfl ?_
    refine ww_iload_n (i := 1) dX7_part_1 rfl rfl ?_
    refine ww_iconst (v := 0) dX7_part_2 (by decide) ?_
    refine ww_iconst (v := 4) dX7_part_3 (by decide) ?_
    refine ww_callS wk_X7_105 rfl dX7_part_4 (m_in_f h1) rfl rfl (by omega) (by omega) (by omega) (by first | exact Nat.le_of_ble_eq_true rfl | (simp [ww_rf_cat, Value.category])) rfl (fun E M9 h9 => h9.elim) (fun v9 M9 h9 => ?_)
    obtain ⟨rfl, rfl⟩ := h9
    refine ww_if_eq_t (tgt := 29) dX7_part_7 (by decide) (by decide) ?_
    refine ww_iconst (v := 1) dX7_part_29 (by decide) ?_
    refine ww_goto (tgt := 47) dX7_part_30 (by decide) ?_
    refine ww_putI (f := 320) wf_X7_98 wt_8_0 dX7_part_47 rfl rfl hM.1.1 hM.1.2 rfl rfl ?_
    refine ww_aload_n (i := 0) dX7_part_50 rfl rfl ?_
    refine ww_getI (f := 320) wf_X7_98 dX7_part_51 rfl rfl hM.1.1 hM.1.2 ?_
    refine ww_if_le_f (tgt := 59) dX7_part_54 (by decide) (ww_sI_nle (by decide)) ?_
    refine ww_iconst (v := 0) dX7_part_57 (by decide) ?_
    exact ww_ireturn dX7_part_58 rfl (by first | rfl | exact ww_b_nar) ⟨rfl, rfl⟩
set_option maxRecDepth 20000 in
theorem m_part_2 (hM : ww_mo x ar M.1 M.2.2.1) (hn : ww_I M 321 x = nI n) (h6 : n = 60) (k e d : Int32) (h1 : q_rg 0 4 k) (h2 : q_rg 0 9 e) (h3 : q_rg 0 3 d) : ww_C g wy_X7_part 2 0 0 [.ref x, .int k, .int e, .int d] M (ww_ret (some (.int 0)) (ww_cd M x 2)) ww_no := by
  refine ww_ent (by decide +kernel) (Nat.le_of_ble_eq_true rfl) ⟨rfl, rfl, rfl, rfl, trivial⟩ ?_
  subst h6
  refine ww_aload_n (i := 0) dX7_part_0 rfl rfl ?_
  refine ww_iload_n (i := 1) dX7_part_1 rfl rfl ?_
  refine ww_iconst (v := 0) dX7_part_2 (by decide) ?_
  refine ww_iconst (v := 4) dX7_part_3 (by decide) ?_
  refine ww_callS wk_X7_105 rfl dX7_part_4 (m_in_t h1.1 h1.2) rfl rfl (by omega) (by omega) (by omega) (by first | exact Nat.le_of_ble_eq_true rfl | (simp [ww_rf_cat, Value.category])) rfl (fun E M9 h9 => h9.elim) (fun v9 M9 h9 => ?_)
  obtain ⟨rfl, rfl⟩ := h9
  refine ww_if_eq_f (tgt := 29) dX7_part_7 (by decide) (by decide) ?_
  refine ww_iload_n (i := 2) dX7_part_10 rfl rfl ?_
  refine ww_iconst (v := 0) dX7_part_11 (by decide) ?_
  refine ww_bipush (v := 9) dX7_part_12 (by decide) ?_
  refine ww_callS wk_X7_105 rfl dX7_part_14 (m_in_t h2.1 h2.2) rfl rfl (by omega) (by omega) (by omega) (by first | exact Nat.le_of_ble_eq_true rfl | (simp [ww_rf_cat, Value.category])) rfl (fun E M9 h9 => h9.elim) (fun v9 M9 h9 => ?_)
  obtain ⟨rfl, rfl⟩ := h9
  refine ww_if_eq_f (tgt := 29) dX7_part_17 (by decide) (by decide) ?_
  refine ww_iload_n (i := 3) dX7_part_20 rfl rfl ?_
  refine ww_iconst (v := 0) dX7_part_21 (by decide) ?_
  refine ww_iconst (v := 3) dX7_part_22 (by decide) ?_
  refine ww_callS wk_X7_105 rfl dX7_part_23 (m_in_t h3.1 h3.2) rfl rfl (by omega) (by omega) (by omega) (by first | exact Nat.le_of_ble_eq_true rfl | (simp [ww_rf_cat, Value.category])) rfl (fun E M9 h9 => h9.elim) (fun v9 M9 h9 => ?_)
  obtain ⟨rfl, rfl⟩ := h9
  refine ww_if_ne_t (tgt := 33) dX7_part_26 (by decide) (by decide) ?_
  refine ww_aload_n (i := 0) dX7_part_33 rfl rfl ?_
  refine ww_getI (f := 321) wf_X7_102 dX7_part_34 rfl rfl hM.1.1 hM.1.2 ?_
  refine ww_bipush (v := 60) dX7_part_37 (by decide) ?_
  refine ww_icmp_ne_f (tgt := 46) dX7_part_39 (by decide) hn ?_
  refine ww_iconst (v := 2) dX7_part_42 (by decide) ?_
  refine ww_goto (tgt := 47) dX7_part_43 (by decide) ?_
  refine ww_putI (f := 320) wf_X7_98 wt_8_0 dX7_part_47 rfl rfl hM.1.1 hM.1.2 rfl rfl ?_
  refine ww_aload_n (i := 0) dX7_part_50 rfl rfl ?_
  refine ww_getI (f := 320) wf_X7_98 dX7_part_51 rfl rfl hM.1.1 hM.1.2 ?_
  refine ww_if_le_f (tgt := 59) dX7_part_54 (by decide) (ww_sI_nle (by decide)) ?_
  refine ww_iconst (v := 0) dX7_part_57 (by decide) ?_
  exact ww_ireturn dX7_part_58 rfl (by first | rfl | exact ww_b_nar) ⟨rfl, rfl⟩
/-- the model with one part more -/
def ww_mpart (M : ww_M) (x : Nat) (ar : Nat → Nat) (n : Nat) (k e d : Int32) : ww_M := ww_sI (ww_sX (ww_sX (ww_sX (ww_sX (ww_sX (ww_sX (ww_cd M x 0) (ar 2) n k) (ar 3) n e) (ar 4) n d) (ar 5) n (-1)) (ar 13) n 9000) (ar 14) n 300) 321 x (nI (n + 1))
set_option maxRecDepth 20000 in
set_option maxHeartbeats 4000000 in
theorem m_part_0 (hM : ww_mo x ar M.1 M.2.2.1) (hn : ww_I M 321 x = nI n) (h6 : n < 60) (k e d : Int32) (h1 : q_rg 0 4 k) (h2 : q_rg 0 9 e) (h3 : q_rg 0 3 d) : ww_C g wy_X7_part 2 0 0 [.ref x, .int k, .int e, .int d] M (ww_ret (some (.int (nI n))) (ww_mpart M x ar n k e d)) ww_no := by
  refine ww_ent (by decide +kernel) (Nat.le_of_ble_eq_true rfl) ⟨rfl, rfl, rfl, rfl, trivial⟩ ?_
  have h7 : ¬ ww_I M 321 x = 60 := by rw [hn]; exact fun z => absurd ((nI_eq (b := 60) (by omega) (by decide)).mp z) (by omega)
  refine ww_aload_n (i := 0) dX7_part_0 rfl rfl ?_
  refine ww_iload_n (i := 1) dX7_part_1 rfl rfl ?_
  refine ww_iconst (v := 0) dX7_part_2 (by decide) ?_
  refine ww_iconst (v := 4) dX7_part_3 (by decide) ?_
  refine ww_callS wk_X7_105 rfl dX7_part_4 (m_in_t h1.1 h1.2) rfl rfl (by omega) (by omega) (by omega) (by first | exact Nat.le_of_ble_eq_true rfl | (simp [ww_rf_cat, Value.category])) rfl (fun E M9 h9 => h9.elim) (fun v9 M9 h9 => ?_)
  obtain ⟨rfl, rfl⟩ := h9
  refine ww_if_eq_f (tgt := 29) dX7_part_7 (by decide) (by decide) ?_
  refine ww_iload_n (i := 2) dX7_part_10 rfl rfl ?_
  refine ww_iconst (v := 0) dX7_part_11 (by decide) ?_
  refine ww_bipush (v := 9) dX7_part_12 (by decide) ?_
  refine ww_callS wk_X7_105 rfl dX7_part_14 (m_in_t h2.1 h2.2) rfl rfl (by omega) (by omega) (by omega) (by first | exact Nat.le_of_ble_eq_true rfl | (simp [ww_rf_cat, Value.category])) rfl (fun E M9 h9 => h9.elim) (fun v9 M9 h9 => ?_)
  obtain ⟨rfl, rfl⟩ := h9
  refine ww_if_eq_f (tgt := 29) dX7_part_17 (by decide) (by decide) ?_
  refine ww_iload_n (i := 3) dX7_part_20 rfl rfl ?_
  refine ww_iconst (v := 0) dX7_part_21 (by decide) ?_
  refine ww_iconst (v := 3) dX7_part_22 (by decide) ?_
  refine ww_callS wk_X7_105 rfl dX7_part_23 (m_in_t h3.1 h3.2) rfl rfl (by omega) (by omega) (by omega) (by first | exact Nat.le_of_ble_eq_true rfl | (simp [ww_rf_cat, Value.category])) rfl (fun E M9 h9 => h9.elim) (fun v9 M9 h9 => ?_)
  obtain ⟨rfl, rfl⟩ := h9
  refine ww_if_ne_t (tgt := 33) dX7_part_26 (by decide) (by decide) ?_
  refine ww_aload_n (i := 0) dX7_part_33 rfl rfl ?_
  refine ww_getI (f := 321) wf_X7_102 dX7_part_34 rfl rfl hM.1.1 hM.1.2 ?_
  refine ww_bipush (v := 60) dX7_part_37 (by decide) ?_
  refine ww_icmp_ne_t (tgt := 46) dX7_part_39 (by decide) h7 ?_
  refine ww_iconst (v := 0) dX7_part_46 (by decide) ?_
  refine ww_putI (f := 320) wf_X7_98 wt_8_0 dX7_part_47 rfl rfl hM.1.1 hM.1.2 rfl rfl ?_
  refine ww_aload_n (i := 0) dX7_part_50 rfl rfl ?_
  refine ww_getI (f := 320) wf_X7_98 dX7_part_51 rfl rfl hM.1.1 hM.1.2 ?_
  refine ww_if_le_t (tgt := 59) dX7_part_54 (by decide) (ww_sI_le (by decide)) ?_
  refine ww_aload_n (i := 0) dX7_part_59 rfl rfl ?_
  refine ww_getR (f := 322) wf_X7_7 dX7_part_60 rfl rfl hM.1.1 hM.1.2 (hM.2.1 2 rfl) ?_
  refine ww_aload_n (i := 0) dX7_part_63 rfl rfl ?_
  refine ww_getI (f := 321) wf_X7_102 dX7_part_64 rfl rfl hM.1.1 hM.1.2 ?_
  refine ww_iload_n (i := 1) dX7_part_67 rfl rfl ?_
  refine ww_mast (k := 2) hM dX7_part_68 rfl rfl hn (show _ < 60 by omega) ?_
  refine ww_aload_n (i := 0) dX7_part_69 rfl rfl ?_
  refine ww_getR (f := 323) wf_X7_13 dX7_part_70 rfl rfl hM.1.1 hM.1.2 (hM.2.1 3 rfl) ?_
  refine ww_aload_n (i := 0) dX7_part_73 rfl rfl ?_
  refine ww_getI (f := 321) wf_X7_102 dX7_part_74 rfl rfl hM.1.1 hM.1.2 ?_
  refine ww_iload_n (i := 2) dX7_part_77 rfl rfl ?_
  refine ww_mast (k := 3) hM dX7_part_78 rfl rfl hn (show _ < 60 by omega) ?_
  refine ww_aload_n (i := 0) dX7_part_79 rfl rfl ?_
  refine ww_getR (f := 324) wf_X7_16 dX7_part_80 rfl rfl hM.1.1 hM.1.2 (hM.2.1 4 rfl) ?_
  refine ww_aload_n (i := 0) dX7_part_83 rfl rfl ?_
  refine ww_getI (f := 321) wf_X7_102 dX7_part_84 rfl rfl hM.1.1 hM.1.2 ?_
  refine ww_iload_n (i := 3) dX7_part_87 rfl rfl ?_
  refine ww_mast (k := 4) hM dX7_part_88 rfl rfl hn (show _ < 60 by omega) ?_
  refine ww_aload_n (i := 0) dX7_part_89 rfl rfl ?_
  refine ww_getR (f := 325) wf_X7_19 dX7_part_90 rfl rfl hM.1.1 hM.1.2 (hM.2.1 5 rfl) ?_
  refine ww_aload_n (i := 0) dX7_part_93 rfl rfl ?_
  refine ww_getI (f := 321) wf_X7_102 dX7_part_94 rfl rfl hM.1.1 hM.1.2 ?_
  refine ww_iconst (v := (-1)) dX7_part_97 (by decide) ?_
  refine ww_mast (k := 5) hM dX7_part_98 rfl rfl hn (show _ < 60 by omega) ?_
  refine ww_aload_n (i := 0) dX7_part_99 rfl rfl ?_
  refine ww_getR (f := 333) wf_X7_44 dX7_part_100 rfl rfl hM.1.1 hM.1.2 (hM.2.1 13 rfl) ?_
  refine ww_aload_n (i := 0) dX7_part_103 rfl rfl ?_
  refine ww_getI (f := 321) wf_X7_102 dX7_part_104 rfl rfl hM.1.1 hM.1.2 ?_
  refine ww_sipush (v := 9000) dX7_part_107 (by decide) ?_
  refine ww_mast (k := 13) hM dX7_part_110 rfl rfl hn (show _ < 60 by omega) ?_
  refine ww_aload_n (i := 0) dX7_part_111 rfl rfl ?_
  refine ww_getR (f := 334) wf_X7_47 dX7_part_112 rfl rfl hM.1.1 hM.1.2 (hM.2.1 14 rfl) ?_
  refine ww_aload_n (i := 0) dX7_part_115 rfl rfl ?_
  refine ww_getI (f := 321) wf_X7_102 dX7_part_116 rfl rfl hM.1.1 hM.1.2 ?_
  refine ww_sipush (v := 300) dX7_part_119 (by decide) ?_
  refine ww_mast (k := 14) hM dX7_part_122 rfl rfl hn (show _ < 60 by omega) ?_
  refine ww_aload_n (i := 0) dX7_part_123 rfl rfl ?_
  refine ww_dup dX7_part_124 (by first | rfl | exact ww_rf_cat _) ?_
  refine ww_getI (f := 321) wf_X7_102 dX7_part_125 rfl rfl hM.1.1 hM.1.2 ?_
  refine ww_iconst (v := 1) dX7_part_128 (by decide) ?_
  refine ww_iadd dX7_part_129 ?_
  -- at 130, locals [0, 1, 2, 3]
  refine ww_top (nI (n + 1)) (by show ww_I M 321 x + 1 = nI (n + 1); rw [hn, nI_1]) ?_
  refine ww_putI (f := 321) wf_X7_102 wt_8_1 dX7_part_130 rfl rfl hM.1.1 hM.1.2 rfl rfl ?_
  refine ww_aload_n (i := 0) dX7_part_133 rfl rfl ?_
  refine ww_getI (f := 321) wf_X7_102 dX7_part_134 rfl rfl hM.1.1 hM.1.2 ?_
  refine ww_iconst (v := 1) dX7_part_137 (by decide) ?_
  refine ww_isub dX7_part_138 ?_
  -- at 139, locals [0, 1, 2, 3]
  refine ww_top (nI n) (by rw [show ∀ M0 : ww_M, ww_I (ww_sI M0 321 x (nI (n + 1))) 321 x = nI (n + 1) from fun _ => ww_u2s, nI_pred]) ?_
  exact ww_ireturn dX7_part_139 rfl rfl ⟨rfl, rfl⟩
set_option maxRecDepth 20000 in
set_option maxHeartbeats 4000000 in
theorem m_limits_1 (hM : ww_mo x ar M.1 M.2.2.1) (k e d f : Int32) (h : ¬ (q_rg 0 4 k ∧ q_rg 0 99999 e ∧ q_rg 0 99999 d ∧ q_rg 0 99999 f)) : ww_C g wy_X7_limits 2 0 0 [.ref x, .int k, .int e, .int d, .int f] M (ww_ret (some (.int 0)) (ww_cd M x 1)) ww_no := by
  refine ww_ent (by decide +kernel) (Nat.le_of_ble_eq_true rfl) ⟨rfl, rfl, rfl, rfl, rfl, trivial⟩ ?_
  by_cases h1 : q_rg 0 4 k
  · by_cases h2 : q_rg 0 99999 e
    · by_cases h3 : q_rg 0 99999 d
      · have h4 : ¬ q_rg 0 99999 f := fun z => h ⟨h1, h2, h3, z⟩
        refine ww_aload_n (i := 0) dX7_limits_0 rfl rfl ?_
        refine ww_iload_n (i := 1) dX7_limits_1 rfl rfl ?_
        refine ww_iconst (v := 0) dX7_limits_2 (by decide) ?_
        refine ww_iconst (v := 4) dX7_limits_3 (by decide) ?_
        refine ww_callS wk_X7_105 rfl dX7_limits_4 (m_in_t h1.1 h1.2) rfl rfl (by omega) (by omega) (by omega) (by first | exact Nat.le_of_ble_eq_true rfl | (simp [ww_rf_cat, Value.category])) rfl (fun E M9 h9 => h9.elim) (fun v9 M9 h9 => ?_)
        obtain ⟨rfl, rfl⟩ := h9
        refine ww_if_eq_f (tgt := 45) dX7_limits_7 (by decide) (by decide) ?_
        refine ww_iload_n (i := 2) dX7_limits_10 rfl rfl ?_
        refine ww_iconst (v := 0) dX7_limits_11 (by decide) ?_
        refine ww_ldc (v := 99999) dX7_limits_12 wm_1081 ?_
        refine ww_callS wk_X7_105 rfl dX7_limits_14 (m_in_t h2.1 h2.2) rfl rfl (by omega) (by omega) (by omega) (by first | exact Nat.le_of_ble_eq_true rfl | (simp [ww_rf_cat, Value.category])) rfl (fun E M9 h9 => h9.elim) (fun v9 M9 h9 => ?_)
        obtain ⟨rfl, rfl⟩ := h9
        refine ww_if_eq_f (tgt := 45) dX7_limits_17 (by decide) (by decide) ?_
        refine ww_iload_n (i := 3) dX7_limits_20 rfl rfl ?_
        refine ww_iconst (v := 0) dX7_limits_21 (by decide) ?_
        refine ww_ldc (v := 99999) dX7_limits_22 wm_1081 ?_
        refine ww_callS wk_X7_105 rfl dX7_limits_24 (m_in_t h3.1 h3.2) rfl rfl (by omega) (by omega) (by omega) (by first | exact Nat.le_of_ble_eq_true rfl | (simp [ww_rf_cat, Value.category])) rfl (fun E M9 h9 => h9.elim) (fun v9 M9 h9 => ?_)
        obtain ⟨rfl, rfl⟩ := h9
        refine ww_if_eq_f (tgt := 45) dX7_limits_27 (by decide) (by decide) ?_
        refine ww_iload (i := 4) dX7_limits_30 rfl ?_
        refine ww_iconst (v := 0) dX7_limits_32 (by decide) ?_
        refine ww_ldc (v := 99999) dX7_limits_33 wm_1081 ?_
        refine ww_callS wk_X7_105 rfl dX7_limits_35 (m_in_f h4) rfl rfl (by omega) (by omega) (by omega) (by first | exact Nat.le_of_ble_eq_true rfl | (simp [ww_rf_cat, Value.category])) rfl (fun E M9 h9 => h9.elim) (fun v9 M9 h9 => ?_)
        obtain ⟨rfl, rfl⟩ := h9
        refine ww_if_eq_t (tgt := 45) dX7_limits_38 (by decide) (by decide) ?_
        refine ww_iconst (v := 1) dX7_limits_45 (by decide) ?_
        refine ww_putI (f := 320) wf_X7_98 wt_8_0 dX7_limits_46 rfl rfl hM.1.1 hM.1.2 rfl rfl ?_
        refine ww_aload_n (i := 0) dX7_limits_49 rfl rfl ?_
        refine ww_getI (f := 320) wf_X7_98 dX7_limits_50 rfl rfl hM.1.1 hM.1.2 ?_
        refine ww_if_le_f (tgt := 58) dX7_limits_53 (by decide) (ww_sI_nle (by decide)) ?_
        refine ww_iconst (v := 0) dX7_limits_56 (by decide) ?_
        exact ww_ireturn dX7_limits_57 rfl (by first | rfl | exact ww_b_nar) ⟨rfl, rfl⟩
      · refine ww_aload_n (i := 0) dX7_limits_0 rfl rfl ?_
        refine ww_iload_n (i := 1) dX7_limits_1 rfl rfl ?_
        refine ww_iconst (v := 0) dX7_limits_2 (by decide) ?_
        refine ww_iconst (v := 4) dX7_limits_3 (by decide) ?_
        refine ww_callS wk_X7_105 rfl dX7_limits_4 (m_in_t h1.1 h1.2) rfl rfl (by omega) (by omega) (by omega) (by first | exact Nat.le_of_ble_eq_true rfl | (simp [ww_rf_cat, Value.category])) rfl (fun E M9 h9 => h9.elim) (fun v9 M9 h9 => ?_)
        obtain ⟨rfl, rfl⟩ := h9
        refine ww_if_eq_f (tgt := 45) dX7_limits_7 (by decide) (by decide) ?_
        refine ww_iload_n (i := 2) dX7_limits_10 rfl rfl ?_
        refine ww_iconst (v := 0) dX7_limits_11 (by decide) ?_
        refine ww_ldc (v := 99999) dX7_limits_12 wm_1081 ?_
        refine ww_callS wk_X7_105 rfl dX7_limits_14 (m_in_t h2.1 h2.2) rfl rfl (by omega) (by omega) (by omega) (by first | exact Nat.le_of_ble_eq_true rfl | (simp [ww_rf_cat, Value.category])) rfl (fun E M9 h9 => h9.elim) (fun v9 M9 h9 => ?_)
        obtain ⟨rfl, rfl⟩ := h9
        refine ww_if_eq_f (tgt := 45) dX7_limits_17 (by decide) (by decide) ?_
        refine ww_iload_n (i := 3) dX7_limits_20 rfl rfl ?_
        refine ww_iconst (v := 0) dX7_limits_21 (by decide) ?_
        refine ww_ldc (v := 99999) dX7_limits_22 wm_1081 ?_
        refine ww_callS wk_X7_105 rfl dX7_limits_24 (m_in_f h3) rfl rfl (by omega) (by omega) (by omega) (by first | exact Nat.le_of_ble_eq_true rfl | (simp [ww_rf_cat, Value.category])) rfl (fun E M9 h9 => h9.elim) (fun v9 M9 h9 => ?_)
        obtain ⟨rfl, rfl⟩ := h9
        refine ww_if_eq_t (tgt := 45) dX7_limits_27 (by decide) (by decide) ?_
        refine ww_iconst (v := 1) dX7_limits_45 (by decide) ?_
        refine ww_putI (f := 320) wf_X7_98 wt_8_0 dX7_limits_46 rfl rfl hM.1.1 hM.1.2 rfl rfl ?_
        refine ww_aload_n (i := 0) dX7_limits_49 rfl rfl ?_
        refine ww_getI (f := 320) wf_X7_98 dX7_limits_50 rfl rfl hM.1.1 hM.1.2 ?_
        refine ww_if_le_f (tgt := 58) dX7_limits_53 (by decide) (ww_sI_nle (by decide)) ?_
        refine ww_iconst (v := 0) dX7_limits_56 (by decide) ?_
        exact ww_ireturn dX7_limits_57 rfl (by first | rfl | exact ww_b_nar) ⟨rfl, rfl⟩
    · refine ww_aload_n (i := 0) dX7_limits_0 rfl rfl ?_
      refine ww_iload_n (i := 1) dX7_limits_1 rfl rfl ?_
      refine ww_iconst (v := 0) dX7_limits_2 (by decide) ?_
      refine ww_iconst (v := 4) dX7_limits_3 (by decide) ?_
      refine ww_callS wk_X7_105 rfl dX7_limits_4 (m_in_t h1.1 h1.2) rfl rfl (by omega) (by omega) (by omega) (by first | exact Nat.le_of_ble_eq_true rfl | (simp [ww_rf_cat, Value.category])) rfl (fun E M9 h9 => h9.elim) (fun v9 M9 h9 => ?_)
      obtain ⟨rfl, rfl⟩ := h9
      refine ww_if_eq_f (tgt := 45) dX7_limits_7 (by decide) (by decide) ?_
      refine ww_iload_n (i := 2) dX7_limits_10 rfl rfl ?_
      refine ww_iconst (v := 0) dX7_limits_11 (by decide) ?_
      refine ww_ldc (v := 99999) dX7_limits_12 wm_1081 ?_
      refine ww_callS wk_X7_105 rfl dX7_limits_14 (m_in_f h2) rfl rfl (by omega) (by omega) (by omega) (by first | exact Nat.le_of_ble_eq_true rfl | (simp [ww_rf_cat, Value.category])) rfl (fun E M9 h9 => h9.elim) (fun v9 M9 h9 => ?_)
      obtain ⟨rfl, rfl⟩ := h9
      refine ww_if_eq_t (tgt := 45) dX7_limits_17 (by decide) (by decide) ?_
      refine ww_iconst (v := 1) dX7_limits_45 (by decide) ?_
      refine ww_putI (f := 320) wf_X7_98 wt_8_0 dX7_limits_46 rfl rfl hM.1.1 hM.1.2 rfl rfl ?_
      refine ww_aload_n (i := 0) dX7_limits_49 rfl rfl ?_
      refine ww_getI (f := 320) wf_X7_98 dX7_limits_50 rfl rfl hM.1.1 hM.1.2 ?_
      refine ww_if_le_f (tgt := 58) dX7_limits_53 (by decide) (ww_sI_nle (by decide)) ?_
      refine ww_iconst (v := 0) dX7_limits_56 (by decide) ?_
      exact ww_ireturn dX7_limits_57 rfl (by first | rfl | exact ww_b_nar) ⟨rfl, rfl⟩
  · refine ww_aload_n (i := 0) dX7_limits_0 rfl rfl ?_
    refine ww_iload_n (i := 1) dX7_limits_1 rfl rfl ?_
    refine ww_iconst (v := 0) dX7_limits_2 (by decide) ?_
    refine ww_iconst (v := 4) dX7_limits_3 (by decide) ?_
    refine ww_callS wk_X7_105 rfl dX7_limits_4 (m_in_f h1) rfl rfl (by omega) (by omega) (by omega) (by first | exact Nat.le_of_ble_eq_true rfl | (simp [ww_rf_cat, Value.category])) rfl (fun E M9 h9 => h9.elim) (fun v9 M9 h9 => ?_)
    obtain ⟨rfl, rfl⟩ := h9
    refine ww_if_eq_t (tgt := 45) dX7_limits_7 (by decide) (by decide) ?_
    refine ww_iconst (v := 1) dX7_limits_45 (by decide) ?_
    refine ww_putI (f := 320) wf_X7_98 wt_8_0 dX7_limits_46 rfl rfl hM.1.1 hM.1.2 rfl rfl ?_
    refine ww_aload_n (i := 0) dX7_limits_49 rfl rfl ?_
    refine ww_getI (f := 320) wf_X7_98 dX7_limits_50 rfl rfl hM.1.1 hM.1.2 ?_
    refine ww_if_le_f (tgt := 58) dX7_limits_53 (by decide) (ww_sI_nle (by decide)) ?_
    refine ww_iconst (v := 0) dX7_limits_56 (by decide) ?_
    exact ww_ireturn dX7_limits_57 rfl (by first | rfl | exact ww_b_nar) ⟨rfl, rfl⟩
def ww_mlimits (M : ww_M) (x : Nat) (ar : Nat → Nat) (k : Nat) (e d f : Int32) : ww_M := ww_sX (ww_sX (ww_sX (ww_cd M x 0) (ar 20) k e) (ar 21) k d) (ar 22) k f
set_option maxRecDepth 20000 in
set_option maxHeartbeats 4000000 in
theorem m_limits_0 (hM : ww_mo x ar M.1 M.2.2.1) {k : Nat} (hk : k < 5) (e d f : Int32) (h2 : q_rg 0 99999 e) (h3 : q_rg 0 99999 d) (h4 : q_rg 0 99999 f) : ww_C g wy_X7_limits 2 0 0 [.ref x, .int (nI k), .int e, .int d, .int f] M (ww_ret (some (.int (ww_X M (ar 20) k))) (ww_mlimits M x ar k e d f)) ww_no := by
  refine ww_ent (by decide +kernel) (Nat.le_of_ble_eq_true rfl) ⟨rfl, rfl, rfl, rfl, rfl, trivial⟩ ?_
  have h1 : q_rg 0 4 (nI k) := ⟨nI_pos' (by omega), nI_le (b := 4) (by omega) (by decide)⟩
  refine ww_aload_n (i := 0) dX7_limits_0 rfl rfl ?_
  refine ww_iload_n (i := 1) dX7_limits_1 rfl rfl ?_
  refine ww_iconst (v := 0) dX7_limits_2 (by decide) ?_
  refine ww_iconst (v := 4) dX7_limits_3 (by decide) ?_
  refine ww_callS wk_X7_105 rfl dX7_limits_4 (m_in_t h1.1 h1.2) rfl rfl (by omega) (by omega) (by omega) (by first | exact Nat.le_of_ble_eq_true rfl | (simp [ww_rf_cat, Value.category])) rfl (fun E M9 h9 => h9.elim) (fun v9 M9 h9 => ?_)
  obtain ⟨rfl, rfl⟩ := h9
  refine ww_if_eq_f (tgt := 45) dX7_limits_7 (by decide) (by decide) ?_
  refine ww_iload_n (i := 2) dX7_limits_10 rfl rfl ?_
  refine ww_iconst (v := 0) dX7_limits_11 (by decide) ?_
  refine ww_ldc (v := 99999) dX7_limits_12 wm_1081 ?_
  refine ww_callS wk_X7_105 rfl dX7_limits_14 (m_in_t h2.1 h2.2) rfl rfl (by omega) (by omega) (by omega) (by first | exact Nat.le_of_ble_eq_true rfl | (simp [ww_rf_cat, Value.category])) rfl (fun E M9 h9 => h9.elim) (fun v9 M9 h9 => ?_)
  obtain ⟨rfl, rfl⟩ := h9
  refine ww_if_eq_f (tgt := 45) dX7_limits_17 (by decide) (by decide) ?_
  refine ww_iload_n (i := 3) dX7_limits_20 rfl rfl ?_
  refine ww_iconst (v := 0) dX7_limits_21 (by decide) ?_
  refine ww_ldc (v := 99999) dX7_limits_22 wm_1081 ?_
  refine ww_callS wk_X7_105 rfl dX7_limits_24 (m_in_t h3.1 h3.2) rfl rfl (by omega) (by omega) (by omega) (by first | exact Nat.le_of_ble_eq_true rfl | (simp [ww_rf_cat, Value.category])) rfl (fun E M9 h9 => h9.elim) (fun v9 M9 h9 => ?_)
  obtain ⟨rfl, rfl⟩ := h9
  refine ww_if_eq_f (tgt := 45) dX7_limits_27 (by decide) (by decide) ?_
  refine ww_iload (i := 4) dX7_limits_30 rfl ?_
  refine ww_iconst (v := 0) dX7_limits_32 (by decide) ?_
  refine ww_ldc (v := 99999) dX7_limits_33 wm_1081 ?_
  refine ww_callS wk_X7_105 rfl dX7_limits_35 (m_in_t h4.1 h4.2) rfl rfl (by omega) (by omega) (by omega) (by first | exact Nat.le_of_ble_eq_true rfl | (simp [ww_rf_cat, Value.category])) rfl (fun E M9 h9 => h9.elim) (fun v9 M9 h9 => ?_)
  obtain ⟨rfl, rfl⟩ := h9
  refine ww_if_eq_f (tgt := 45) dX7_limits_38 (by decide) (by decide) ?_
  refine ww_iconst (v := 0) dX7_limits_41 (by decide) ?_
  refine ww_goto (tgt := 46) dX7_limits_42 (by decide) ?_
  refine ww_putI (f := 320) wf_X7_98 wt_8_0 dX7_limits_46 rfl rfl hM.1.1 hM.1.2 rfl rfl ?_
  refine ww_aload_n (i := 0) dX7_limits_49 rfl rfl ?_
  refine ww_getI (f := 320) wf_X7_98 dX7_limits_50 rfl rfl hM.1.1 hM.1.2 ?_
  refine ww_if_le_t (tgt := 58) dX7_limits_53 (by decide) (ww_sI_le (by decide)) ?_
  refine ww_aload_n (i := 0) dX7_limits_58 rfl rfl ?_
  refine ww_getR (f := 340) wf_X7_65 dX7_limits_59 rfl rfl hM.1.1 hM.1.2 (hM.2.1 20 rfl) ?_
  refine ww_iload_n (i := 1) dX7_limits_62 rfl rfl ?_
  refine ww_mald (k := 20) hM dX7_limits_63 rfl rfl rfl (show _ < 5 by omega) ?_
  refine ww_istore (i := 5) (lv2 := [(0, _), (1, _), (2, _), (3, _), (4, _), (5, _)]) dX7_limits_64 (Nat.le_of_ble_eq_true rfl) rfl ?_
  refine ww_aload_n (i := 0) dX7_limits_66 rfl rfl ?_
  refine ww_getR (f := 340) wf_X7_65 dX7_limits_67 rfl rfl hM.1.1 hM.1.2 (hM.2.1 20 rfl) ?_
  refine ww_iload_n (i := 1) dX7_limits_70 rfl rfl ?_
  refine ww_iload_n (i := 2) dX7_limits_71 rfl rfl ?_
  refine ww_mast (k := 20) hM dX7_limits_72 rfl rfl rfl (show _ < 5 by omega) ?_
  refine ww_aload_n (i := 0) dX7_limits_73 rfl rfl ?_
  refine ww_getR (f := 341) wf_X7_68 dX7_limits_74 rfl rfl hM.1.1 hM.1.2 (hM.2.1 21 rfl) ?_
  refine ww_iload_n (i := 1) dX7_limits_77 rfl rfl ?_
  refine ww_iload_n (i := 3) dX7_limits_78 rfl rfl ?_
  refine ww_mast (k := 21) hM dX7_limits_79 rfl rfl rfl (show _ < 5 by omega) ?_
  refine ww_aload_n (i := 0) dX7_limits_80 rfl rfl ?_
  refine ww_getR (f := 342) wf_X7_71 dX7_limits_81 rfl rfl hM.1.1 hM.1.2 (hM.2.1 22 rfl) ?_
  refine ww_iload_n (i := 1) dX7_limits_84 rfl rfl ?_
  refine ww_iload (i := 4) dX7_limits_85 rfl ?_
  refine ww_mast (k := 22) hM dX7_limits_87 rfl rfl rfl (show _ < 5 by omega) ?_
  refine ww_iload (i := 5) dX7_limits_88 rfl ?_
  exact ww_ireturn dX7_limits_90 rfl (by first | rfl | exact ww_b_nar) ⟨rfl, rfl⟩
def ww_mmoves (M : ww_M) (x : Nat) (ar : Nat → Nat) (p w : Nat) (to : Int32) : ww_M := ww_sI (ww_sX (ww_sX (ww_sX M (ar 5) p to) (ar 24) w (nI p)) (ar 25) w to) 343 x (nI (w + 1))
set_option maxRecDepth 20000 in
set_option maxHeartbeats 4000000 in
theorem m_moves (hM : ww_mo x ar M.1 M.2.2.1) (hw : ww_I M 343 x = nI w) (h4 : w < 4000) {p : Nat} (hp : p < 60) (to : Int32) : ww_C g wy_X7_moves 1 0 0 [.ref x, .int (nI p), .int to] M (ww_ret none (ww_mmoves M x ar p w to)) ww_no := by
  refine ww_ent (by decide +kernel) (Nat.le_of_ble_eq_true rfl) ⟨rfl, rfl, rfl, trivial⟩ ?_
  refine ww_aload_n (i := 0) dX7_moves_0 rfl rfl ?_
  refine ww_getR (f := 325) wf_X7_19 dX7_moves_1 rfl rfl hM.1.1 hM.1.2 (hM.2.1 5 rfl) ?_
  refine ww_iload_n (i := 1) dX7_moves_4 rfl rfl ?_
  refine ww_iload_n (i := 2) dX7_moves_5 rfl rfl ?_
  refine ww_mast (k := 5) hM dX7_moves_6 rfl rfl rfl (show _ < 60 by omega) ?_
  refine ww_aload_n (i := 0) dX7_moves_7 rfl rfl ?_
  refine ww_getR (f := 344) wf_X7_74 dX7_moves_8 rfl rfl hM.1.1 hM.1.2 (hM.2.1 24 rfl) ?_
  refine ww_aload_n (i := 0) dX7_moves_11 rfl rfl ?_
  refine ww_getI (f := 343) wf_X7_118 dX7_moves_12 rfl rfl hM.1.1 hM.1.2 ?_
  refine ww_iload_n (i := 1) dX7_moves_15 rfl rfl ?_
  refine ww_mast (k := 24) hM dX7_moves_16 rfl rfl hw (show _ < 4000 by omega) ?_
  refine ww_aload_n (i := 0) dX7_moves_17 rfl rfl ?_
  refine ww_getR (f := 345) wf_X7_77 dX7_moves_18 rfl rfl hM.1.1 hM.1.2 (hM.2.1 25 rfl) ?_
  refine ww_aload_n (i := 0) dX7_moves_21 rfl rfl ?_
  refine ww_getI (f := 343) wf_X7_118 dX7_moves_22 rfl rfl hM.1.1 hM.1.2 ?_
  refine ww_iload_n (i := 2) dX7_moves_25 rfl rfl ?_
  refine ww_mast (k := 25) hM dX7_moves_26 rfl rfl hw (show _ < 4000 by omega) ?_
  refine ww_aload_n (i := 0) dX7_moves_27 rfl rfl ?_
  refine ww_dup dX7_moves_28 (by first | rfl | exact ww_rf_cat _) ?_
  refine ww_getI (f := 343) wf_X7_118 dX7_moves_29 rfl rfl hM.1.1 hM.1.2 ?_
  refine ww_iconst (v := 1) dX7_moves_32 (by decide) ?_
  refine ww_iadd dX7_moves_33 ?_
  -- at 34, locals [0, 1, 2]
  refine ww_top (nI (w + 1)) (by show ww_I M 343 x + 1 = nI (w + 1); rw [hw, nI_1]) ?_
  refine ww_putI (f := 343) wf_X7_118 wt_8_23 dX7_moves_34 rfl rfl hM.1.1 hM.1.2 rfl rfl ?_
  exact ww_vreturn dX7_moves_37 rfl ⟨rfl, rfl⟩
set_option maxRecDepth 20000 in
theorem m_ends (hM : ww_mo x ar M.1 M.2.2.1) (hg : q_gh n (ww_X M (ar 2)) (ww_X M (ar 5))) (h6 : n ≤ 60) {p : Nat} (hp : p < n) : ww_C g wy_X7_ends 2 0 0 [.ref x, .int (nI p)] M (ww_ret none (ww_sX M (ar 11) (q_hd (ww_X M (ar 5)) 5 p) 0)) ww_no := by
  refine ww_ent (by decide +kernel) (Nat.le_of_ble_eq_true rfl) ⟨rfl, rfl, trivial⟩ ?_
  have hlt := q_hd_lt hg h6 5 p hp
  refine ww_aload_n (i := 0) dX7_ends_0 rfl rfl ?_
  refine ww_getR (f := 331) wf_X7_38 dX7_ends_1 rfl rfl hM.1.1 hM.1.2 (hM.2.1 11 rfl) ?_
  refine ww_aload_n (i := 0) dX7_ends_4 rfl rfl ?_
  refine ww_iload_n (i := 1) dX7_ends_5 rfl rfl ?_
  refine ww_callV (κ := 8) (r := (RX7, TX7, 33)) wk_X7_114 dX7_ends_6 (m_headOf hM hg h6 hp) rfl rfl (show ww_is _ _ 8 from hM.1).1 (show ww_is _ _ 8 from hM.1).2 rfl rfl (by omega) (by omega) (by omega) (by first | exact Nat.le_of_ble_eq_true rfl | (simp [ww_rf_cat, Value.category])) rfl (fun E M9 h9 => h9.elim) (fun v9 M9 h9 => ?_)
  obtain ⟨rfl, rfl⟩ := h9
  refine ww_iconst (v := 0) dX7_ends_9 (by decide) ?_
  refine ww_mzst (k := 11) hM dX7_ends_10 rfl rfl rfl (show _ < 60 by omega) (by first | rfl | exact ww_b_vn) ?_
  exact ww_vreturn dX7_ends_11 rfl ⟨rfl, rfl⟩
end WWN
