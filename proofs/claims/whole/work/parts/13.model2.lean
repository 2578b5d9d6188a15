/-! ===== the model's reading methods ===== -/
/-- the content of the model at x: its slots -/
def q_S (M : ww_M) (x : Nat) (ar : Nat → Nat) : Nat → Nat → Int32 := fun k i => if ww_mr k = true then ww_X M (ar k) i else ww_I M (320 + k) x
section WWN
variable {g : ww_G} {M : ww_M} {x : Nat} {ar : Nat → Nat} {n w : Nat}
set_option maxRecDepth 20000 in
theorem m_waits (hM : ww_mo x ar M.1 M.2.2.1) (hw : ww_I M 346 x = nI w) (h8 : w ≤ 8) (v : Int32) : ww_C g wy_X7_waits 1 0 0 [.ref x, .int v] M (ww_ret (some (.int (ww_b (q_any (fun k => q_S M x ar 27 k = v) w)))) M) ww_no := by
  refine ww_ent (by decide +kernel) (Nat.le_of_ble_eq_true rfl) ⟨rfl, rfl, trivial⟩ ?_
  have loop : ∀ (m i : Nat), i + m = w → ww_A g wy_X7_waits 1 0 0 M 4 [(0, .ref x), (1, .int v), (2, .int (ww_b (q_any (fun k => q_S M x ar 27 k = v) i))), (3, .int (nI i))] [] (ww_ret (some (.int (ww_b (q_any (fun k => q_S M x ar 27 k = v) w)))) M) ww_no := by
    intro m
    induction m with
    | zero =>
      intro i hi
      have e : i = w := by omega
      subst e
      refine ww_iload_n (i := 3) dX7_waits_4 rfl rfl ?_
      refine ww_aload_n (i := 0) dX7_waits_5 rfl rfl ?_
      refine ww_getI (f := 346) wf_X7_139 dX7_waits_6 rfl rfl hM.1.1 hM.1.2 ?_
      refine ww_icmp_ge_t (tgt := 38) dX7_waits_9 (by decide) (by rw [hw]; exact Int32.le_refl _) ?_
      refine ww_iload_n (i := 2) dX7_waits_38 rfl rfl ?_
      exact ww_ireturn dX7_waits_39 rfl (by first | rfl | exact ww_b_nar) ⟨rfl, rfl⟩
    | succ m ih =>
      intro i hi
      have hlt : ¬ ww_I M 346 x ≤ nI i := by rw [hw]; exact nI_ge (by omega) (by omega)
      by_cases h1 : q_any (fun k => q_S M x ar 27 k = v) i
      · have h2 : q_any (fun k => q_S M x ar 27 k = v) (i + 1) := q_any_s.mpr (Or.inl h1)
        rw [ww_b_t h1]
        have ih' := ih (i + 1) (by omega)
        rw [ww_b_t h2, ← nI_1] at ih'
        refine ww_iload_n (i := 3) dX7_waits_4 rfl rfl ?_
        refine ww_aload_n (i := 0) dX7_waits_5 rfl rfl ?_
        refine ww_getI (f := 346) wf_X7_139 dX7_waits_6 rfl rfl hM.1.1 hM.1.2 ?_
        refine ww_icmp_ge_f (tgt := 38) dX7_waits_9 (by decide) hlt ?_
        refine ww_iload_n (i := 2) dX7_waits_12 rfl rfl ?_
        refine ww_if_ne_t (tgt := 26) dX7_waits_13 (by decide) (by decide) ?_
        refine ww_iconst (v := 1) dX7_waits_26 (by decide) ?_
        refine ww_goto (tgt := 31) dX7_waits_27 (by decide) ?_
        refine ww_istore_n (i := 2) (lv2 := [(0, _), (1, _), (2, _), (3, _)]) dX7_waits_31 rfl (Nat.le_of_ble_eq_true rfl) rfl ?_
        refine ww_iinc (i := 3) (v := _ + 1) (lv2 := [(0, _), (1, _), (2, _), (3, _)]) dX7_waits_32 rfl (by rfl) (Nat.le_of_ble_eq_true rfl) rfl ?_
        refine ww_goto (tgt := 4) dX7_waits_35 (by decide) ?_
        -- at 4, locals [0, 1, 2, 3]
        exact ih'
      · by_cases h3 : q_S M x ar 27 i = v
        · have h2 : q_any (fun k => q_S M x ar 27 k = v) (i + 1) := q_any_s.mpr (Or.inr h3)
          rw [ww_b_f h1]
          have ih' := ih (i + 1) (by omega)
          rw [ww_b_t h2, ← nI_1] at ih'
          refine ww_iload_n (i := 3) dX7_waits_4 rfl rfl ?_
          refine ww_aload_n (i := 0) dX7_waits_5 rfl rfl ?_
          refine ww_getI (f := 346) wf_X7_139 dX7_waits_6 rfl rfl hM.1.1 hM.1.2 ?_
          refine ww_icmp_ge_f (tgt := 38) dX7_waits_9 (by decide) hlt ?_
          refine ww_iload_n (i := 2) dX7_waits_12 rfl rfl ?_
          refine ww_if_ne_f (tgt := 26) dX7_waits_13 (by decide) rfl ?_
          refine ww_aload_n (i := 0) dX7_waits_16 rfl rfl ?_
          refine ww_getR (f := 347) wf_X7_80 dX7_waits_17 rfl rfl hM.1.1 hM.1.2 (hM.2.1 27 rfl) ?_
          refine ww_iload_n (i := 3) dX7_waits_20 rfl rfl ?_
          refine ww_mald (k := 27) hM dX7_waits_21 rfl rfl rfl (show _ < 8 by omega) ?_
          refine ww_iload_n (i := 1) dX7_waits_22 rfl rfl ?_
          refine ww_icmp_ne_f (tgt := 30) dX7_waits_23 (by decide) h3 ?_
          refine ww_iconst (v := 1) dX7_waits_26 (by decide) ?_
          refine ww_goto (tgt := 31) dX7_waits_27 (by decide) ?_
          refine ww_istore_n (i := 2) (lv2 := [(0, _), (1, _), (2, _), (3, _)]) dX7_waits_31 rfl (Nat.le_of_ble_eq_true rfl) rfl ?_
          refine ww_iinc (i := 3) (v := _ + 1) (lv2 := [(0, _), (1, _), (2, _), (3, _)]) dX7_waits_32 rfl (by rfl) (Nat.le_of_ble_eq_true rfl) rfl ?_
          refine ww_goto (tgt := 4) dX7_waits_35 (by decide) ?_
          -- at 4, locals [0, 1, 2, 3]
          exact ih'
        · have h2 : ¬ q_any (fun k => q_S M x ar 27 k = v) (i + 1) := fun z => (q_any_s.mp z).elim h1 h3
          rw [ww_b_f h1]
          have ih' := ih (i + 1) (by omega)
          rw [ww_b_f h2, ← nI_1] at ih'
          refine ww_iload_n (i := 3) dX7_waits_4 rfl rfl ?_
          refine ww_aload_n (i := 0) dX7_waits_5 rfl rfl ?_
          refine ww_getI (f := 346) wf_X7_139 dX7_waits_6 rfl rfl hM.1.1 hM.1.2 ?_
          refine ww_icmp_ge_f (tgt := 38) dX7_waits_9 (by decide) hlt ?_
          refine ww_iload_n (i := 2) dX7_waits_12 rfl rfl ?_
          refine ww_if_ne_f (tgt := 26) dX7_waits_13 (by decide) rfl ?_
          refine ww_aload_n (i := 0) dX7_waits_16 rfl rfl ?_
          refine ww_getR (f := 347) wf_X7_80 dX7_waits_17 rfl rfl hM.1.1 hM.1.2 (hM.2.1 27 rfl) ?_
          refine ww_iload_n (i := 3) dX7_waits_20 rfl rfl ?_
          refine ww_mald (k := 27) hM dX7_waits_21 rfl rfl rfl (show _ < 8 by omega) ?_
          refine ww_iload_n (i := 1) dX7_waits_22 rfl rfl ?_
          refine ww_icmp_ne_t (tgt := 30) dX7_waits_23 (by decide) h3 ?_
          refine ww_iconst (v := 0) dX7_waits_30 (by decide) ?_
          refine ww_istore_n (i := 2) (lv2 := [(0, _), (1, _), (2, _), (3, _)]) dX7_waits_31 rfl (Nat.le_of_ble_eq_true rfl) rfl ?_
          refine ww_iinc (i := 3) (v := _ + 1) (lv2 := [(0, _), (1, _), (2, _), (3, _)]) dX7_waits_32 rfl (by rfl) (Nat.le_of_ble_eq_true rfl) rfl ?_
          refine ww_goto (tgt := 4) dX7_waits_35 (by decide) ?_
          -- at 4, locals [0, 1, 2, 3]
          exact ih'
  have h0 := loop w 0 (by omega)
  rw [ww_b_f q_any_0] at h0
  refine ww_iconst (v := 0) dX7_waits_0 (by decide) ?_
  refine ww_istore_n (i := 2) (lv2 := [(0, _), (1, _), (2, _)]) dX7_waits_1 rfl (Nat.le_of_ble_eq_true rfl) rfl ?_
  refine ww_iconst (v := 0) dX7_waits_2 (by decide) ?_
  refine ww_istore_n (i := 3) (lv2 := [(0, _), (1, _), (2, _), (3, _)]) dX7_waits_3 rfl (Nat.le_of_ble_eq_true rfl) rfl ?_
  -- at 4, locals [0, 1, 2, 3]
  exact h0
set_option maxRecDepth 20000 in
theorem m_places (h k : Int32) : ww_C g wy_X7_places 1 0 0 [.int h, .int k] M (ww_ret (some (.int (q_places h k))) M) ww_no := by
  refine ww_ent (by decide +kernel) (Nat.le_of_ble_eq_true rfl) ⟨rfl, rfl, trivial⟩ ?_
  unfold q_places
  by_cases h1 : h = 2
  · rw [if_pos h1]
    by_cases h2 : k = 3
    · rw [if_pos h2]
      refine ww_iload_n (i := 0) dX7_places_0 rfl rfl ?_
      refine ww_iconst (v := 2) dX7_places_1 (by decide) ?_
      refine ww_icmp_ne_f (tgt := 25) dX7_places_2 (by decide) h1 ?_
      refine ww_iload_n (i := 1) dX7_places_5 rfl rfl ?_
      refine ww_iconst (v := 3) dX7_places_6 (by decide) ?_
      refine ww_icmp_ne_f (tgt := 14) dX7_places_7 (by decide) h2 ?_
      refine ww_iconst (v := 2) dX7_places_10 (by decide) ?_
      refine ww_goto (tgt := 24) dX7_places_11 (by decide) ?_
      exact ww_ireturn dX7_places_24 rfl (by first | rfl | exact ww_b_nar) ⟨rfl, rfl⟩
    · rw [if_neg h2]
      by_cases h3 : k = 4
      · rw [if_pos h3]
        refine ww_iload_n (i := 0) dX7_places_0 rfl rfl ?_
        refine ww_iconst (v := 2) dX7_places_1 (by decide) ?_
        refine ww_icmp_ne_f (tgt := 25) dX7_places_2 (by decide) h1 ?_
        refine ww_iload_n (i := 1) dX7_places_5 rfl rfl ?_
        refine ww_iconst (v := 3) dX7_places_6 (by decide) ?_
        refine ww_icmp_ne_t (tgt := 14) dX7_places_7 (by decide) h2 ?_
        refine ww_iload_n (i := 1) dX7_places_14 rfl rfl ?_
        refine ww_iconst (v := 4) dX7_places_15 (by decide) ?_
        refine ww_icmp_ne_f (tgt := 23) dX7_places_16 (by decide) h3 ?_
        refine ww_iconst (v := 1) dX7_places_19 (by decide) ?_
        refine ww_goto (tgt := 24) dX7_places_20 (by decide) ?_
        exact ww_ireturn dX7_places_24 rfl (by first | rfl | exact ww_b_nar) ⟨rfl, rfl⟩
      · rw [if_neg h3]
        refine ww_iload_n (i := 0) dX7_places_0 rfl rfl ?_
        refine ww_iconst (v := 2) dX7_places_1 (by decide) ?_
        refine ww_icmp_ne_f (tgt := 25) dX7_places_2 (by decide) h1 ?_
        refine ww_iload_n (i := 1) dX7_places_5 rfl rfl ?_
        refine ww_iconst (v := 3) dX7_places_6 (by decide) ?_
        refine ww_icmp_ne_t (tgt := 14) dX7_places_7 (by decide) h2 ?_
        refine ww_iload_n (i := 1) dX7_places_14 rfl rfl ?_
        refine ww_iconst (v := 4) dX7_places_15 (by decide) ?_
        refine ww_icmp_ne_t (tgt := 23) dX7_places_16 (by decide) h3 ?_
        refine ww_iconst (v := 0) dX7_places_23 (by decide) ?_
        exact ww_ireturn dX7_places_24 rfl (by first | rfl | exact ww_b_nar) ⟨rfl, rfl⟩
  · rw [if_neg h1]
    by_cases h2 : h = 0
    · by_cases h3 : k = h + 1
      · rw [if_pos ⟨Or.inl h2, h3⟩]
        refine ww_iload_n (i := 0) dX7_places_0 rfl rfl ?_
        refine ww_iconst (v := 2) dX7_places_1 (by decide) ?_
        refine ww_icmp_ne_t (tgt := 25) dX7_places_2 (by decide) h1 ?_
        refine ww_iload_n (i := 0) dX7_places_25 rfl rfl ?_
        refine ww_if_eq_t (tgt := 34) dX7_places_26 (by decide) h2 ?_
        refine ww_iload_n (i := 1) dX7_places_34 rfl rfl ?_
        refine ww_iload_n (i := 0) dX7_places_35 rfl rfl ?_
        refine ww_iconst (v := 1) dX7_places_36 (by decide) ?_
        refine ww_iadd dX7_places_37 ?_
        refine ww_icmp_ne_f (tgt := 45) dX7_places_38 (by decide) h3 ?_
        refine ww_iconst (v := 2) dX7_places_41 (by decide) ?_
        refine ww_goto (tgt := 46) dX7_places_42 (by decide) ?_
        exact ww_ireturn dX7_places_46 rfl (by first | rfl | exact ww_b_nar) ⟨rfl, rfl⟩
      · rw [if_neg (fun z => h3 z.2)]
        refine ww_iload_n (i := 0) dX7_places_0 rfl rfl ?_
        refine ww_iconst (v := 2) dX7_places_1 (by decide) ?_
        refine ww_icmp_ne_t (tgt := 25) dX7_places_2 (by decide) h1 ?_
        refine ww_iload_n (i := 0) dX7_places_25 rfl rfl ?_
        refine ww_if_eq_t (tgt := 34) dX7_places_26 (by decide) h2 ?_
        refine ww_iload_n (i := 1) dX7_places_34 rfl rfl ?_
        refine ww_iload_n (i := 0) dX7_places_35 rfl rfl ?_
        refine ww_iconst (v := 1) dX7_places_36 (by decide) ?_
        refine ww_iadd dX7_places_37 ?_
        refine ww_icmp_ne_t (tgt := 45) dX7_places_38 (by decide) h3 ?_
        refine ww_iconst (v := 0) dX7_places_45 (by decide) ?_
        exact ww_ireturn dX7_places_46 rfl (by first | rfl | exact ww_b_nar) ⟨rfl, rfl⟩
    · by_cases h4 : h = 1
      · by_cases h3 : k = h + 1
        · rw [if_pos ⟨Or.inr h4, h3⟩]
          refine ww_iload_n (i := 0) dX7_places_0 rfl rfl ?_
          refine ww_iconst (v := 2) dX7_places_1 (by decide) ?_
          refine ww_icmp_ne_t (tgt := 25) dX7_places_2 (by decide) h1 ?_
          refine ww_iload_n (i := 0) dX7_places_25 rfl rfl ?_
          refine ww_if_eq_f (tgt := 34) dX7_places_26 (by decide) h2 ?_
          refine ww_iload_n (i := 0) dX7_places_29 rfl rfl ?_
          refine ww_iconst (v := 1) dX7_places_30 (by decide) ?_
          refine ww_icmp_ne_f (tgt := 45) dX7_places_31 (by decide) h4 ?_
          refine ww_iload_n (i := 1) dX7_places_34 rfl rfl ?_
          refine ww_iload_n (i := 0) dX7_places_35 rfl rfl ?_
          refine ww_iconst (v := 1) dX7_places_36 (by decide) ?_
          refine ww_iadd dX7_places_37 ?_
          refine ww_icmp_ne_f (tgt := 45) dX7_places_38 (by decide) h3 ?_
          refine ww_iconst (v := 2) dX7_places_41 (by decide) ?_
          refine ww_goto (tgt := 46) dX7_places_42 (by decide) ?_
          exact ww_ireturn dX7_places_46 rfl (by first | rfl | exact ww_b_nar) ⟨rfl, rfl⟩
        · rw [if_neg (fun z => h3 z.2)]
          refine ww_iload_n (i := 0) dX7_places_0 rfl rfl ?_
          refine ww_iconst (v := 2) dX7_places_1 (by decide) ?_
          refine ww_icmp_ne_t (tgt := 25) dX7_places_2 (by decide) h1 ?_
          refine ww_iload_n (i := 0) dX7_places_25 rfl rfl ?_
          refine ww_if_eq_f (tgt := 34) dX7_places_26 (by decide) h2 ?_
          refine ww_iload_n (i := 0) dX7_places_29 rfl rfl ?_
          refine ww_iconst (v := 1) dX7_places_30 (by decide) ?_
          refine ww_icmp_ne_f (tgt := 45) dX7_places_31 (by decide) h4 ?_
          refine ww_iload_n (i := 1) dX7_places_34 rfl rfl ?_
          refine ww_iload_n (i := 0) dX7_places_35 rfl rfl ?_
          refine ww_iconst (v := 1) dX7_places_36 (by decide) ?_
          refine ww_iadd dX7_places_37 ?_
          refine ww_icmp_ne_t (tgt := 45) dX7_places_38 (by decide) h3 ?_
          refine ww_iconst (v := 0) dX7_places_45 (by decide) ?_
          exact ww_ireturn dX7_places_46 rfl (by first | rfl | exact ww_b_nar) ⟨rfl, rfl⟩
      · rw [if_neg (fun z => z.1.elim h2 h4)]
        refine ww_iload_n (i := 0) dX7_places_0 rfl rfl ?_
        refine ww_iconst (v := 2) dX7_places_1 (by decide) ?_
        refine ww_icmp_ne_t (tgt := 25) dX7_places_2 (by decide) h1 ?_
        refine ww_iload_n (i := 0) dX7_places_25 rfl rfl ?_
        refine ww_if_eq_f (tgt := 34) dX7_places_26 (by decide) h2 ?_
        refine ww_iload_n (i := 0) dX7_places_29 rfl rfl ?_
        refine ww_iconst (v := 1) dX7_places_30 (by decide) ?_
        refine ww_icmp_ne_t (tgt := 45) dX7_places_31 (by decide) h4 ?_
        refine ww_iconst (v := 0) dX7_places_45 (by decide) ?_
        exact ww_ireturn dX7_places_46 rfl (by first | rfl | exact ww_b_nar) ⟨rfl, rfl⟩
set_option maxRecDepth 20000 in
theorem m_insideG (hM : ww_mo x ar M.1 M.2.2.1) (hn : ww_I M 321 x = nI n) (h6 : n ≤ 60) (h k : Int32) : ww_C g wy_X7_inside 1 0 0 [.ref x, .int h, .int k] M (ww_ret (some (.int (nI (q_cnt (fun p => q_S M x ar 5 p = h ∧ (k = -1 ∨ q_S M x ar 2 p = k)) n)))) M) ww_no := by
  refine ww_ent (by decide +kernel) (Nat.le_of_ble_eq_true rfl) ⟨rfl, rfl, rfl, trivial⟩ ?_
  generalize hP : (fun p => q_S M x ar 5 p = h ∧ (k = -1 ∨ q_S M x ar 2 p = k)) = P
  have loop : ∀ (m i : Nat), i + m = n → ww_A g wy_X7_inside 1 0 0 M 5 [(0, .ref x), (1, .int h), (2, .int k), (3, .int (nI (q_cnt P i))), (4, .int (nI i))] [] (ww_ret (some (.int (nI (q_cnt P n)))) M) ww_no := by
    intro m
    induction m with
    | zero =>
      intro i hi
      have e : i = n := by omega
      subst e
      refine ww_iload (i := 4) dX7_inside_5 rfl ?_
      refine ww_aload_n (i := 0) dX7_inside_7 rfl rfl ?_
      refine ww_getI (f := 321) wf_X7_102 dX7_inside_8 rfl rfl hM.1.1 hM.1.2 ?_
      refine ww_icmp_ge_t (tgt := 55) dX7_inside_11 (by decide) (by rw [hn]; exact Int32.le_refl _) ?_
      refine ww_iload_n (i := 3) dX7_inside_55 rfl rfl ?_
      exact ww_ireturn dX7_inside_56 rfl (by first | rfl | exact ww_b_nar) ⟨rfl, rfl⟩
    | succ m ih =>
      intro i hi
      have hlt : ¬ ww_I M 321 x ≤ nI i := by rw [hn]; exact nI_ge (by omega) (by omega)
      have ih' := ih (i + 1) (by omega)
      by_cases h1 : q_S M x ar 5 i = h
      · by_cases h2 : k = -1
        · have hp : P i := by subst hP; exact ⟨h1, Or.inl h2⟩
          rw [q_cnt_s hp, ← nI_1, ← nI_1] at ih'
          refine ww_iload (i := 4) dX7_inside_5 rfl ?_
          refine ww_aload_n (i := 0) dX7_inside_7 rfl rfl ?_
          refine ww_getI (f := 321) wf_X7_102 dX7_inside_8 rfl rfl hM.1.1 hM.1.2 ?_
          refine ww_icmp_ge_f (tgt := 55) dX7_inside_11 (by decide) hlt ?_
          refine ww_iload_n (i := 3) dX7_inside_14 rfl rfl ?_
          refine ww_aload_n (i := 0) dX7_inside_15 rfl rfl ?_
          refine ww_getR (f := 325) wf_X7_19 dX7_inside_16 rfl rfl hM.1.1 hM.1.2 (hM.2.1 5 rfl) ?_
          refine ww_iload (i := 4) dX7_inside_19 rfl ?_
          refine ww_mald (k := 5) hM dX7_inside_21 rfl rfl rfl (show _ < 60 by omega) ?_
          refine ww_iload_n (i := 1) dX7_inside_22 rfl rfl ?_
          refine ww_icmp_ne_f (tgt := 46) dX7_inside_23 (by decide) h1 ?_
          refine ww_iload_n (i := 2) dX7_inside_26 rfl rfl ?_
          refine ww_iconst (v := (-1)) dX7_inside_27 (by decide) ?_
          refine ww_icmp_eq_t (tgt := 42) dX7_inside_28 (by decide) h2 ?_
          refine ww_iconst (v := 1) dX7_inside_42 (by decide) ?_
          refine ww_goto (tgt := 47) dX7_inside_43 (by decide) ?_
          refine ww_iadd dX7_inside_47 ?_
          refine ww_istore_n (i := 3) (lv2 := [(0, _), (1, _), (2, _), (3, _), (4, _)]) dX7_inside_48 rfl (Nat.le_of_ble_eq_true rfl) rfl ?_
          refine ww_iinc (i := 4) (v := _ + 1) (lv2 := [(0, _), (1, _), (2, _), (3, _), (4, _)]) dX7_inside_49 rfl (by rfl) (Nat.le_of_ble_eq_true rfl) rfl ?_
          refine ww_goto (tgt := 5) dX7_inside_52 (by decide) ?_
          -- at 5, locals [0, 1, 2, 3, 4]
          exact ih'
        · by_cases h3 : q_S M x ar 2 i = k
          · have hp : P i := by subst hP; exact ⟨h1, Or.inr h3⟩
            rw [q_cnt_s hp, ← nI_1, ← nI_1] at ih'
            refine ww_iload (i := 4) dX7_inside_5 rfl ?_
            refine ww_aload_n (i := 0) dX7_inside_7 rfl rfl ?_
            refine ww_getI (f := 321) wf_X7_102 dX7_inside_8 rfl rfl hM.1.1 hM.1.2 ?_
            refine ww_icmp_ge_f (tgt := 55) dX7_inside_11 (by decide) hlt ?_
            refine ww_iload_n (i := 3) dX7_inside_14 rfl rfl ?_
            refine ww_aload_n (i := 0) dX7_inside_15 rfl rfl ?_
            refine ww_getR (f := 325) wf_X7_19 dX7_inside_16 rfl rfl hM.1.1 hM.1.2 (hM.2.1 5 rfl) ?_
            refine ww_iload (i := 4) dX7_inside_19 rfl ?_
            refine ww_mald (k := 5) hM dX7_inside_21 rfl rfl rfl (show _ < 60 by omega) ?_
            refine ww_iload_n (i := 1) dX7_inside_22 rfl rfl ?_
            refine ww_icmp_ne_f (tgt := 46) dX7_inside_23 (by decide) h1 ?_
            refine ww_iload_n (i := 2) dX7_inside_26 rfl rfl ?_
            refine ww_iconst (v := (-1)) dX7_inside_27 (by decide) ?_
            refine ww_icmp_eq_f (tgt := 42) dX7_inside_28 (by decide) h2 ?_
            refine ww_aload_n (i := 0) dX7_inside_31 rfl rfl ?_
            refine ww_getR (f := 322) wf_X7_7 dX7_inside_32 rfl rfl hM.1.1 hM.1.2 (hM.2.1 2 rfl) ?_
            refine ww_iload (i := 4) dX7_inside_35 rfl ?_
            refine ww_mald (k := 2) hM dX7_inside_37 rfl rfl rfl (show _ < 60 by omega) ?_
            refine ww_iload_n (i := 2) dX7_inside_38 rfl rfl ?_
            refine ww_icmp_ne_f (tgt := 46) dX7_inside_39 (by decide) h3 ?_
            refine ww_iconst (v := 1) dX7_inside_42 (by decide) ?_
            refine ww_goto (tgt := 47) dX7_inside_43 (by decide) ?_
            refine ww_iadd dX7_inside_47 ?_
            refine ww_istore_n (i := 3) (lv2 := [(0, _), (1, _), (2, _), (3, _), (4, _)]) dX7_inside_48 rfl (Nat.le_of_ble_eq_true rfl) rfl ?_
            refine ww_iinc (i := 4) (v := _ + 1) (lv2 := [(0, _), (1, _), (2, _), (3, _), (4, _)]) dX7_inside_49 rfl (by rfl) (Nat.le_of_ble_eq_true rfl) rfl ?_
            refine ww_goto (tgt := 5) dX7_inside_52 (by decide) ?_
            -- at 5, locals [0, 1, 2, 3, 4]
            exact ih'
          · have hp : ¬ P i := by subst hP; exact fun z => z.2.elim h2 h3
            rw [q_cnt_n hp, ← nI_1] at ih'
            refine ww_iload (i := 4) dX7_inside_5 rfl ?_
            refine ww_aload_n (i := 0) dX7_inside_7 rfl rfl ?_
            refine ww_getI (f := 321) wf_X7_102 dX7_inside_8 rfl rfl hM.1.1 hM.1.2 ?_
            refine ww_icmp_ge_f (tgt := 55) dX7_inside_11 (by decide) hlt ?_
            refine ww_iload_n (i := 3) dX7_inside_14 rfl rfl ?_
            refine ww_aload_n (i := 0) dX7_inside_15 rfl rfl ?_
            refine ww_getR (f := 325) wf_X7_19 dX7_inside_16 rfl rfl hM.1.1 hM.1.2 (hM.2.1 5 rfl) ?_
            refine ww_iload (i := 4) dX7_inside_19 rfl ?_
            refine ww_mald (k := 5) hM dX7_inside_21 rfl rfl rfl (show _ < 60 by omega) ?_
            refine ww_iload_n (i := 1) dX7_inside_22 rfl rfl ?_
            refine ww_icmp_ne_f (tgt := 46) dX7_inside_23 (by decide) h1 ?_
            refine ww_iload_n (i := 2) dX7_inside_26 rfl rfl ?_
            refine ww_iconst (v := (-1)) dX7_inside_27 (by decide) ?_
            refine ww_icmp_eq_f (tgt := 42) dX7_inside_28 (by decide) h2 ?_
            refine ww_aload_n (i := 0) dX7_inside_31 rfl rfl ?_
            refine ww_getR (f := 322) wf_X7_7 dX7_inside_32 rfl rfl hM.1.1 hM.1.2 (hM.2.1 2 rfl) ?_
            refine ww_iload (i := 4) dX7_inside_35 rfl ?_
            refine ww_mald (k := 2) hM dX7_inside_37 rfl rfl rfl (show _ < 60 by omega) ?_
            refine ww_iload_n (i := 2) dX7_inside_38 rfl rfl ?_
            refine ww_icmp_ne_t (tgt := 46) dX7_inside_39 (by decide) h3 ?_
            refine ww_iconst (v := 0) dX7_inside_46 (by decide) ?_
            refine ww_iadd dX7_inside_47 ?_
            refine ww_istore_n (i := 3) (lv2 := [(0, _), (1, _), (2, _), (3, _), (4, _)]) dX7_inside_48 rfl (Nat.le_of_ble_eq_true rfl) rfl ?_
            refine ww_iinc (i := 4) (v := _ + 1) (lv2 := [(0, _), (1, _), (2, _), (3, _), (4, _)]) dX7_inside_49 rfl (by rfl) (Nat.le_of_ble_eq_true rfl) rfl ?_
            refine ww_goto (tgt := 5) dX7_inside_52 (by decide) ?_
            -- at 5, locals [0, 1, 2, 3, 4]
            rw [Int32.add_zero]
            exact ih'
      · have hp : ¬ P i := by subst hP; exact fun z => h1 z.1
        rw [q_cnt_n hp, ← nI_1] at ih'
        refine ww_iload (i := 4) dX7_inside_5 rfl ?_
        refine ww_aload_n (i := 0) dX7_inside_7 rfl rfl ?_
        refine ww_getI (f := 321) wf_X7_102 dX7_inside_8 rfl rfl hM.1.1 hM.1.2 ?_
        refine ww_icmp_ge_f (tgt := 55) dX7_inside_11 (by decide) hlt ?_
        refine ww_iload_n (i := 3) dX7_inside_14 rfl rfl ?_
        refine ww_aload_n (i := 0) dX7_inside_15 rfl rfl ?_
        refine ww_getR (f := 325) wf_X7_19 dX7_inside_16 rfl rfl hM.1.1 hM.1.2 (hM.2.1 5 rfl) ?_
        refine ww_iload (i := 4) dX7_inside_19 rfl ?_
        refine ww_mald (k := 5) hM dX7_inside_21 rfl rfl rfl (show _ < 60 by omega) ?_
        refine ww_iload_n (i := 1) dX7_inside_22 rfl rfl ?_
        refine ww_icmp_ne_t (tgt := 46) dX7_inside_23 (by decide) h1 ?_
        refine ww_iconst (v := 0) dX7_inside_46 (by decide) ?_
        refine ww_iadd dX7_inside_47 ?_
        refine ww_istore_n (i := 3) (lv2 := [(0, _), (1, _), (2, _), (3, _), (4, _)]) dX7_inside_48 rfl (Nat.le_of_ble_eq_true rfl) rfl ?_
        refine ww_iinc (i := 4) (v := _ + 1) (lv2 := [(0, _), (1, _), (2, _), (3, _), (4, _)]) dX7_inside_49 rfl (by rfl) (Nat.le_of_ble_eq_true rfl) rfl ?_
        refine ww_goto (tgt := 5) dX7_inside_52 (by decide) ?_
        -- at 5, locals [0, 1, 2, 3, 4]
        rw [Int32.add_zero]
        exact ih'
  refine ww_iconst (v := 0) dX7_inside_0 (by decide) ?_
  refine ww_istore_n (i := 3) (lv2 := [(0, _), (1, _), (2, _), (3, _)]) dX7_inside_1 rfl (Nat.le_of_ble_eq_true rfl) rfl ?_
  refine ww_iconst (v := 0) dX7_inside_2 (by decide) ?_
  refine ww_istore (i := 4) (lv2 := [(0, _), (1, _), (2, _), (3, _), (4, _)]) dX7_inside_3 (Nat.le_of_ble_eq_true rfl) rfl ?_
  -- at 5, locals [0, 1, 2, 3, 4]
  exact loop n 0 (by omega)
theorem m_inside (hM : ww_mo x ar M.1 M.2.2.1) (hn : ww_I M 321 x = nI n) (h6 : n ≤ 60) (h : Int32) : ww_C g wy_X7_inside 1 0 0 [.ref x, .int h, .int (-1)] M (ww_ret (some (.int (nI (q_in (q_S M x ar) n h)))) M) ww_no := by
  have e := m_insideG (g := g) hM hn h6 h (-1)
  rw [show q_cnt (fun p => q_S M x ar 5 p = h ∧ ((-1 : Int32) = -1 ∨ q_S M x ar 2 p = -1)) n = q_in (q_S M x ar) n h from q_cnt_cg (fun p _ => ⟨fun z => z.1, fun z => ⟨z, Or.inl rfl⟩⟩)] at e
  exact e
theorem m_insideK (hM : ww_mo x ar M.1 M.2.2.1) (hn : ww_I M 321 x = nI n) (h6 : n ≤ 60) (h k : Int32) (hk : ¬ k = -1) : ww_C g wy_X7_inside 1 0 0 [.ref x, .int h, .int k] M (ww_ret (some (.int (nI (q_inK (q_S M x ar) n h k)))) M) ww_no := by
  have e := m_insideG (g := g) hM hn h6 h k
  rw [show q_cnt (fun p => q_S M x ar 5 p = h ∧ (k = -1 ∨ q_S M x ar 2 p = k)) n = q_inK (q_S M x ar) n h k from q_cnt_cg (fun p _ => ⟨fun z => ⟨z.1, z.2.resolve_left hk⟩, fun z => ⟨z.1, Or.inr z.2⟩⟩)] at e
  exact e
/-- the factor of a season -/
def q_fac (s : Int32) : Int32 := if s = 3 then 2 else s + 1
set_option maxRecDepth 20000 in
theorem m_factor (s : Int32) : ww_C g wy_X7_factor 1 0 0 [.int s] M (ww_ret (some (.int (q_fac s))) M) ww_no := by
  refine ww_ent (by decide +kernel) (Nat.le_of_ble_eq_true rfl) ⟨rfl, trivial⟩ ?_
  unfold q_fac
  by_cases h : s = 3
  · rw [if_pos h]
    refine ww_iload_n (i := 0) dX7_factor_0 rfl rfl ?_
    refine ww_iconst (v := 3) dX7_factor_1 (by decide) ?_
    refine ww_icmp_ne_f (tgt := 9) dX7_factor_2 (by decide) h ?_
    refine ww_iconst (v := 2) dX7_factor_5 (by decide) ?_
    refine ww_goto (tgt := 12) dX7_factor_6 (by decide) ?_
    exact ww_ireturn dX7_factor_12 rfl (by first | rfl | exact ww_b_nar) ⟨rfl, rfl⟩
  · rw [if_neg h]
    refine ww_iload_n (i := 0) dX7_factor_0 rfl rfl ?_
    refine ww_iconst (v := 3) dX7_factor_1 (by decide) ?_
    refine ww_icmp_ne_t (tgt := 9) dX7_factor_2 (by decide) h ?_
    refine ww_iload_n (i := 0) dX7_factor_9 rfl rfl ?_
    refine ww_iconst (v := 1) dX7_factor_10 (by decide) ?_
    refine ww_iadd dX7_factor_11 ?_
    exact ww_ireturn dX7_factor_12 rfl (by first | rfl | exact ww_b_nar) ⟨rfl, rfl⟩
/-- the lower, or the higher, wheelset in h -/
noncomputable def q_ws (S : Nat → Nat → Int32) (h : Int32) (hi : Prop) : Nat → Int32
  | 0 => -1
  | i + 1 => q_if ((S 5 i = h ∧ S 2 i = 3) ∧ (hi ∨ q_ws S h hi i = -1)) (nI i) (q_ws S h hi i)
theorem q_ws_t {S : Nat → Nat → Int32} {h : Int32} {hi : Prop} {i : Nat} (z : (S 5 i = h ∧ S 2 i = 3) ∧ (hi ∨ q_ws S h hi i = -1)) : q_ws S h hi (i + 1) = nI i := q_if_t z
theorem q_ws_f {S : Nat → Nat → Int32} {h : Int32} {hi : Prop} {i : Nat} (z : ¬ ((S 5 i = h ∧ S 2 i = 3) ∧ (hi ∨ q_ws S h hi i = -1))) : q_ws S h hi (i + 1) = q_ws S h hi i := q_if_f z
set_option maxRecDepth 20000 in
set_option maxHeartbeats 4000000 in
theorem m_wheelsetOf (hM : ww_mo x ar M.1 M.2.2.1) (hn : ww_I M 321 x = nI n) (h6 : n ≤ 60) (h b : Int32) : ww_C g wy_X7_wheelsetOf 1 0 0 [.ref x, .int h, .int b] M (ww_ret (some (.int (q_ws (q_S M x ar) h (¬ b = 0) n))) M) ww_no := by
  refine ww_ent (by decide +kernel) (Nat.le_of_ble_eq_true rfl) ⟨rfl, rfl, rfl, trivial⟩ ?_
  have loop : ∀ (m i : Nat), i + m = n → ww_A g wy_X7_wheelsetOf 1 0 0 M 5 [(0, .ref x), (1, .int h), (2, .int b), (3, .int (q_ws (q_S M x ar) h (¬ b = 0) i)), (4, .int (nI i))] [] (ww_ret (some (.int (q_ws (q_S M x ar) h (¬ b = 0) n))) M) ww_no := by
    intro m
    induction m with
    | zero =>
      intro i hi
      have e : i = n := by omega
      subst e
      refine ww_iload (i := 4) dX7_wheelsetOf_5 rfl ?_
      refine ww_aload_n (i := 0) dX7_wheelsetOf_7 rfl rfl ?_
      refine ww_getI (f := 321) wf_X7_102 dX7_wheelsetOf_8 rfl rfl hM.1.1 hM.1.2 ?_
      refine ww_icmp_ge_t (tgt := 70) dX7_wheelsetOf_11 (by decide) (by rw [hn]; exact Int32.le_refl _) ?_
      refine ww_iload_n (i := 3) dX7_wheelsetOf_70 rfl rfl ?_
      exact ww_ireturn dX7_wheelsetOf_71 rfl (by first | rfl | exact ww_b_nar) ⟨rfl, rfl⟩
    | succ m ih =>
      intro i hi
      have hlt : ¬ ww_I M 321 x ≤ nI i := by rw [hn]; exact nI_ge (by omega) (by omega)
      have ih' := ih (i + 1) (by omega)
      have fin : ∀ z : Value, ww_A g wy_X7_wheelsetOf 1 0 0 M 5 [(0, .ref x), (1, .int h), (2, .int b), (3, .int (q_ws (q_S M x ar) h (¬ b = 0) (i + 1))), (4, .int (nI i + 1)), (5, z)] [] (ww_ret (some (.int (q_ws (q_S M x ar) h (¬ b = 0) n))) M) ww_no := fun z => by
        rw [nI_1]
        exact ww_subk ih' ⟨rfl, rfl, rfl, rfl, rfl, trivial⟩
      by_cases h1 : q_S M x ar 5 i = h
      · by_cases h2 : q_S M x ar 2 i = 3
        · by_cases h3 : b = 0
          · by_cases h4 : q_ws (q_S M x ar) h (¬ b = 0) i = -1
            · rw [q_ws_t ⟨⟨h1, h2⟩, Or.inr h4⟩] at fin
              refine ww_iload (i := 4) dX7_wheelsetOf_5 rfl ?_
              refine ww_aload_n (i := 0) dX7_wheelsetOf_7 rfl rfl ?_
              refine ww_getI (f := 321) wf_X7_102 dX7_wheelsetOf_8 rfl rfl hM.1.1 hM.1.2 ?_
              refine ww_icmp_ge_f (tgt := 70) dX7_wheelsetOf_11 (by decide) hlt ?_
              refine ww_aload_n (i := 0) dX7_wheelsetOf_14 rfl rfl ?_
              refine ww_getR (f := 325) wf_X7_19 dX7_wheelsetOf_15 rfl rfl hM.1.1 hM.1.2 (hM.2.1 5 rfl) ?_
              refine ww_iload (i := 4) dX7_wheelsetOf_18 rfl ?_
              refine ww_mald (k := 5) hM dX7_wheelsetOf_20 rfl rfl rfl (show _ < 60 by omega) ?_
              refine ww_iload_n (i := 1) dX7_wheelsetOf_21 rfl rfl ?_
              refine ww_icmp_ne_f (tgt := 40) dX7_wheelsetOf_22 (by decide) h1 ?_
              refine ww_aload_n (i := 0) dX7_wheelsetOf_25 rfl rfl ?_
              refine ww_getR (f := 322) wf_X7_7 dX7_wheelsetOf_26 rfl rfl hM.1.1 hM.1.2 (hM.2.1 2 rfl) ?_
              refine ww_iload (i := 4) dX7_wheelsetOf_29 rfl ?_
              refine ww_mald (k := 2) hM dX7_wheelsetOf_31 rfl rfl rfl (show _ < 60 by omega) ?_
              refine ww_iconst (v := 3) dX7_wheelsetOf_32 (by decide) ?_
              refine ww_icmp_ne_f (tgt := 40) dX7_wheelsetOf_33 (by decide) h2 ?_
              refine ww_iconst (v := 1) dX7_wheelsetOf_36 (by decide) ?_
              refine ww_goto (tgt := 41) dX7_wheelsetOf_37 (by decide) ?_
              refine ww_istore (i := 5) (lv2 := [(0, _), (1, _), (2, _), (3, _), (4, _), (5, _)]) dX7_wheelsetOf_41 (Nat.le_of_ble_eq_true rfl) rfl ?_
              refine ww_iload (i := 5) dX7_wheelsetOf_43 rfl ?_
              refine ww_if_eq_f (tgt := 62) dX7_wheelsetOf_45 (by decide) (by decide) ?_
              refine ww_iload_n (i := 2) dX7_wheelsetOf_48 rfl rfl ?_
              refine ww_if_ne_f (tgt := 57) dX7_wheelsetOf_49 (by decide) h3 ?_
              refine ww_iload_n (i := 3) dX7_wheelsetOf_52 rfl rfl ?_
              refine ww_iconst (v := (-1)) dX7_wheelsetOf_53 (by decide) ?_
              refine ww_icmp_ne_f (tgt := 62) dX7_wheelsetOf_54 (by decide) h4 ?_
              refine ww_iload (i := 4) dX7_wheelsetOf_57 rfl ?_
              refine ww_goto (tgt := 63) dX7_wheelsetOf_59 (by decide) ?_
              refine ww_istore_n (i := 3) (lv2 := [(0, _), (1, _), (2, _), (3, _), (4, _), (5, _)]) dX7_wheelsetOf_63 rfl (Nat.le_of_ble_eq_true rfl) rfl ?_
              refine ww_iinc (i := 4) (v := _ + 1) (lv2 := [(0, _), (1, _), (2, _), (3, _), (4, _), (5, _)]) dX7_wheelsetOf_64 rfl (by rfl) (Nat.le_of_ble_eq_true rfl) rfl ?_
              refine ww_goto (tgt := 5) dX7_wheelsetOf_67 (by decide) ?_
              -- at 5, locals [0, 1, 2, 3, 4, 5]
              exact fin _
            · rw [q_ws_f (fun z => z.2.elim (fun y => y h3) h4)] at fin
              refine ww_iload (i := 4) dX7_wheelsetOf_5 rfl ?_
              refine ww_aload_n (i := 0) dX7_wheelsetOf_7 rfl rfl ?_
              refine ww_getI (f := 321) wf_X7_102 dX7_wheelsetOf_8 rfl rfl hM.1.1 hM.1.2 ?_
              refine ww_icmp_ge_f (tgt := 70) dX7_wheelsetOf_11 (by decide) hlt ?_
              refine ww_aload_n (i := 0) dX7_wheelsetOf_14 rfl rfl ?_
              refine ww_getR (f := 325) wf_X7_19 dX7_wheelsetOf_15 rfl rfl hM.1.1 hM.1.2 (hM.2.1 5 rfl) ?_
              refine ww_iload (i := 4) dX7_wheelsetOf_18 rfl ?_
              refine ww_mald (k := 5) hM dX7_wheelsetOf_20 rfl rfl rfl (show _ < 60 by omega) ?_
              refine ww_iload_n (i := 1) dX7_wheelsetOf_21 rfl rfl ?_
              refine ww_icmp_ne_f (tgt := 40) dX7_wheelsetOf_22 (by decide) h1 ?_
              refine ww_aload_n (i := 0) dX7_wheelsetOf_25 rfl rfl ?_
              refine ww_getR (f := 322) wf_X7_7 dX7_wheelsetOf_26 rfl rfl hM.1.1 hM.1.2 (hM.2.1 2 rfl) ?_
              refine ww_iload (i := 4) dX7_wheelsetOf_29 rfl ?_
              refine ww_mald (k := 2) hM dX7_wheelsetOf_31 rfl rfl rfl (show _ < 60 by omega) ?_
              refine ww_iconst (v := 3) dX7_wheelsetOf_32 (by decide) ?_
              refine ww_icmp_ne_f (tgt := 40) dX7_wheelsetOf_33 (by decide) h2 ?_
              refine ww_iconst (v := 1) dX7_wheelsetOf_36 (by decide) ?_
              refine ww_goto (tgt := 41) dX7_wheelsetOf_37 (by decide) ?_
              refine ww_istore (i := 5) (lv2 := [(0, _), (1, _), (2, _), (3, _), (4, _), (5, _)]) dX7_wheelsetOf_41 (Nat.le_of_ble_eq_true rfl) rfl ?_
              refine ww_iload (i := 5) dX7_wheelsetOf_43 rfl ?_
              refine ww_if_eq_f (tgt := 62) dX7_wheelsetOf_45 (by decide) (by decide) ?_
              refine ww_iload_n (i := 2) dX7_wheelsetOf_48 rfl rfl ?_
              refine ww_if_ne_f (tgt := 57) dX7_wheelsetOf_49 (by decide) h3 ?_
              refine ww_iload_n (i := 3) dX7_wheelsetOf_52 rfl rfl ?_
              refine ww_iconst (v := (-1)) dX7_wheelsetOf_53 (by decide) ?_
              refine ww_icmp_ne_t (tgt := 62) dX7_wheelsetOf_54 (by decide) h4 ?_
              refine ww_iload_n (i := 3) dX7_wheelsetOf_62 rfl rfl ?_
              refine ww_istore_n (i := 3) (lv2 := [(0, _), (1, _), (2, _), (3, _), (4, _), (5, _)]) dX7_wheelsetOf_63 rfl (Nat.le_of_ble_eq_true rfl) rfl ?_
              refine ww_iinc (i := 4) (v := _ + 1) (lv2 := [(0, _), (1, _), (2, _), (3, _), (4, _), (5, _)]) dX7_wheelsetOf_64 rfl (by rfl) (Nat.le_of_ble_eq_true rfl) rfl ?_
              refine ww_goto (tgt := 5) dX7_wheelsetOf_67 (by decide) ?_
              -- at 5, locals [0, 1, 2, 3, 4, 5]
              exact fin _
          · rw [q_ws_t ⟨⟨h1, h2⟩, Or.inl h3⟩] at fin
            refine ww_iload (i := 4) dX7_wheelsetOf_5 rfl ?_
            refine ww_aload_n (i := 0) dX7_wheelsetOf_7 rfl rfl ?_
            refine ww_getI (f := 321) wf_X7_102 dX7_wheelsetOf_8 rfl rfl hM.1.1 hM.1.2 ?_
            refine ww_icmp_ge_f (tgt := 70) dX7_wheelsetOf_11 (by decide) hlt ?_
            refine ww_aload_n (i := 0) dX7_wheelsetOf_14 rfl rfl ?_
            refine ww_getR (f := 325) wf_X7_19 dX7_wheelsetOf_15 rfl rfl hM.1.1 hM.1.2 (hM.2.1 5 rfl) ?_
            refine ww_iload (i := 4) dX7_wheelsetOf_18 rfl ?_
            refine ww_mald (k := 5) hM dX7_wheelsetOf_20 rfl rfl rfl (show _ < 60 by omega) ?_
            refine ww_iload_n (i := 1) dX7_wheelsetOf_21 rfl rfl ?_
            refine ww_icmp_ne_f (tgt := 40) dX7_wheelsetOf_22 (by decide) h1 ?_
            refine ww_aload_n (i := 0) dX7_wheelsetOf_25 rfl rfl ?_
            refine ww_getR (f := 322) wf_X7_7 dX7_wheelsetOf_26 rfl rfl hM.1.1 hM.1.2 (hM.2.1 2 rfl) ?_
            refine ww_iload (i := 4) dX7_wheelsetOf_29 rfl ?_
            refine ww_mald (k := 2) hM dX7_wheelsetOf_31 rfl rfl rfl (show _ < 60 by omega) ?_
            refine ww_iconst (v := 3) dX7_wheelsetOf_32 (by decide) ?_
            refine ww_icmp_ne_f (tgt := 40) dX7_wheelsetOf_33 (by decide) h2 ?_
            refine ww_iconst (v := 1) dX7_wheelsetOf_36 (by decide) ?_
            refine ww_goto (tgt := 41) dX7_wheelsetOf_37 (by decide) ?_
            refine ww_istore (i := 5) (lv2 := [(0, _), (1, _), (2, _), (3, _), (4, _), (5, _)]) dX7_wheelsetOf_41 (Nat.le_of_ble_eq_true rfl) rfl ?_
            refine ww_iload (i := 5) dX7_wheelsetOf_43 rfl ?_
            refine ww_if_eq_f (tgt := 62) dX7_wheelsetOf_45 (by decide) (by decide) ?_
            refine ww_iload_n (i := 2) dX7_wheelsetOf_48 rfl rfl ?_
            refine ww_if_ne_t (tgt := 57) dX7_wheelsetOf_49 (by decide) h3 ?_
            refine ww_iload (i := 4) dX7_wheelsetOf_57 rfl ?_
            refine ww_goto (tgt := 63) dX7_wheelsetOf_59 (by decide) ?_
            refine ww_istore_n (i := 3) (lv2 := [(0, _), (1, _), (2, _), (3, _), (4, _), (5, _)]) dX7_wheelsetOf_63 rfl (Nat.le_of_ble_eq_true rfl) rfl ?_
            refine ww_iinc (i := 4) (v := _ + 1) (lv2 := [(0, _), (1, _), (2, _), (3, _), (4, _), (5, _)]) dX7_wheelsetOf_64 rfl (by rfl) (Nat.le_of_ble_eq_true rfl) rfl ?_
            refine ww_goto (tgt := 5) dX7_wheelsetOf_67 (by decide) ?_
            -- at 5, locals [0, 1, 2, 3, 4, 5]
            exact fin _
        · rw [q_ws_f (fun z => h2 z.1.2)] at fin
          refine ww_iload (i := 4) dX7_wheelsetOf_5 rfl ?_
          refine ww_aload_n (i := 0) dX7_wheelsetOf_7 rfl rfl ?_
          refine ww_getI (f := 321) wf_X7_102 dX7_wheelsetOf_8 rfl rfl hM.1.1 hM.1.2 ?_
          refine ww_icmp_ge_f (tgt := 70) dX7_wheelsetOf_11 (by decide) hlt ?_
          refine ww_aload_n (i := 0) dX7_wheelsetOf_14 rfl rfl ?_
          refine ww_getR (f := 325) wf_X7_19 dX7_wheelsetOf_15 rfl rfl hM.1.1 hM.1.2 (hM.2.1 5 rfl) ?_
          refine ww_iload (i := 4) dX7_wheelsetOf_18 rfl ?_
          refine ww_mald (k := 5) hM dX7_wheelsetOf_20 rfl rfl rfl (show _ < 60 by omega) ?_
          refine ww_iload_n (i := 1) dX7_wheelsetOf_21 rfl rfl ?_
          refine ww_icmp_ne_f (tgt := 40) dX7_wheelsetOf_22 (by decide) h1 ?_
          refine ww_aload_n (i := 0) dX7_wheelsetOf_25 rfl rfl ?_
          refine ww_getR (f := 322) wf_X7_7 dX7_wheelsetOf_26 rfl rfl hM.1.1 hM.1.2 (hM.2.1 2 rfl) ?_
          refine ww_iload (i := 4) dX7_wheelsetOf_29 rfl ?_
          refine ww_mald (k := 2) hM dX7_wheelsetOf_31 rfl rfl rfl (show _ < 60 by omega) ?_
          refine ww_iconst (v := 3) dX7_wheelsetOf_32 (by decide) ?_
          refine ww_icmp_ne_t (tgt := 40) dX7_wheelsetOf_33 (by decide) h2 ?_
          refine ww_iconst (v := 0) dX7_wheelsetOf_40 (by decide) ?_
          refine ww_istore (i := 5) (lv2 := [(0, _), (1, _), (2, _), (3, _), (4, _), (5, _)]) dX7_wheelsetOf_41 (Nat.le_of_ble_eq_true rfl) rfl ?_
          refine ww_iload (i := 5) dX7_wheelsetOf_43 rfl ?_
          refine ww_if_eq_t (tgt := 62) dX7_wheelsetOf_45 (by decide) (by decide) ?_
          refine ww_iload_n (i := 3) dX7_wheelsetOf_62 rfl rfl ?_
          refine ww_istore_n (i := 3) (lv2 := [(0, _), (1, _), (2, _), (3, _), (4, _), (5, _)]) dX7_wheelsetOf_63 rfl (Nat.le_of_ble_eq_true rfl) rfl ?_
          refine ww_iinc (i := 4) (v := _ + 1) (lv2 := [(0, _), (1, _), (2, _), (3, _), (4, _), (5, _)]) dX7_wheelsetOf_64 rfl (by rfl) (Nat.le_of_ble_eq_true rfl) rfl ?_
          refine ww_goto (tgt := 5) dX7_wheelsetOf_67 (by decide) ?_
          -- at 5, locals [0, 1, 2, 3, 4, 5]
          exact fin _
      · rw [q_ws_f (fun z => h1 z.1.1)] at fin
        refine ww_iload (i := 4) dX7_wheelsetOf_5 rfl ?_
        refine ww_aload_n (i := 0) dX7_wheelsetOf_7 rfl rfl ?_
        refine ww_getI (f := 321) wf_X7_102 dX7_wheelsetOf_8 rfl rfl hM.1.1 hM.1.2 ?_
        refine ww_icmp_ge_f (tgt := 70) dX7_wheelsetOf_11 (by decide) hlt ?_
        refine ww_aload_n (i := 0) dX7_wheelsetOf_14 rfl rfl ?_
        refine ww_getR (f := 325) wf_X7_19 dX7_wheelsetOf_15 rfl rfl hM.1.1 hM.1.2 (hM.2.1 5 rfl) ?_
        refine ww_iload (i := 4) dX7_wheelsetOf_18 rfl ?_
        refine ww_mald (k := 5) hM dX7_wheelsetOf_20 rfl rfl rfl (show _ < 60 by omega) ?_
        refine ww_iload_n (i := 1) dX7_wheelsetOf_21 rfl rfl ?_
        refine ww_icmp_ne_t (tgt := 40) dX7_wheelsetOf_22 (by decide) h1 ?_
        refine ww_iconst (v := 0) dX7_wheelsetOf_40 (by decide) ?_
        refine ww_istore (i := 5) (lv2 := [(0, _), (1, _), (2, _), (3, _), (4, _), (5, _)]) dX7_wheelsetOf_41 (Nat.le_of_ble_eq_true rfl) rfl ?_
        refine ww_iload (i := 5) dX7_wheelsetOf_43 rfl ?_
        refine ww_if_eq_t (tgt := 62) dX7_wheelsetOf_45 (by decide) (by decide) ?_
        refine ww_iload_n (i := 3) dX7_wheelsetOf_62 rfl rfl ?_
        refine ww_istore_n (i := 3) (lv2 := [(0, _), (1, _), (2, _), (3, _), (4, _), (5, _)]) dX7_wheelsetOf_63 rfl (Nat.le_of_ble_eq_true rfl) rfl ?_
        refine ww_iinc (i := 4) (v := _ + 1) (lv2 := [(0, _), (1, _), (2, _), (3, _), (4, _), (5, _)]) dX7_wheelsetOf_64 rfl (by rfl) (Nat.le_of_ble_eq_true rfl) rfl ?_
        refine ww_goto (tgt := 5) dX7_wheelsetOf_67 (by decide) ?_
        -- at 5, locals [0, 1, 2, 3, 4, 5]
        exact fin _
  refine ww_iconst (v := (-1)) dX7_wheelsetOf_0 (by decide) ?_
  refine ww_istore_n (i := 3) (lv2 := [(0, _), (1, _), (2, _), (3, _)]) dX7_wheelsetOf_1 rfl (Nat.le_of_ble_eq_true rfl) rfl ?_
  refine ww_iconst (v := 0) dX7_wheelsetOf_2 (by decide) ?_
  refine ww_istore (i := 4) (lv2 := [(0, _), (1, _), (2, _), (3, _), (4, _)]) dX7_wheelsetOf_3 (Nat.le_of_ble_eq_true rfl) rfl ?_
  -- at 5, locals [0, 1, 2, 3, 4]
  exact loop n 0 (by omega)
set_option maxRecDepth 20000 in
theorem m_hasEmpty (hM : ww_mo x ar M.1 M.2.2.1) (hn : ww_I M 321 x = nI n) (h6 : n ≤ 60) {p : Nat} (hp : p < n) : ww_C g wy_X7_hasEmpty 2 0 0 [.ref x, .int (nI p)] M (ww_ret (some (.int (ww_b (q_empty (q_S M x ar) n p)))) M) ww_no := by
  refine ww_ent (by decide +kernel) (Nat.le_of_ble_eq_true rfl) ⟨rfl, rfl, trivial⟩ ?_
  have hc := q_cnt_le (fun q => q_S M x ar 5 q = nI p) n
  have hc' : q_in (q_S M x ar) n (nI p) ≤ n := hc
  by_cases h1 : q_S M x ar 2 p = 2
  · by_cases h2 : q_in (q_S M x ar) n (nI p) < 3
    · have hq : q_empty (q_S M x ar) n p := Or.inl ⟨h1, h2⟩
      rw [ww_b_t hq]
      refine ww_aload_n (i := 0) dX7_hasEmpty_0 rfl rfl ?_
      refine ww_getR (f := 322) wf_X7_7 dX7_hasEmpty_1 rfl rfl hM.1.1 hM.1.2 (hM.2.1 2 rfl) ?_
      refine ww_iload_n (i := 1) dX7_hasEmpty_4 rfl rfl ?_
      refine ww_mald (k := 2) hM dX7_hasEmpty_5 rfl rfl rfl (show _ < 60 by omega) ?_
      refine ww_iconst (v := 2) dX7_hasEmpty_6 (by decide) ?_
      refine ww_icmp_ne_f (tgt := 26) dX7_hasEmpty_7 (by decide) h1 ?_
      refine ww_aload_n (i := 0) dX7_hasEmpty_10 rfl rfl ?_
      refine ww_iload_n (i := 1) dX7_hasEmpty_11 rfl rfl ?_
      refine ww_iconst (v := (-1)) dX7_hasEmpty_12 (by decide) ?_
      refine ww_callV (κ := 8) (r := (RX7, TX7, 33)) wk_X7_128 dX7_hasEmpty_13 (m_inside hM hn h6 (nI p)) rfl rfl (show ww_is _ _ 8 from hM.1).1 (show ww_is _ _ 8 from hM.1).2 rfl rfl (by omega) (by omega) (by omega) (by first | exact Nat.le_of_ble_eq_true rfl | (simp [ww_rf_cat, Value.category])) rfl (fun E M9 h9 => h9.elim) (fun v9 M9 h9 => ?_)
      obtain ⟨rfl, rfl⟩ := h9
      refine ww_iconst (v := 3) dX7_hasEmpty_16 (by decide) ?_
      refine ww_icmp_ge_f (tgt := 24) dX7_hasEmpty_17 (by decide) (nI_ge h2 (by decide)) ?_
      refine ww_iconst (v := 1) dX7_hasEmpty_20 (by decide) ?_
      refine ww_goto (tgt := 25) dX7_hasEmpty_21 (by decide) ?_
      exact ww_ireturn dX7_hasEmpty_25 rfl (by first | rfl | exact ww_b_nar) ⟨rfl, rfl⟩
    · have h3 : ¬ q_empty (q_S M x ar) n p := fun z => z.elim (fun y => h2 y.2) (fun y => by rw [h1] at y; exact absurd y.1 (by decide))
      rw [ww_b_f h3]
      refine ww_aload_n (i := 0) dX7_hasEmpty_0 rfl rfl ?_
      refine ww_getR (f := 322) wf_X7_7 dX7_hasEmpty_1 rfl rfl hM.1.1 hM.1.2 (hM.2.1 2 rfl) ?_
      refine ww_iload_n (i := 1) dX7_hasEmpty_4 rfl rfl ?_
      refine ww_mald (k := 2) hM dX7_hasEmpty_5 rfl rfl rfl (show _ < 60 by omega) ?_
      refine ww_iconst (v := 2) dX7_hasEmpty_6 (by decide) ?_
      refine ww_icmp_ne_f (tgt := 26) dX7_hasEmpty_7 (by decide) h1 ?_
      refine ww_aload_n (i := 0) dX7_hasEmpty_10 rfl rfl ?_
      refine ww_iload_n (i := 1) dX7_hasEmpty_11 rfl rfl ?_
      refine ww_iconst (v := (-1)) dX7_hasEmpty_12 (by decide) ?_
      refine ww_callV (κ := 8) (r := (RX7, TX7, 33)) wk_X7_128 dX7_hasEmpty_13 (m_inside hM hn h6 (nI p)) rfl rfl (show ww_is _ _ 8 from hM.1).1 (show ww_is _ _ 8 from hM.1).2 rfl rfl (by omega) (by omega) (by omega) (by first | exact Nat.le_of_ble_eq_true rfl | (simp [ww_rf_cat, Value.category])) rfl (fun E M9 h9 => h9.elim) (fun v9 M9 h9 => ?_)
      obtain ⟨rfl, rfl⟩ := h9
      refine ww_iconst (v := 3) dX7_hasEmpty_16 (by decide) ?_
      refine ww_icmp_ge_t (tgt := 24) dX7_hasEmpty_17 (by decide) (nI_le (a := 3) (by omega) (by omega)) ?_
      refine ww_iconst (v := 0) dX7_hasEmpty_24 (by decide) ?_
      exact ww_ireturn dX7_hasEmpty_25 rfl (by first | rfl | exact ww_b_nar) ⟨rfl, rfl⟩
  · by_cases h4 : q_S M x ar 2 p < 2
    · have h4' : ¬ (2 : Int32) ≤ q_S M x ar 2 p := by rw [ww_le']; rw [ww_lt] at h4; omega
      by_cases h2 : q_in (q_S M x ar) n (nI p) < 2
      · have hq : q_empty (q_S M x ar) n p := Or.inr ⟨h4, h2⟩
        rw [ww_b_t hq]
        refine ww_aload_n (i := 0) dX7_hasEmpty_0 rfl rfl ?_
        refine ww_getR (f := 322) wf_X7_7 dX7_hasEmpty_1 rfl rfl hM.1.1 hM.1.2 (hM.2.1 2 rfl) ?_
        refine ww_iload_n (i := 1) dX7_hasEmpty_4 rfl rfl ?_
        refine ww_mald (k := 2) hM dX7_hasEmpty_5 rfl rfl rfl (show _ < 60 by omega) ?_
        refine ww_iconst (v := 2) dX7_hasEmpty_6 (by decide) ?_
        refine ww_icmp_ne_t (tgt := 26) dX7_hasEmpty_7 (by decide) h1 ?_
        refine ww_aload_n (i := 0) dX7_hasEmpty_26 rfl rfl ?_
        refine ww_getR (f := 322) wf_X7_7 dX7_hasEmpty_27 rfl rfl hM.1.1 hM.1.2 (hM.2.1 2 rfl) ?_
        refine ww_iload_n (i := 1) dX7_hasEmpty_30 rfl rfl ?_
        refine ww_mald (k := 2) hM dX7_hasEmpty_31 rfl rfl rfl (show _ < 60 by omega) ?_
        refine ww_iconst (v := 2) dX7_hasEmpty_32 (by decide) ?_
        refine ww_icmp_ge_f (tgt := 50) dX7_hasEmpty_33 (by decide) h4' ?_
        refine ww_aload_n (i := 0) dX7_hasEmpty_36 rfl rfl ?_
        refine ww_iload_n (i := 1) dX7_hasEmpty_37 rfl rfl ?_
        refine ww_iconst (v := (-1)) dX7_hasEmpty_38 (by decide) ?_
        refine ww_callV (κ := 8) (r := (RX7, TX7, 33)) wk_X7_128 dX7_hasEmpty_39 (m_inside hM hn h6 (nI p)) rfl rfl (show ww_is _ _ 8 from hM.1).1 (show ww_is _ _ 8 from hM.1).2 rfl rfl (by omega) (by omega) (by omega) (by first | exact Nat.le_of_ble_eq_true rfl | (simp [ww_rf_cat, Value.category])) rfl (fun E M9 h9 => h9.elim) (fun v9 M9 h9 => ?_)
        obtain ⟨rfl, rfl⟩ := h9
        refine ww_iconst (v := 2) dX7_hasEmpty_42 (by decide) ?_
        refine ww_icmp_ge_f (tgt := 50) dX7_hasEmpty_43 (by decide) (nI_ge h2 (by decide)) ?_
        refine ww_iconst (v := 1) dX7_hasEmpty_46 (by decide) ?_
        refine ww_goto (tgt := 51) dX7_hasEmpty_47 (by decide) ?_
        exact ww_ireturn dX7_hasEmpty_51 rfl (by first | rfl | exact ww_b_nar) ⟨rfl, rfl⟩
      · have h3 : ¬ q_empty (q_S M x ar) n p := fun z => z.elim (fun y => h1 y.1) (fun y => h2 y.2)
        rw [ww_b_f h3]
        refine ww_aload_n (i := 0) dX7_hasEmpty_0 rfl rfl ?_
        refine ww_getR (f := 322) wf_X7_7 dX7_hasEmpty_1 rfl rfl hM.1.1 hM.1.2 (hM.2.1 2 rfl) ?_
        refine ww_iload_n (i := 1) dX7_hasEmpty_4 rfl rfl ?_
        refine ww_mald (k := 2) hM dX7_hasEmpty_5 rfl rfl rfl (show _ < 60 by omega) ?_
        refine ww_iconst (v := 2) dX7_hasEmpty_6 (by decide) ?_
        refine ww_icmp_ne_t (tgt := 26) dX7_hasEmpty_7 (by decide) h1 ?_
        refine ww_aload_n (i := 0) dX7_hasEmpty_26 rfl rfl ?_
        refine ww_getR (f := 322) wf_X7_7 dX7_hasEmpty_27 rfl rfl hM.1.1 hM.1.2 (hM.2.1 2 rfl) ?_
        refine ww_iload_n (i := 1) dX7_hasEmpty_30 rfl rfl ?_
        refine ww_mald (k := 2) hM dX7_hasEmpty_31 rfl rfl rfl (show _ < 60 by omega) ?_
        refine ww_iconst (v := 2) dX7_hasEmpty_32 (by decide) ?_
        refine ww_icmp_ge_f (tgt := 50) dX7_hasEmpty_33 (by decide) h4' ?_
        refine ww_aload_n (i := 0) dX7_hasEmpty_36 rfl rfl ?_
        refine ww_iload_n (i := 1) dX7_hasEmpty_37 rfl rfl ?_
        refine ww_iconst (v := (-1)) dX7_hasEmpty_38 (by decide) ?_
        refine ww_callV (κ := 8) (r := (RX7, TX7, 33)) wk_X7_128 dX7_hasEmpty_39 (m_inside hM hn h6 (nI p)) rfl rfl (show ww_is _ _ 8 from hM.1).1 (show ww_is _ _ 8 from hM.1).2 rfl rfl (by omega) (by omega) (by omega) (by first | exact Nat.le_of_ble_eq_true rfl | (simp [ww_rf_cat, Value.category])) rfl (fun E M9 h9 => h9.elim) (fun v9 M9 h9 => ?_)
        obtain ⟨rfl, rfl⟩ := h9
        refine ww_iconst (v := 2) dX7_hasEmpty_42 (by decide) ?_
        refine ww_icmp_ge_t (tgt := 50) dX7_hasEmpty_43 (by decide) (nI_le (a := 2) (by omega) (by omega)) ?_
        refine ww_iconst (v := 0) dX7_hasEmpty_50 (by decide) ?_
        exact ww_ireturn dX7_hasEmpty_51 rfl (by first | rfl | exact ww_b_nar) ⟨rfl, rfl⟩
    · have h4' : (2 : Int32) ≤ q_S M x ar 2 p := by rw [ww_le']; rw [ww_lt] at h4; omega
      have h3 : ¬ q_empty (q_S M x ar) n p := fun z => z.elim (fun y => h1 y.1) (fun y => h4 y.1)
      rw [ww_b_f h3]
      refine ww_aload_n (i := 0) dX7_hasEmpty_0 rfl rfl ?_
      refine ww_getR (f := 322) wf_X7_7 dX7_hasEmpty_1 rfl rfl hM.1.1 hM.1.2 (hM.2.1 2 rfl) ?_
      refine ww_iload_n (i := 1) dX7_hasEmpty_4 rfl rfl ?_
      refine ww_mald (k := 2) hM dX7_hasEmpty_5 rfl rfl rfl (show _ < 60 by omega) ?_
      refine ww_iconst (v := 2) dX7_hasEmpty_6 (by decide) ?_
      refine ww_icmp_ne_t (tgt := 26) dX7_hasEmpty_7 (by decide) h1 ?_
      refine ww_aload_n (i := 0) dX7_hasEmpty_26 rfl rfl ?_
      refine ww_getR (f := 322) wf_X7_7 dX7_hasEmpty_27 rfl rfl hM.1.1 hM.1.2 (hM.2.1 2 rfl) ?_
      refine ww_iload_n (i := 1) dX7_hasEmpty_30 rfl rfl ?_
      refine ww_mald (k := 2) hM dX7_hasEmpty_31 rfl rfl rfl (show _ < 60 by omega) ?_
      refine ww_iconst (v := 2) dX7_hasEmpty_32 (by decide) ?_
      refine ww_icmp_ge_t (tgt := 50) dX7_hasEmpty_33 (by decide) h4' ?_
      refine ww_iconst (v := 0) dX7_hasEmpty_50 (by decide) ?_
      exact ww_ireturn dX7_hasEmpty_51 rfl (by first | rfl | exact ww_b_nar) ⟨rfl, rfl⟩
set_option maxRecDepth 20000 in
theorem m_isWorn (hM : ww_mo x ar M.1 M.2.2.1) (h6 : n ≤ 60) {p : Nat} (hp : p < n) : ww_C g wy_X7_isWorn 1 0 0 [.ref x, .int (nI p)] M (ww_ret (some (.int (ww_b (q_worn (q_S M x ar) p)))) M) ww_no := by
  refine ww_ent (by decide +kernel) (Nat.le_of_ble_eq_true rfl) ⟨rfl, rfl, trivial⟩ ?_
  by_cases h1 : q_S M x ar 2 p = 3
  · by_cases h2 : q_S M x ar 13 p < 8500
    · have hq : q_worn (q_S M x ar) p := ⟨h1, Or.inl h2⟩
      rw [ww_b_t hq]
      refine ww_aload_n (i := 0) dX7_isWorn_0 rfl rfl ?_
      refine ww_getR (f := 322) wf_X7_7 dX7_isWorn_1 rfl rfl hM.1.1 hM.1.2 (hM.2.1 2 rfl) ?_
      refine ww_iload_n (i := 1) dX7_isWorn_4 rfl rfl ?_
      refine ww_mald (k := 2) hM dX7_isWorn_5 rfl rfl rfl (show _ < 60 by omega) ?_
      refine ww_iconst (v := 3) dX7_isWorn_6 (by decide) ?_
      refine ww_icmp_ne_f (tgt := 38) dX7_isWorn_7 (by decide) h1 ?_
      refine ww_aload_n (i := 0) dX7_isWorn_10 rfl rfl ?_
      refine ww_getR (f := 333) wf_X7_44 dX7_isWorn_11 rfl rfl hM.1.1 hM.1.2 (hM.2.1 13 rfl) ?_
      refine ww_iload_n (i := 1) dX7_isWorn_14 rfl rfl ?_
      refine ww_mald (k := 13) hM dX7_isWorn_15 rfl rfl rfl (show _ < 60 by omega) ?_
      refine ww_sipush (v := 8500) dX7_isWorn_16 (by decide) ?_
      refine ww_icmp_lt_t (tgt := 34) dX7_isWorn_19 (by decide) h2 ?_
      refine ww_iconst (v := 1) dX7_isWorn_34 (by decide) ?_
      refine ww_goto (tgt := 39) dX7_isWorn_35 (by decide) ?_
      exact ww_ireturn dX7_isWorn_39 rfl (by first | rfl | exact ww_b_nar) ⟨rfl, rfl⟩
    · by_cases h3 : q_S M x ar 14 p < 250
      · have h3' : ¬ (250 : Int32) ≤ q_S M x ar 14 p := by rw [ww_le']; rw [ww_lt] at h3; omega
        have hq : q_worn (q_S M x ar) p := ⟨h1, Or.inr h3⟩
        rw [ww_b_t hq]
        refine ww_aload_n (i := 0) dX7_isWorn_0 rfl rfl ?_
        refine ww_getR (f := 322) wf_X7_7 dX7_isWorn_1 rfl rfl hM.1.1 hM.1.2 (hM.2.1 2 rfl) ?_
        refine ww_iload_n (i := 1) dX7_isWorn_4 rfl rfl ?_
        refine ww_mald (k := 2) hM dX7_isWorn_5 rfl rfl rfl (show _ < 60 by omega) ?_
        refine ww_iconst (v := 3) dX7_isWorn_6 (by decide) ?_
        refine ww_icmp_ne_f (tgt := 38) dX7_isWorn_7 (by decide) h1 ?_
        refine ww_aload_n (i := 0) dX7_isWorn_10 rfl rfl ?_
        refine ww_getR (f := 333) wf_X7_44 dX7_isWorn_11 rfl rfl hM.1.1 hM.1.2 (hM.2.1 13 rfl) ?_
        refine ww_iload_n (i := 1) dX7_isWorn_14 rfl rfl ?_
        refine ww_mald (k := 13) hM dX7_isWorn_15 rfl rfl rfl (show _ < 60 by omega) ?_
        refine ww_sipush (v := 8500) dX7_isWorn_16 (by decide) ?_
        refine ww_icmp_lt_f (tgt := 34) dX7_isWorn_19 (by decide) h2 ?_
        refine ww_aload_n (i := 0) dX7_isWorn_22 rfl rfl ?_
        refine ww_getR (f := 334) wf_X7_47 dX7_isWorn_23 rfl rfl hM.1.1 hM.1.2 (hM.2.1 14 rfl) ?_
        refine ww_iload_n (i := 1) dX7_isWorn_26 rfl rfl ?_
        refine ww_mald (k := 14) hM dX7_isWorn_27 rfl rfl rfl (show _ < 60 by omega) ?_
        refine ww_sipush (v := 250) dX7_isWorn_28 (by decide) ?_
        refine ww_icmp_ge_f (tgt := 38) dX7_isWorn_31 (by decide) h3' ?_
        refine ww_iconst (v := 1) dX7_isWorn_34 (by decide) ?_
        refine ww_goto (tgt := 39) dX7_isWorn_35 (by decide) ?_
        exact ww_ireturn dX7_isWorn_39 rfl (by first | rfl | exact ww_b_nar) ⟨rfl, rfl⟩
      · have h3' : (250 : Int32) ≤ q_S M x ar 14 p := by rw [ww_le']; rw [ww_lt] at h3; omega
        have hq : ¬ q_worn (q_S M x ar) p := fun z => z.2.elim h2 h3
        rw [ww_b_f hq]
        refine ww_aload_n (i := 0) dX7_isWorn_0 rfl rfl ?_
        refine ww_getR (f := 322) wf_X7_7 dX7_isWorn_1 rfl rfl hM.1.1 hM.1.2 (hM.2.1 2 rfl) ?_
        refine ww_iload_n (i := 1) dX7_isWorn_4 rfl rfl ?_
        refine ww_mald (k := 2) hM dX7_isWorn_5 rfl rfl rfl (show _ < 60 by omega) ?_
        refine ww_iconst (v := 3) dX7_isWorn_6 (by decide) ?_
        refine ww_icmp_ne_f (tgt := 38) dX7_isWorn_7 (by decide) h1 ?_
        refine ww_aload_n (i := 0) dX7_isWorn_10 rfl rfl ?_
        refine ww_getR (f := 333) wf_X7_44 dX7_isWorn_11 rfl rfl hM.1.1 hM.1.2 (hM.2.1 13 rfl) ?_
        refine ww_iload_n (i := 1) dX7_isWorn_14 rfl rfl ?_
        refine ww_mald (k := 13) hM dX7_isWorn_15 rfl rfl rfl (show _ < 60 by omega) ?_
        refine ww_sipush (v := 8500) dX7_isWorn_16 (by decide) ?_
        refine ww_icmp_lt_f (tgt := 34) dX7_isWorn_19 (by decide) h2 ?_
        refine ww_aload_n (i := 0) dX7_isWorn_22 rfl rfl ?_
        refine ww_getR (f := 334) wf_X7_47 dX7_isWorn_23 rfl rfl hM.1.1 hM.1.2 (hM.2.1 14 rfl) ?_
        refine ww_iload_n (i := 1) dX7_isWorn_26 rfl rfl ?_
        refine ww_mald (k := 14) hM dX7_isWorn_27 rfl rfl rfl (show _ < 60 by omega) ?_
        refine ww_sipush (v := 250) dX7_isWorn_28 (by decide) ?_
        refine ww_icmp_ge_t (tgt := 38) dX7_isWorn_31 (by decide) h3' ?_
        refine ww_iconst (v := 0) dX7_isWorn_38 (by decide) ?_
        exact ww_ireturn dX7_isWorn_39 rfl (by first | rfl | exact ww_b_nar) ⟨rfl, rfl⟩
  · have hq : ¬ q_worn (q_S M x ar) p := fun z => h1 z.1
    rw [ww_b_f hq]
    refine ww_aload_n (i := 0) dX7_isWorn_0 rfl rfl ?_
    refine ww_getR (f := 322) wf_X7_7 dX7_isWorn_1 rfl rfl hM.1.1 hM.1.2 (hM.2.1 2 rfl) ?_
    refine ww_iload_n (i := 1) dX7_isWorn_4 rfl rfl ?_
    refine ww_mald (k := 2) hM dX7_isWorn_5 rfl rfl rfl (show _ < 60 by omega) ?_
    refine ww_iconst (v := 3) dX7_isWorn_6 (by decide) ?_
    refine ww_icmp_ne_t (tgt := 38) dX7_isWorn_7 (by decide) h1 ?_
    refine ww_iconst (v := 0) dX7_isWorn_38 (by decide) ?_
    exact ww_ireturn dX7_isWorn_39 rfl (by first | rfl | exact ww_b_nar) ⟨rfl, rfl⟩
end WWN
