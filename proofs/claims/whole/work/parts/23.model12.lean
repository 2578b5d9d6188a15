/-! ===== recall, turn ===== -/
def q_hit (S : Nat → Nat → Int32) (v : Int32) (i : Nat) : Prop := S 3 i = v ∧ ¬ S 5 i = -2 ∧ S 10 i = 0
noncomputable def q_rc (S : Nat → Nat → Int32) (v : Int32) (m : Nat) : Nat → Nat → Int32 := fun k i => q_if (k = 10 ∧ i < m ∧ q_hit S v i) 1 (q_if (k = 11 ∧ ∃ q, q < m ∧ q_hit S v q ∧ q_hd (S 5) 5 q = i) 0 (S k i))
theorem q_rc_k {S : Nat → Nat → Int32} {v : Int32} {m k : Nat} (h : k ≠ 10 ∧ k ≠ 11) : q_rc S v m k = S k := by
  funext i
  unfold q_rc
  rw [q_if_f (fun z => h.1 z.1), q_if_f (fun z => h.2 z.1)]
theorem q_rc_0 {S : Nat → Nat → Int32} {v : Int32} : q_rc S v 0 = S := by
  funext k i
  unfold q_rc
  rw [q_if_f (fun z => by omega), q_if_f (fun z => by obtain ⟨_, q, hq, _⟩ := z; omega)]
theorem q_rc_10 {S : Nat → Nat → Int32} {v : Int32} {m : Nat} : q_rc S v m 10 m = S 10 m := by
  unfold q_rc
  rw [q_if_f (fun z => by omega), q_if_f (fun z => absurd z.1 (by decide))]
theorem q_rc_f {S : Nat → Nat → Int32} {v : Int32} {m : Nat} (h : ¬ q_hit S v m) : q_rc S v (m + 1) = q_rc S v m := by
  funext k i
  have e1 : (k = 10 ∧ i < m + 1 ∧ q_hit S v i) ↔ (k = 10 ∧ i < m ∧ q_hit S v i) := ⟨fun z => ⟨z.1, by
    have : i ≠ m := fun y => h (y ▸ z.2.2)
    omega, z.2.2⟩, fun z => ⟨z.1, by omega, z.2.2⟩⟩
  have e2 : (k = 11 ∧ ∃ q, q < m + 1 ∧ q_hit S v q ∧ q_hd (S 5) 5 q = i) ↔ (k = 11 ∧ ∃ q, q < m ∧ q_hit S v q ∧ q_hd (S 5) 5 q = i) := by
    constructor
    · rintro ⟨z, q, h1, h2, h3⟩
      have : q ≠ m := fun y => h (y ▸ h2)
      exact ⟨z, q, by omega, h2, h3⟩
    · rintro ⟨z, q, h1, h2, h3⟩
      exact ⟨z, q, by omega, h2, h3⟩
  unfold q_rc
  rw [q_if_cg e1, q_if_cg e2]
theorem q_rc_t {S : Nat → Nat → Int32} {v : Int32} {m : Nat} (h : q_hit S v m) : ww_u2 (ww_u2 (q_rc S v m) 10 m 1) 11 (q_hd (S 5) 5 m) 0 = q_rc S v (m + 1) := by
  funext k i
  by_cases c1 : k = 11 ∧ i = q_hd (S 5) 5 m
  · obtain ⟨rfl, rfl⟩ := c1
    rw [ww_u2s]
    unfold q_rc
    rw [q_if_f (fun z => absurd z.1 (by decide)), q_if_t ⟨rfl, m, by omega, h, rfl⟩]
  · rw [ww_u2n c1]
    by_cases c2 : k = 10 ∧ i = m
    · obtain ⟨rfl, rfl⟩ := c2
      rw [ww_u2s]
      exact (q_if_t ⟨rfl, by omega, h⟩).symm
    · rw [ww_u2n c2]
      have e1 : (k = 10 ∧ i < m + 1 ∧ q_hit S v i) ↔ (k = 10 ∧ i < m ∧ q_hit S v i) := ⟨fun z => ⟨z.1, by
        have : i ≠ m := fun y => c2 ⟨z.1, y⟩
        omega, z.2.2⟩, fun z => ⟨z.1, by omega, z.2.2⟩⟩
      have e2 : (k = 11 ∧ ∃ q, q < m + 1 ∧ q_hit S v q ∧ q_hd (S 5) 5 q = i) ↔ (k = 11 ∧ ∃ q, q < m ∧ q_hit S v q ∧ q_hd (S 5) 5 q = i) := by
        constructor
        · rintro ⟨z, q, h1, h2, h3⟩
          have : q ≠ m := fun y => c1 ⟨z, by rw [← h3, y]⟩
          exact ⟨z, q, by omega, h2, h3⟩
        · rintro ⟨z, q, h1, h2, h3⟩
          exact ⟨z, q, by omega, h2, h3⟩
      unfold q_rc
      rw [q_if_cg e1, q_if_cg e2]
theorem q_ws_us {S : Nat → Nat → Int32} {c h : Int32} {hi : Prop} : ∀ {n : Nat}, q_ws (q_us S 0 c) h hi n = q_ws S h hi n
  | 0 => rfl
  | n + 1 => by
    show q_if ((S 5 n = h ∧ S 2 n = 3) ∧ (hi ∨ q_ws (q_us S 0 c) h hi n = -1)) (nI n) (q_ws (q_us S 0 c) h hi n) = q_if ((S 5 n = h ∧ S 2 n = 3) ∧ (hi ∨ q_ws S h hi n = -1)) (nI n) (q_ws S h hi n)
    rw [q_ws_us]
theorem q_G_rc {S : Nat → Nat → Int32} {n m : Nat} {v : Int32} (h : q_G S n) : q_G (q_rc S v m) n := by
  refine q_G_r h ?_ (q_rc_k (by decide)) (q_rc_k (by decide)) ?_ ?_ ?_ ?_ ?_
  · rw [q_rc_k (by decide)]
  · intro i; rw [q_rc_k (by decide)]; exact h.2.2.2.1 i
  · intro i
    unfold q_rc
    by_cases c : (10 : Nat) = 10 ∧ i < m ∧ q_hit S v i
    · rw [q_if_t c]; exact Or.inr rfl
    · rw [q_if_f c, q_if_f (fun z => absurd z.1 (by decide))]; exact h.2.2.2.2.1 i
  · intro i
    unfold q_rc
    rw [q_if_f (fun z => absurd z.1 (by decide))]
    by_cases c : (11 : Nat) = 11 ∧ ∃ q, q < m ∧ q_hit S v q ∧ q_hd (S 5) 5 q = i
    · rw [q_if_t c]; exact Or.inl rfl
    · rw [q_if_f c]; exact h.2.2.2.2.2.1 i
  · intro i; rw [q_rc_k (by decide)]; exact h.2.2.2.2.2.2.1 i
  · intro i; rw [q_rc_k (by decide)]; exact h.2.2.2.2.2.2.2 i
section WWY
variable {g : ww_G} {M M1 : ww_M} {x : Nat} {ar : Nat → Nat} {n w t : Nat} {S S1 : Nat → Nat → Int32} {v : Int32} {Q : Option Value → ww_M → Prop}
set_option maxRecDepth 20000 in
set_option maxHeartbeats 4000000 in
theorem m_recall_1 (hM : ww_mo x ar M.1 M.2.2.1) (hG : q_G (q_S M x ar) n) {v : Int32} (hc : ¬ q_rg 0 9 v) : ww_C g wy_X7_recall 3 0 0 [.ref x, .int v] M (ww_ru x ar M (some (.int 0)) (q_us (q_S M x ar) 0 1)) ww_no := by
  refine ww_ent (by decide +kernel) (Nat.le_of_ble_eq_true rfl) ⟨rfl, rfl, trivial⟩ ?_
  have hu : ww_up x ar M (q_S M x ar) M := ww_up_rf
  have h6 := hG.2.1
  by_cases c1 : nI n ≤ 0
  · refine ww_aload_n (i := 0) dX7_recall_0 rfl rfl ?_
    refine ww_iload_n (i := 1) dX7_recall_1 rfl rfl ?_
    refine ww_iconst (v := 0) dX7_recall_2 (by decide) ?_
    refine ww_bipush (v := 9) dX7_recall_3 (by decide) ?_
    refine ww_callS wk_X7_105 rfl dX7_recall_5 (m_in_f hc) rfl rfl (by omega) (by omega) (by omega) (by first | exact Nat.le_of_ble_eq_true rfl | (simp [ww_rf_cat, Value.category])) rfl (fun E M9 h9 => h9.elim) (fun v9 M9 h9 => ?_)
    obtain ⟨rfl, rfl⟩ := h9
    refine ww_if_eq_t (tgt := 15) dX7_recall_8 (by decide) (by decide) ?_
    refine ww_iconst (v := 1) dX7_recall_15 (by decide) ?_
    refine ww_pputI (k := 0) hM hu dX7_recall_16 wf_X7_98 wt_8_0 rfl rfl rfl rfl (fun M1 hu => ?_)
    refine ww_iconst (v := 0) dX7_recall_19 (by decide) ?_
    refine ww_istore_n (i := 2) (lv2 := [(0, _), (1, _), (2, _)]) dX7_recall_20 rfl (Nat.le_of_ble_eq_true rfl) rfl ?_
    refine ww_iconst (v := 0) dX7_recall_21 (by decide) ?_
    refine ww_istore_n (i := 3) (lv2 := [(0, _), (1, _), (2, _), (3, _)]) dX7_recall_22 rfl (Nat.le_of_ble_eq_true rfl) rfl ?_
    refine ww_iload_n (i := 3) dX7_recall_23 rfl rfl ?_
    -- at 24, locals [0, 1, 2, 3]
    refine ww_aload_n (i := 0) dX7_recall_24 rfl rfl ?_
    refine ww_pgetI (k := 1) hM hu dX7_recall_25 wf_X7_102 rfl rfl ((q_us_n (by decide)).trans hG.1) ?_
    refine ww_icmp_ge_t (tgt := 89) dX7_recall_28 (by decide) c1 ?_
    refine ww_iload_n (i := 2) dX7_recall_89 rfl rfl ?_
    exact ww_ireturn dX7_recall_90 rfl (by first | rfl | exact ww_b_nar) ⟨rfl, hu⟩
  · refine ww_aload_n (i := 0) dX7_recall_0 rfl rfl ?_
    refine ww_iload_n (i := 1) dX7_recall_1 rfl rfl ?_
    refine ww_iconst (v := 0) dX7_recall_2 (by decide) ?_
    refine ww_bipush (v := 9) dX7_recall_3 (by decide) ?_
    refine ww_callS wk_X7_105 rfl dX7_recall_5 (m_in_f hc) rfl rfl (by omega) (by omega) (by omega) (by first | exact Nat.le_of_ble_eq_true rfl | (simp [ww_rf_cat, Value.category])) rfl (fun E M9 h9 => h9.elim) (fun v9 M9 h9 => ?_)
    obtain ⟨rfl, rfl⟩ := h9
    refine ww_if_eq_t (tgt := 15) dX7_recall_8 (by decide) (by decide) ?_
    refine ww_iconst (v := 1) dX7_recall_15 (by decide) ?_
    refine ww_pputI (k := 0) hM hu dX7_recall_16 wf_X7_98 wt_8_0 rfl rfl rfl rfl (fun M1 hu => ?_)
    refine ww_iconst (v := 0) dX7_recall_19 (by decide) ?_
    refine ww_istore_n (i := 2) (lv2 := [(0, _), (1, _), (2, _)]) dX7_recall_20 rfl (Nat.le_of_ble_eq_true rfl) rfl ?_
    refine ww_iconst (v := 0) dX7_recall_21 (by decide) ?_
    refine ww_istore_n (i := 3) (lv2 := [(0, _), (1, _), (2, _), (3, _)]) dX7_recall_22 rfl (Nat.le_of_ble_eq_true rfl) rfl ?_
    refine ww_iload_n (i := 3) dX7_recall_23 rfl rfl ?_
    -- at 24, locals [0, 1, 2, 3]
    refine ww_aload_n (i := 0) dX7_recall_24 rfl rfl ?_
    refine ww_pgetI (k := 1) hM hu dX7_recall_25 wf_X7_102 rfl rfl ((q_us_n (by decide)).trans hG.1) ?_
    refine ww_icmp_ge_f (tgt := 89) dX7_recall_28 (by decide) c1 ?_
    refine ww_aload_n (i := 0) dX7_recall_31 rfl rfl ?_
    refine ww_pgetI (k := 0) hM hu dX7_recall_32 wf_X7_98 rfl rfl (q_us_s) ?_
    refine ww_if_ne_t (tgt := 89) dX7_recall_35 (by decide) (by decide) ?_
    refine ww_iload_n (i := 2) dX7_recall_89 rfl rfl ?_
    exact ww_ireturn dX7_recall_90 rfl (by first | rfl | exact ww_b_nar) ⟨rfl, hu⟩
set_option maxRecDepth 20000 in
set_option maxHeartbeats 4000000 in
theorem m_recall_l (hM : ww_mo x ar M.1 M.2.2.1) (hG : q_G S n) (h0 : S 0 0 = 0) : ∀ (m i : Nat) (M1 : ww_M), i + m = n → ww_up x ar M (q_rc S v i) M1 → ww_A g wy_X7_recall 3 0 0 M1 23 [(0, .ref x), (1, .int v), (2, .int (nI (q_cnt (q_hit S v) i))), (3, .int (nI i))] [] (ww_ru x ar M (some (.int (nI (q_cnt (q_hit S v) n)))) (q_rc S v n)) ww_no
  | 0, i, M1, hm, hu => by
    have h6 := hG.2.1
    have e : i = n := by omega
    subst e
    refine ww_iload_n (i := 3) dX7_recall_23 rfl rfl ?_
    refine ww_aload_n (i := 0) dX7_recall_24 rfl rfl ?_
    refine ww_pgetI (k := 1) hM hu dX7_recall_25 wf_X7_102 rfl rfl ((congrFun (q_rc_k (by decide)) 0).trans hG.1) ?_
    refine ww_icmp_ge_t (tgt := 89) dX7_recall_28 (by decide) (nI_le (Nat.le_refl _) (by omega)) ?_
    refine ww_iload_n (i := 2) dX7_recall_89 rfl rfl ?_
    exact ww_ireturn dX7_recall_90 rfl (by first | rfl | exact ww_b_nar) ⟨rfl, hu⟩
  | m + 1, i, M1, hm, hu => by
    have h6 := hG.2.1
    have e3 : q_rc S v i 3 i = S 3 i := congrFun (q_rc_k (by decide)) i
    have e5 : q_rc S v i 5 i = S 5 i := congrFun (q_rc_k (by decide)) i
    have e10 : q_rc S v i 10 i = S 10 i := q_rc_10
    have en : q_rc S v i 1 0 = nI n := (congrFun (q_rc_k (by decide)) 0).trans hG.1
    have e0 : q_rc S v i 0 0 = 0 := (congrFun (q_rc_k (by decide)) 0).trans h0
    by_cases c1 : S 3 i = v
    · by_cases c2 : S 5 i = -2
      · have c : ¬ q_hit S v i := fun z => z.2.1 c2
        refine ww_iload_n (i := 3) dX7_recall_23 rfl rfl ?_
        refine ww_aload_n (i := 0) dX7_recall_24 rfl rfl ?_
        refine ww_pgetI (k := 1) hM hu dX7_recall_25 wf_X7_102 rfl rfl en ?_
        refine ww_icmp_ge_f (tgt := 89) dX7_recall_28 (by decide) (nI_ge (by omega) (by omega)) ?_
        refine ww_aload_n (i := 0) dX7_recall_31 rfl rfl ?_
        refine ww_pgetI (k := 0) hM hu dX7_recall_32 wf_X7_98 rfl rfl e0 ?_
        refine ww_if_ne_f (tgt := 89) dX7_recall_35 (by decide) rfl ?_
        refine ww_aload_n (i := 0) dX7_recall_38 rfl rfl ?_
        refine ww_getR (f := 323) wf_X7_13 dX7_recall_39 rfl rfl (ww_up_mo hM hu).1.1 (ww_up_mo hM hu).1.2 ((ww_up_mo hM hu).2.1 3 rfl) ?_
        refine ww_iload_n (i := 3) dX7_recall_42 rfl rfl ?_
        refine ww_pald (k := 3) hM hu dX7_recall_43 rfl rfl rfl (show _ < 60 by omega) e3 ?_
        refine ww_iload_n (i := 1) dX7_recall_44 rfl rfl ?_
        refine ww_icmp_ne_f (tgt := 83) dX7_recall_45 (by decide) c1 ?_
        refine ww_aload_n (i := 0) dX7_recall_48 rfl rfl ?_
        refine ww_getR (f := 325) wf_X7_19 dX7_recall_49 rfl rfl (ww_up_mo hM hu).1.1 (ww_up_mo hM hu).1.2 ((ww_up_mo hM hu).2.1 5 rfl) ?_
        refine ww_iload_n (i := 3) dX7_recall_52 rfl rfl ?_
        refine ww_pald (k := 5) hM hu dX7_recall_53 rfl rfl rfl (show _ < 60 by omega) e5 ?_
        refine ww_bipush (v := (-2)) dX7_recall_54 (by decide) ?_
        refine ww_icmp_eq_t (tgt := 83) dX7_recall_56 (by decide) c2 ?_
        refine ww_iinc (i := 3) (v := _ + 1) (lv2 := [(0, _), (1, _), (2, _), (3, _)]) dX7_recall_83 rfl (by rfl) (Nat.le_of_ble_eq_true rfl) rfl ?_
        refine ww_goto (tgt := 23) dX7_recall_86 (by decide) ?_
        -- at 23, locals [0, 1, 2, 3]
        rw [nI_1, ← q_cnt_n c]
        rw [← q_rc_f c] at hu
        exact m_recall_l hM hG h0 m (i + 1) _ (by omega) hu
      · by_cases c3 : S 10 i = 0
        · have c : q_hit S v i := ⟨c1, c2, c3⟩
          refine ww_iload_n (i := 3) dX7_recall_23 rfl rfl ?_
          refine ww_aload_n (i := 0) dX7_recall_24 rfl rfl ?_
          refine ww_pgetI (k := 1) hM hu dX7_recall_25 wf_X7_102 rfl rfl en ?_
          refine ww_icmp_ge_f (tgt := 89) dX7_recall_28 (by decide) (nI_ge (by omega) (by omega)) ?_
          refine ww_aload_n (i := 0) dX7_recall_31 rfl rfl ?_
          refine ww_pgetI (k := 0) hM hu dX7_recall_32 wf_X7_98 rfl rfl e0 ?_
          refine ww_if_ne_f (tgt := 89) dX7_recall_35 (by decide) rfl ?_
          refine ww_aload_n (i := 0) dX7_recall_38 rfl rfl ?_
          refine ww_getR (f := 323) wf_X7_13 dX7_recall_39 rfl rfl (ww_up_mo hM hu).1.1 (ww_up_mo hM hu).1.2 ((ww_up_mo hM hu).2.1 3 rfl) ?_
          refine ww_iload_n (i := 3) dX7_recall_42 rfl rfl ?_
          refine ww_pald (k := 3) hM hu dX7_recall_43 rfl rfl rfl (show _ < 60 by omega) e3 ?_
          refine ww_iload_n (i := 1) dX7_recall_44 rfl rfl ?_
          refine ww_icmp_ne_f (tgt := 83) dX7_recall_45 (by decide) c1 ?_
          refine ww_aload_n (i := 0) dX7_recall_48 rfl rfl ?_
          refine ww_getR (f := 325) wf_X7_19 dX7_recall_49 rfl rfl (ww_up_mo hM hu).1.1 (ww_up_mo hM hu).1.2 ((ww_up_mo hM hu).2.1 5 rfl) ?_
          refine ww_iload_n (i := 3) dX7_recall_52 rfl rfl ?_
          refine ww_pald (k := 5) hM hu dX7_recall_53 rfl rfl rfl (show _ < 60 by omega) e5 ?_
          refine ww_bipush (v := (-2)) dX7_recall_54 (by decide) ?_
          refine ww_icmp_eq_f (tgt := 83) dX7_recall_56 (by decide) c2 ?_
          refine ww_aload_n (i := 0) dX7_recall_59 rfl rfl ?_
          refine ww_getR (f := 330) wf_X7_35 dX7_recall_60 rfl rfl (ww_up_mo hM hu).1.1 (ww_up_mo hM hu).1.2 ((ww_up_mo hM hu).2.1 10 rfl) ?_
          refine ww_iload_n (i := 3) dX7_recall_63 rfl rfl ?_
          refine ww_pzld (k := 10) hM hu dX7_recall_64 rfl rfl rfl (show _ < 60 by omega) e10 ?_
          refine ww_if_ne_f (tgt := 83) dX7_recall_65 (by decide) c3 ?_
          refine ww_aload_n (i := 0) dX7_recall_68 rfl rfl ?_
          refine ww_getR (f := 330) wf_X7_35 dX7_recall_69 rfl rfl (ww_up_mo hM hu).1.1 (ww_up_mo hM hu).1.2 ((ww_up_mo hM hu).2.1 10 rfl) ?_
          refine ww_iload_n (i := 3) dX7_recall_72 rfl rfl ?_
          refine ww_iconst (v := 1) dX7_recall_73 (by decide) ?_
          refine ww_pzst (k := 10) hM hu dX7_recall_74 rfl rfl rfl (show _ < 60 by omega) (by first | rfl | exact ww_b_vn) (fun M1 hu => ?_)
          refine ww_aload_n (i := 0) dX7_recall_75 rfl rfl ?_
          refine ww_iload_n (i := 3) dX7_recall_76 rfl rfl ?_
          refine ww_callV (κ := 8) (r := (RX7, TX7, 33)) wk_X7_135 dX7_recall_77 (u_ends hM hu (q_G_b (q_G_rc hG) (Or.inr rfl) (by decide)) (by omega)) rfl rfl (show ww_is _ _ 8 from (ww_up_mo hM hu).1).1 (show ww_is _ _ 8 from (ww_up_mo hM hu).1).2 rfl rfl (by omega) (by omega) (by omega) (by first | exact Nat.le_of_ble_eq_true rfl | (simp [ww_rf_cat, Value.category])) rfl (fun E M9 h9 => h9.elim) (fun v9 M9 h9 => ?_)
          obtain ⟨rfl, hu⟩ := h9
          refine ww_iinc (i := 2) (v := _ + 1) (lv2 := [(0, _), (1, _), (2, _), (3, _)]) dX7_recall_80 rfl (by rfl) (Nat.le_of_ble_eq_true rfl) rfl ?_
          refine ww_iinc (i := 3) (v := _ + 1) (lv2 := [(0, _), (1, _), (2, _), (3, _)]) dX7_recall_83 rfl (by rfl) (Nat.le_of_ble_eq_true rfl) rfl ?_
          refine ww_goto (tgt := 23) dX7_recall_86 (by decide) ?_
          -- at 23, locals [0, 1, 2, 3]
          rw [nI_1, nI_1, ← q_cnt_s c]
          have e5' : ww_u2 (q_rc S v i) 10 i 1 5 = S 5 := by
            funext j
            exact (ww_u2n (fun z => absurd z.1 (by decide))).trans (congrFun (q_rc_k (by decide)) j)
          rw [e5', q_rc_t c] at hu
          exact m_recall_l hM hG h0 m (i + 1) _ (by omega) hu
        · have c : ¬ q_hit S v i := fun z => c3 z.2.2
          refine ww_iload_n (i := 3) dX7_recall_23 rfl rfl ?_
          refine ww_aload_n (i := 0) dX7_recall_24 rfl rfl ?_
          refine ww_pgetI (k := 1) hM hu dX7_recall_25 wf_X7_102 rfl rfl en ?_
          refine ww_icmp_ge_f (tgt := 89) dX7_recall_28 (by decide) (nI_ge (by omega) (by omega)) ?_
          refine ww_aload_n (i := 0) dX7_recall_31 rfl rfl ?_
          refine ww_pgetI (k := 0) hM hu dX7_recall_32 wf_X7_98 rfl rfl e0 ?_
          refine ww_if_ne_f (tgt := 89) dX7_recall_35 (by decide) rfl ?_
          refine ww_aload_n (i := 0) dX7_recall_38 rfl rfl ?_
          refine ww_getR (f := 323) wf_X7_13 dX7_recall_39 rfl rfl (ww_up_mo hM hu).1.1 (ww_up_mo hM hu).1.2 ((ww_up_mo hM hu).2.1 3 rfl) ?_
          refine ww_iload_n (i := 3) dX7_recall_42 rfl rfl ?_
          refine ww_pald (k := 3) hM hu dX7_recall_43 rfl rfl rfl (show _ < 60 by omega) e3 ?_
          refine ww_iload_n (i := 1) dX7_recall_44 rfl rfl ?_
          refine ww_icmp_ne_f (tgt := 83) dX7_recall_45 (by decide) c1 ?_
          refine ww_aload_n (i := 0) dX7_recall_48 rfl rfl ?_
          refine ww_getR (f := 325) wf_X7_19 dX7_recall_49 rfl rfl (ww_up_mo hM hu).1.1 (ww_up_mo hM hu).1.2 ((ww_up_mo hM hu).2.1 5 rfl) ?_
          refine ww_iload_n (i := 3) dX7_recall_52 rfl rfl ?_
          refine ww_pald (k := 5) hM hu dX7_recall_53 rfl rfl rfl (show _ < 60 by omega) e5 ?_
          refine ww_bipush (v := (-2)) dX7_recall_54 (by decide) ?_
          refine ww_icmp_eq_f (tgt := 83) dX7_recall_56 (by decide) c2 ?_
          refine ww_aload_n (i := 0) dX7_recall_59 rfl rfl ?_
          refine ww_getR (f := 330) wf_X7_35 dX7_recall_60 rfl rfl (ww_up_mo hM hu).1.1 (ww_up_mo hM hu).1.2 ((ww_up_mo hM hu).2.1 10 rfl) ?_
          refine ww_iload_n (i := 3) dX7_recall_63 rfl rfl ?_
          refine ww_pzld (k := 10) hM hu dX7_recall_64 rfl rfl rfl (show _ < 60 by omega) e10 ?_
          refine ww_if_ne_t (tgt := 83) dX7_recall_65 (by decide) c3 ?_
          refine ww_iinc (i := 3) (v := _ + 1) (lv2 := [(0, _), (1, _), (2, _), (3, _)]) dX7_recall_83 rfl (by rfl) (Nat.le_of_ble_eq_true rfl) rfl ?_
          refine ww_goto (tgt := 23) dX7_recall_86 (by decide) ?_
          -- at 23, locals [0, 1, 2, 3]
          rw [nI_1, ← q_cnt_n c]
          rw [← q_rc_f c] at hu
          exact m_recall_l hM hG h0 m (i + 1) _ (by omega) hu
    · have c : ¬ q_hit S v i := fun z => c1 z.1
      refine ww_iload_n (i := 3) dX7_recall_23 rfl rfl ?_
      refine ww_aload_n (i := 0) dX7_recall_24 rfl rfl ?_
      refine ww_pgetI (k := 1) hM hu dX7_recall_25 wf_X7_102 rfl rfl en ?_
      refine ww_icmp_ge_f (tgt := 89) dX7_recall_28 (by decide) (nI_ge (by omega) (by omega)) ?_
      refine ww_aload_n (i := 0) dX7_recall_31 rfl rfl ?_
      refine ww_pgetI (k := 0) hM hu dX7_recall_32 wf_X7_98 rfl rfl e0 ?_
      refine ww_if_ne_f (tgt := 89) dX7_recall_35 (by decide) rfl ?_
      refine ww_aload_n (i := 0) dX7_recall_38 rfl rfl ?_
      refine ww_getR (f := 323) wf_X7_13 dX7_recall_39 rfl rfl (ww_up_mo hM hu).1.1 (ww_up_mo hM hu).1.2 ((ww_up_mo hM hu).2.1 3 rfl) ?_
      refine ww_iload_n (i := 3) dX7_recall_42 rfl rfl ?_
      refine ww_pald (k := 3) hM hu dX7_recall_43 rfl rfl rfl (show _ < 60 by omega) e3 ?_
      refine ww_iload_n (i := 1) dX7_recall_44 rfl rfl ?_
      refine ww_icmp_ne_t (tgt := 83) dX7_recall_45 (by decide) c1 ?_
      refine ww_iinc (i := 3) (v := _ + 1) (lv2 := [(0, _), (1, _), (2, _), (3, _)]) dX7_recall_83 rfl (by rfl) (Nat.le_of_ble_eq_true rfl) rfl ?_
      refine ww_goto (tgt := 23) dX7_recall_86 (by decide) ?_
      -- at 23, locals [0, 1, 2, 3]
      rw [nI_1, ← q_cnt_n c]
      rw [← q_rc_f c] at hu
      exact m_recall_l hM hG h0 m (i + 1) _ (by omega) hu
set_option maxRecDepth 20000 in
set_option maxHeartbeats 4000000 in
theorem m_recall_0 (hM : ww_mo x ar M.1 M.2.2.1) (hG : q_G (q_S M x ar) n) {v : Int32} (hc : q_rg 0 9 v) : ww_C g wy_X7_recall 3 0 0 [.ref x, .int v] M (ww_ru x ar M (some (.int (nI (q_cnt (q_hit (q_S M x ar) v) n)))) (q_rc (q_us (q_S M x ar) 0 0) v n)) ww_no := by
  refine ww_ent (by decide +kernel) (Nat.le_of_ble_eq_true rfl) ⟨rfl, rfl, trivial⟩ ?_
  have hu : ww_up x ar M (q_S M x ar) M := ww_up_rf
  refine ww_aload_n (i := 0) dX7_recall_0 rfl rfl ?_
  refine ww_iload_n (i := 1) dX7_recall_1 rfl rfl ?_
  refine ww_iconst (v := 0) dX7_recall_2 (by decide) ?_
  refine ww_bipush (v := 9) dX7_recall_3 (by decide) ?_
  refine ww_callS wk_X7_105 rfl dX7_recall_5 (m_in_t hc.1 hc.2) rfl rfl (by omega) (by omega) (by omega) (by first | exact Nat.le_of_ble_eq_true rfl | (simp [ww_rf_cat, Value.category])) rfl (fun E M9 h9 => h9.elim) (fun v9 M9 h9 => ?_)
  obtain ⟨rfl, rfl⟩ := h9
  refine ww_if_eq_f (tgt := 15) dX7_recall_8 (by decide) (by decide) ?_
  refine ww_iconst (v := 0) dX7_recall_11 (by decide) ?_
  refine ww_goto (tgt := 16) dX7_recall_12 (by decide) ?_
  refine ww_pputI (k := 0) hM hu dX7_recall_16 wf_X7_98 wt_8_0 rfl rfl rfl rfl (fun M1 hu => ?_)
  refine ww_iconst (v := 0) dX7_recall_19 (by decide) ?_
  refine ww_istore_n (i := 2) (lv2 := [(0, _), (1, _), (2, _)]) dX7_recall_20 rfl (Nat.le_of_ble_eq_true rfl) rfl ?_
  refine ww_iconst (v := 0) dX7_recall_21 (by decide) ?_
  refine ww_istore_n (i := 3) (lv2 := [(0, _), (1, _), (2, _), (3, _)]) dX7_recall_22 rfl (Nat.le_of_ble_eq_true rfl) rfl ?_
  -- at 23, locals [0, 1, 2, 3]
  have hl := m_recall_l (g := g) (S := q_us (q_S M x ar) 0 0) (v := v) hM (q_G_c hG) rfl n 0 _ (by omega) (by rw [q_rc_0]; exact hu)
  exact ww_subk hl ⟨rfl, rfl, rfl, rfl, trivial⟩
/-! turn -/
def q_true (S : Nat → Nat → Int32) (a : Nat) : Nat → Nat → Int32 := ww_u2 (ww_u2 S 13 a (S 13 a - 2 * (300 - S 14 a))) 14 a 300
set_option maxRecDepth 20000 in
theorem u_trues (hM : ww_mo x ar M.1 M.2.2.1) (hu : ww_up x ar M S1 M1) {a : Nat} (ha : a < 60) : ww_C g wy_X7_trues 1 0 0 [.ref x, .int (nI a)] M1 (ww_ru x ar M (some (.int (2 * (300 - S1 14 a)))) (q_true S1 a)) ww_no := by
  refine ww_ent (by decide +kernel) (Nat.le_of_ble_eq_true rfl) ⟨rfl, rfl, trivial⟩ ?_
  refine ww_iconst (v := 2) dX7_trues_0 (by decide) ?_
  refine ww_sipush (v := 300) dX7_trues_1 (by decide) ?_
  refine ww_aload_n (i := 0) dX7_trues_4 rfl rfl ?_
  refine ww_getR (f := 334) wf_X7_47 dX7_trues_5 rfl rfl (ww_up_mo hM hu).1.1 (ww_up_mo hM hu).1.2 ((ww_up_mo hM hu).2.1 14 rfl) ?_
  refine ww_iload_n (i := 1) dX7_trues_8 rfl rfl ?_
  refine ww_pald (k := 14) hM hu dX7_trues_9 rfl rfl rfl (show _ < 60 by omega) (rfl) ?_
  refine ww_isub dX7_trues_10 ?_
  refine ww_imul dX7_trues_11 ?_
  refine ww_istore_n (i := 2) (lv2 := [(0, _), (1, _), (2, _)]) dX7_trues_12 rfl (Nat.le_of_ble_eq_true rfl) rfl ?_
  refine ww_aload_n (i := 0) dX7_trues_13 rfl rfl ?_
  refine ww_getR (f := 333) wf_X7_44 dX7_trues_14 rfl rfl (ww_up_mo hM hu).1.1 (ww_up_mo hM hu).1.2 ((ww_up_mo hM hu).2.1 13 rfl) ?_
  refine ww_iload_n (i := 1) dX7_trues_17 rfl rfl ?_
  refine ww_dup2 dX7_trues_18 (by first | rfl | exact ww_rf_cat _) (by first | rfl | exact ww_rf_cat _) ?_
  refine ww_pald (k := 13) hM hu dX7_trues_19 rfl rfl rfl (show _ < 60 by omega) (rfl) ?_
  refine ww_iload_n (i := 2) dX7_trues_20 rfl rfl ?_
  refine ww_isub dX7_trues_21 ?_
  refine ww_past (k := 13) hM hu dX7_trues_22 rfl rfl rfl (show _ < 60 by omega) (fun M1 hu => ?_)
  refine ww_aload_n (i := 0) dX7_trues_23 rfl rfl ?_
  refine ww_getR (f := 334) wf_X7_47 dX7_trues_24 rfl rfl (ww_up_mo hM hu).1.1 (ww_up_mo hM hu).1.2 ((ww_up_mo hM hu).2.1 14 rfl) ?_
  refine ww_iload_n (i := 1) dX7_trues_27 rfl rfl ?_
  refine ww_sipush (v := 300) dX7_trues_28 (by decide) ?_
  refine ww_past (k := 14) hM hu dX7_trues_31 rfl rfl rfl (show _ < 60 by omega) (fun M1 hu => ?_)
  refine ww_iload_n (i := 2) dX7_trues_32 rfl rfl ?_
  exact ww_ireturn dX7_trues_33 rfl (by first | rfl | exact ww_b_nar) ⟨rfl, hu⟩
def q_turnM (S : Nat → Nat → Int32) (a z : Nat) : Int32 := if S 13 z ≤ S 13 a then S 13 z else S 13 a
def q_turn2 (S : Nat → Nat → Int32) (a z : Nat) : Nat → Nat → Int32 := ww_u2 (ww_u2 S 13 a (q_turnM S a z)) 13 z (q_turnM S a z)
/-- the wheelsets a and z trued and made alike -/
def q_turn (S : Nat → Nat → Int32) (a z : Nat) : Nat → Nat → Int32 := q_turn2 (q_true (q_true S a) z) a z
def q_turnV (S : Nat → Nat → Int32) (a z : Nat) : Int32 := 2 * (300 - S 14 a) + 2 * (300 - q_true S a 14 z) + (q_true (q_true S a) z 13 a - q_turnM (q_true (q_true S a) z) a z + q_true (q_true S a) z 13 z - q_turnM (q_true (q_true S a) z) a z)
def q_turnC (S : Nat → Nat → Int32) (n p : Nat) : Prop := ¬ nI (q_inK S n (nI p) 3) < 2 ∧ ¬ q_bound S p
set_option maxRecDepth 20000 in
set_option maxHeartbeats 4000000 in
theorem m_turn_1 (hM : ww_mo x ar M.1 M.2.2.1) (hG : q_G (q_S M x ar) n) {p : Int32} (hc : q_noP n p) : ww_C g wy_X7_turn 4 0 0 [.ref x, .int p] M (ww_ru x ar M (some (.int 0)) (q_us (q_S M x ar) 0 1)) ww_no := by
  refine ww_ent (by decide +kernel) (Nat.le_of_ble_eq_true rfl) ⟨rfl, rfl, trivial⟩ ?_
  have hu : ww_up x ar M (q_S M x ar) M := ww_up_rf
  refine ww_aload_n (i := 0) dX7_turn_0 rfl rfl ?_
  refine ww_aload_n (i := 0) dX7_turn_1 rfl rfl ?_
  refine ww_iload_n (i := 1) dX7_turn_2 rfl rfl ?_
  refine ww_iconst (v := 2) dX7_turn_3 (by decide) ?_
  refine ww_callV (κ := 8) (r := (RX7, TX7, 33)) wk_X7_148 dX7_turn_4 (u_kind_1 hM hu hG 2 hc) rfl rfl (show ww_is _ _ 8 from (ww_up_mo hM hu).1).1 (show ww_is _ _ 8 from (ww_up_mo hM hu).1).2 rfl rfl (by omega) (by omega) (by omega) (by first | exact Nat.le_of_ble_eq_true rfl | (simp [ww_rf_cat, Value.category])) rfl (fun E M9 h9 => h9.elim) (fun v9 M9 h9 => ?_)
  obtain ⟨rfl, rfl⟩ := h9
  refine ww_pputI (k := 0) hM hu dX7_turn_7 wf_X7_98 wt_8_0 rfl rfl rfl rfl (fun M1 hu => ?_)
  refine ww_aload_n (i := 0) dX7_turn_10 rfl rfl ?_
  refine ww_pgetI (k := 0) hM hu dX7_turn_11 wf_X7_98 rfl rfl (q_us_s) ?_
  refine ww_if_le_f (tgt := 19) dX7_turn_14 (by decide) (by decide) ?_
  refine ww_iconst (v := 0) dX7_turn_17 (by decide) ?_
  exact ww_ireturn dX7_turn_18 rfl (by first | rfl | exact ww_b_nar) ⟨rfl, hu⟩
set_option maxRecDepth 20000 in
set_option maxHeartbeats 4000000 in
theorem m_turn_2 (hM : ww_mo x ar M.1 M.2.2.1) (hG : q_G (q_S M x ar) n) {p : Nat} (hp : p < n) (hk : ¬ (q_S M x ar) 2 p = 2) : ww_C g wy_X7_turn 4 0 0 [.ref x, .int (nI p)] M (ww_ru x ar M (some (.int 0)) (q_us (q_S M x ar) 0 2)) ww_no := by
  refine ww_ent (by decide +kernel) (Nat.le_of_ble_eq_true rfl) ⟨rfl, rfl, trivial⟩ ?_
  have hu : ww_up x ar M (q_S M x ar) M := ww_up_rf
  have h6 := hG.2.1
  refine ww_aload_n (i := 0) dX7_turn_0 rfl rfl ?_
  refine ww_aload_n (i := 0) dX7_turn_1 rfl rfl ?_
  refine ww_iload_n (i := 1) dX7_turn_2 rfl rfl ?_
  refine ww_iconst (v := 2) dX7_turn_3 (by decide) ?_
  refine ww_callV (κ := 8) (r := (RX7, TX7, 33)) wk_X7_148 dX7_turn_4 (u_kind_2 hM hu hG hp hk) rfl rfl (show ww_is _ _ 8 from (ww_up_mo hM hu).1).1 (show ww_is _ _ 8 from (ww_up_mo hM hu).1).2 rfl rfl (by omega) (by omega) (by omega) (by first | exact Nat.le_of_ble_eq_true rfl | (simp [ww_rf_cat, Value.category])) rfl (fun E M9 h9 => h9.elim) (fun v9 M9 h9 => ?_)
  obtain ⟨rfl, rfl⟩ := h9
  refine ww_pputI (k := 0) hM hu dX7_turn_7 wf_X7_98 wt_8_0 rfl rfl rfl rfl (fun M1 hu => ?_)
  refine ww_aload_n (i := 0) dX7_turn_10 rfl rfl ?_
  refine ww_pgetI (k := 0) hM hu dX7_turn_11 wf_X7_98 rfl rfl (q_us_s) ?_
  refine ww_if_le_f (tgt := 19) dX7_turn_14 (by decide) (by decide) ?_
  refine ww_iconst (v := 0) dX7_turn_17 (by decide) ?_
  exact ww_ireturn dX7_turn_18 rfl (by first | rfl | exact ww_b_nar) ⟨rfl, hu⟩
set_option maxRecDepth 20000 in
set_option maxHeartbeats 4000000 in
theorem m_turn_3 (hM : ww_mo x ar M.1 M.2.2.1) (hG : q_G (q_S M x ar) n) {p : Nat} (hp : p < n) (hk : (q_S M x ar) 2 p = 2) (hc : ¬ q_turnC (q_S M x ar) n p) : ww_C g wy_X7_turn 4 0 0 [.ref x, .int (nI p)] M (ww_ru x ar M (some (.int 0)) (q_us (q_S M x ar) 0 3)) ww_no := by
  refine ww_ent (by decide +kernel) (Nat.le_of_ble_eq_true rfl) ⟨rfl, rfl, trivial⟩ ?_
  have hu : ww_up x ar M (q_S M x ar) M := ww_up_rf
  have h6 := hG.2.1
  by_cases c1 : nI (q_inK (q_S M x ar) n (nI p) 3) < 2
  · refine ww_aload_n (i := 0) dX7_turn_0 rfl rfl ?_
    refine ww_aload_n (i := 0) dX7_turn_1 rfl rfl ?_
    refine ww_iload_n (i := 1) dX7_turn_2 rfl rfl ?_
    refine ww_iconst (v := 2) dX7_turn_3 (by decide) ?_
    refine ww_callV (κ := 8) (r := (RX7, TX7, 33)) wk_X7_148 dX7_turn_4 (u_kind_0 hM hu hG hp hk) rfl rfl (show ww_is _ _ 8 from (ww_up_mo hM hu).1).1 (show ww_is _ _ 8 from (ww_up_mo hM hu).1).2 rfl rfl (by omega) (by omega) (by omega) (by first | exact Nat.le_of_ble_eq_true rfl | (simp [ww_rf_cat, Value.category])) rfl (fun E M9 h9 => h9.elim) (fun v9 M9 h9 => ?_)
    obtain ⟨rfl, rfl⟩ := h9
    refine ww_pputI (k := 0) hM hu dX7_turn_7 wf_X7_98 wt_8_0 rfl rfl rfl rfl (fun M1 hu => ?_)
    refine ww_aload_n (i := 0) dX7_turn_10 rfl rfl ?_
    refine ww_pgetI (k := 0) hM hu dX7_turn_11 wf_X7_98 rfl rfl (q_us_s) ?_
    refine ww_if_le_t (tgt := 19) dX7_turn_14 (by decide) (by decide) ?_
    refine ww_aload_n (i := 0) dX7_turn_19 rfl rfl ?_
    refine ww_aload_n (i := 0) dX7_turn_20 rfl rfl ?_
    refine ww_iload_n (i := 1) dX7_turn_21 rfl rfl ?_
    refine ww_iconst (v := 3) dX7_turn_22 (by decide) ?_
    refine ww_callV (κ := 8) (r := (RX7, TX7, 33)) wk_X7_128 dX7_turn_23 (u_insideK hM hu (q_G_c hG) (nI p) 3 (by decide)) rfl rfl (show ww_is _ _ 8 from (ww_up_mo hM hu).1).1 (show ww_is _ _ 8 from (ww_up_mo hM hu).1).2 rfl rfl (by omega) (by omega) (by omega) (by first | exact Nat.le_of_ble_eq_true rfl | (simp [ww_rf_cat, Value.category])) rfl (fun E M9 h9 => h9.elim) (fun v9 M9 h9 => ?_)
    obtain ⟨rfl, rfl⟩ := h9
    refine ww_iconst (v := 2) dX7_turn_26 (by decide) ?_
    refine ww_icmp_lt_t (tgt := 38) dX7_turn_27 (by decide) c1 ?_
    refine ww_iconst (v := 3) dX7_turn_38 (by decide) ?_
    refine ww_goto (tgt := 43) dX7_turn_39 (by decide) ?_
    refine ww_pputI (k := 0) hM hu dX7_turn_43 wf_X7_98 wt_8_0 rfl rfl rfl rfl (fun M1 hu => ?_)
    refine ww_aload_n (i := 0) dX7_turn_46 rfl rfl ?_
    refine ww_pgetI (k := 0) hM hu dX7_turn_47 wf_X7_98 rfl rfl (q_us_s) ?_
    refine ww_if_le_f (tgt := 55) dX7_turn_50 (by decide) (by decide) ?_
    refine ww_iconst (v := 0) dX7_turn_53 (by decide) ?_
    exact ww_ireturn dX7_turn_54 rfl (by first | rfl | exact ww_b_nar) ⟨rfl, ww_up_cg hu q_us_us⟩
  · have c2 : q_bound (q_S M x ar) p := Classical.not_not.mp fun z => hc ⟨c1, z⟩
    refine ww_aload_n (i := 0) dX7_turn_0 rfl rfl ?_
    refine ww_aload_n (i := 0) dX7_turn_1 rfl rfl ?_
    refine ww_iload_n (i := 1) dX7_turn_2 rfl rfl ?_
    refine ww_iconst (v := 2) dX7_turn_3 (by decide) ?_
    refine ww_callV (κ := 8) (r := (RX7, TX7, 33)) wk_X7_148 dX7_turn_4 (u_kind_0 hM hu hG hp hk) rfl rfl (show ww_is _ _ 8 from (ww_up_mo hM hu).1).1 (show ww_is _ _ 8 from (ww_up_mo hM hu).1).2 rfl rfl (by omega) (by omega) (by omega) (by first | exact Nat.le_of_ble_eq_true rfl | (simp [ww_rf_cat, Value.category])) rfl (fun E M9 h9 => h9.elim) (fun v9 M9 h9 => ?_)
    obtain ⟨rfl, rfl⟩ := h9
    refine ww_pputI (k := 0) hM hu dX7_turn_7 wf_X7_98 wt_8_0 rfl rfl rfl rfl (fun M1 hu => ?_)
    refine ww_aload_n (i := 0) dX7_turn_10 rfl rfl ?_
    refine ww_pgetI (k := 0) hM hu dX7_turn_11 wf_X7_98 rfl rfl (q_us_s) ?_
    refine ww_if_le_t (tgt := 19) dX7_turn_14 (by decide) (by decide) ?_
    refine ww_aload_n (i := 0) dX7_turn_19 rfl rfl ?_
    refine ww_aload_n (i := 0) dX7_turn_20 rfl rfl ?_
    refine ww_iload_n (i := 1) dX7_turn_21 rfl rfl ?_
    refine ww_iconst (v := 3) dX7_turn_22 (by decide) ?_
    refine ww_callV (κ := 8) (r := (RX7, TX7, 33)) wk_X7_128 dX7_turn_23 (u_insideK hM hu (q_G_c hG) (nI p) 3 (by decide)) rfl rfl (show ww_is _ _ 8 from (ww_up_mo hM hu).1).1 (show ww_is _ _ 8 from (ww_up_mo hM hu).1).2 rfl rfl (by omega) (by omega) (by omega) (by first | exact Nat.le_of_ble_eq_true rfl | (simp [ww_rf_cat, Value.category])) rfl (fun E M9 h9 => h9.elim) (fun v9 M9 h9 => ?_)
    obtain ⟨rfl, rfl⟩ := h9
    refine ww_iconst (v := 2) dX7_turn_26 (by decide) ?_
    refine ww_icmp_lt_f (tgt := 38) dX7_turn_27 (by decide) c1 ?_
    refine ww_aload_n (i := 0) dX7_turn_30 rfl rfl ?_
    refine ww_iload_n (i := 1) dX7_turn_31 rfl rfl ?_
    refine ww_callV (κ := 8) (r := (RX7, TX7, 33)) wk_X7_125 dX7_turn_32 (u_bound_t hM hu (q_G_c hG) hp c2) rfl rfl (show ww_is _ _ 8 from (ww_up_mo hM hu).1).1 (show ww_is _ _ 8 from (ww_up_mo hM hu).1).2 rfl rfl (by omega) (by omega) (by omega) (by first | exact Nat.le_of_ble_eq_true rfl | (simp [ww_rf_cat, Value.category])) rfl (fun E M9 h9 => h9.elim) (fun v9 M9 h9 => ?_)
    obtain ⟨rfl, rfl⟩ := h9
    refine ww_if_eq_f (tgt := 42) dX7_turn_35 (by decide) (by decide) ?_
    refine ww_iconst (v := 3) dX7_turn_38 (by decide) ?_
    refine ww_goto (tgt := 43) dX7_turn_39 (by decide) ?_
    refine ww_pputI (k := 0) hM hu dX7_turn_43 wf_X7_98 wt_8_0 rfl rfl rfl rfl (fun M1 hu => ?_)
    refine ww_aload_n (i := 0) dX7_turn_46 rfl rfl ?_
    refine ww_pgetI (k := 0) hM hu dX7_turn_47 wf_X7_98 rfl rfl (q_us_s) ?_
    refine ww_if_le_f (tgt := 55) dX7_turn_50 (by decide) (by decide) ?_
    refine ww_iconst (v := 0) dX7_turn_53 (by decide) ?_
    exact ww_ireturn dX7_turn_54 rfl (by first | rfl | exact ww_b_nar) ⟨rfl, ww_up_cg hu q_us_us⟩
set_option maxRecDepth 20000 in
set_option maxHeartbeats 4000000 in
theorem m_turn_0 (hM : ww_mo x ar M.1 M.2.2.1) (hG : q_G (q_S M x ar) n) {p a z : Nat} (hp : p < n) (hk : (q_S M x ar) 2 p = 2) (hc : q_turnC (q_S M x ar) n p) (ha : a < n) (hz : z < n) (ea : q_ws (q_S M x ar) (nI p) (¬ (0 : Int32) = 0) n = nI a) (ez : q_ws (q_S M x ar) (nI p) (¬ (1 : Int32) = 0) n = nI z) : ww_C g wy_X7_turn 4 0 0 [.ref x, .int (nI p)] M (ww_ru x ar M (some (.int (q_turnV (q_S M x ar) a z))) (q_turn (q_us (q_S M x ar) 0 0) a z)) ww_no := by
  refine ww_ent (by decide +kernel) (Nat.le_of_ble_eq_true rfl) ⟨rfl, rfl, trivial⟩ ?_
  have hu : ww_up x ar M (q_S M x ar) M := ww_up_rf
  have h6 := hG.2.1
  obtain ⟨c1, c2⟩ := hc
  refine ww_aload_n (i := 0) dX7_turn_0 rfl rfl ?_
  refine ww_aload_n (i := 0) dX7_turn_1 rfl rfl ?_
  refine ww_iload_n (i := 1) dX7_turn_2 rfl rfl ?_
  refine ww_iconst (v := 2) dX7_turn_3 (by decide) ?_
  refine ww_callV (κ := 8) (r := (RX7, TX7, 33)) wk_X7_148 dX7_turn_4 (u_kind_0 hM hu hG hp hk) rfl rfl (show ww_is _ _ 8 from (ww_up_mo hM hu).1).1 (show ww_is _ _ 8 from (ww_up_mo hM hu).1).2 rfl rfl (by omega) (by omega) (by omega) (by first | exact Nat.le_of_ble_eq_true rfl | (simp [ww_rf_cat, Value.category])) rfl (fun E M9 h9 => h9.elim) (fun v9 M9 h9 => ?_)
  obtain ⟨rfl, rfl⟩ := h9
  refine ww_pputI (k := 0) hM hu dX7_turn_7 wf_X7_98 wt_8_0 rfl rfl rfl rfl (fun M1 hu => ?_)
  refine ww_aload_n (i := 0) dX7_turn_10 rfl rfl ?_
  refine ww_pgetI (k := 0) hM hu dX7_turn_11 wf_X7_98 rfl rfl (q_us_s) ?_
  refine ww_if_le_t (tgt := 19) dX7_turn_14 (by decide) (by decide) ?_
  refine ww_aload_n (i := 0) dX7_turn_19 rfl rfl ?_
  refine ww_aload_n (i := 0) dX7_turn_20 rfl rfl ?_
  refine ww_iload_n (i := 1) dX7_turn_21 rfl rfl ?_
  refine ww_iconst (v := 3) dX7_turn_22 (by decide) ?_
  refine ww_callV (κ := 8) (r := (RX7, TX7, 33)) wk_X7_128 dX7_turn_23 (u_insideK hM hu (q_G_c hG) (nI p) 3 (by decide)) rfl rfl (show ww_is _ _ 8 from (ww_up_mo hM hu).1).1 (show ww_is _ _ 8 from (ww_up_mo hM hu).1).2 rfl rfl (by omega) (by omega) (by omega) (by first | exact Nat.le_of_ble_eq_true rfl | (simp [ww_rf_cat, Value.category])) rfl (fun E M9 h9 => h9.elim) (fun v9 M9 h9 => ?_)
  obtain ⟨rfl, rfl⟩ := h9
  refine ww_iconst (v := 2) dX7_turn_26 (by decide) ?_
  refine ww_icmp_lt_f (tgt := 38) dX7_turn_27 (by decide) c1 ?_
  refine ww_aload_n (i := 0) dX7_turn_30 rfl rfl ?_
  refine ww_iload_n (i := 1) dX7_turn_31 rfl rfl ?_
  refine ww_callV (κ := 8) (r := (RX7, TX7, 33)) wk_X7_125 dX7_turn_32 (u_bound_f hM hu (q_G_c hG) hp c2) rfl rfl (show ww_is _ _ 8 from (ww_up_mo hM hu).1).1 (show ww_is _ _ 8 from (ww_up_mo hM hu).1).2 rfl rfl (by omega) (by omega) (by omega) (by first | exact Nat.le_of_ble_eq_true rfl | (simp [ww_rf_cat, Value.category])) rfl (fun E M9 h9 => h9.elim) (fun v9 M9 h9 => ?_)
  obtain ⟨rfl, rfl⟩ := h9
  refine ww_if_eq_t (tgt := 42) dX7_turn_35 (by decide) (by decide) ?_
  refine ww_iconst (v := 0) dX7_turn_42 (by decide) ?_
  refine ww_pputI (k := 0) hM hu dX7_turn_43 wf_X7_98 wt_8_0 rfl rfl rfl rfl (fun M1 hu => ?_)
  refine ww_aload_n (i := 0) dX7_turn_46 rfl rfl ?_
  refine ww_pgetI (k := 0) hM hu dX7_turn_47 wf_X7_98 rfl rfl (q_us_s) ?_
  refine ww_if_le_t (tgt := 55) dX7_turn_50 (by decide) (by decide) ?_
  -- at 55, locals [0, 1]
  rw [q_us_us] at hu
  have ea' : q_ws (q_us (q_S M x ar) 0 0) (nI p) (¬ (0 : Int32) = 0) n = nI a := by rw [← ea]; exact q_ws_us
  have ez' : q_ws (q_us (q_S M x ar) 0 0) (nI p) (¬ (1 : Int32) = 0) n = nI z := by rw [← ez]; exact q_ws_us
  have wa := u_wheelsetOf (g := g) hM hu (q_G_c hG) (nI p) 0
  rw [ea'] at wa
  have wz := u_wheelsetOf (g := g) hM hu (q_G_c hG) (nI p) 1
  rw [ez'] at wz
  refine ww_aload_n (i := 0) dX7_turn_55 rfl rfl ?_
  refine ww_iload_n (i := 1) dX7_turn_56 rfl rfl ?_
  refine ww_iconst (v := 0) dX7_turn_57 (by decide) ?_
  refine ww_callV (κ := 8) (r := (RX7, TX7, 33)) wk_X7_159 dX7_turn_58 (wa) rfl rfl (show ww_is _ _ 8 from (ww_up_mo hM hu).1).1 (show ww_is _ _ 8 from (ww_up_mo hM hu).1).2 rfl rfl (by omega) (by omega) (by omega) (by first | exact Nat.le_of_ble_eq_true rfl | (simp [ww_rf_cat, Value.category])) rfl (fun E M9 h9 => h9.elim) (fun v9 M9 h9 => ?_)
  obtain ⟨rfl, rfl⟩ := h9
  refine ww_istore_n (i := 2) (lv2 := [(0, _), (1, _), (2, _)]) dX7_turn_61 rfl (Nat.le_of_ble_eq_true rfl) rfl ?_
  refine ww_aload_n (i := 0) dX7_turn_62 rfl rfl ?_
  refine ww_iload_n (i := 1) dX7_turn_63 rfl rfl ?_
  refine ww_iconst (v := 1) dX7_turn_64 (by decide) ?_
  refine ww_callV (κ := 8) (r := (RX7, TX7, 33)) wk_X7_159 dX7_turn_65 (wz) rfl rfl (show ww_is _ _ 8 from (ww_up_mo hM hu).1).1 (show ww_is _ _ 8 from (ww_up_mo hM hu).1).2 rfl rfl (by omega) (by omega) (by omega) (by first | exact Nat.le_of_ble_eq_true rfl | (simp [ww_rf_cat, Value.category])) rfl (fun E M9 h9 => h9.elim) (fun v9 M9 h9 => ?_)
  obtain ⟨rfl, rfl⟩ := h9
  refine ww_istore_n (i := 3) (lv2 := [(0, _), (1, _), (2, _), (3, _)]) dX7_turn_68 rfl (Nat.le_of_ble_eq_true rfl) rfl ?_
  refine ww_aload_n (i := 0) dX7_turn_69 rfl rfl ?_
  refine ww_iload_n (i := 2) dX7_turn_70 rfl rfl ?_
  refine ww_callV (κ := 8) (r := (RX7, TX7, 33)) wk_X7_163 dX7_turn_71 (u_trues hM hu (a := a) (by omega)) rfl rfl (show ww_is _ _ 8 from (ww_up_mo hM hu).1).1 (show ww_is _ _ 8 from (ww_up_mo hM hu).1).2 rfl rfl (by omega) (by omega) (by omega) (by first | exact Nat.le_of_ble_eq_true rfl | (simp [ww_rf_cat, Value.category])) rfl (fun E M9 h9 => h9.elim) (fun v9 M9 h9 => ?_)
  obtain ⟨rfl, hu⟩ := h9
  refine ww_aload_n (i := 0) dX7_turn_74 rfl rfl ?_
  refine ww_iload_n (i := 3) dX7_turn_75 rfl rfl ?_
  refine ww_callV (κ := 8) (r := (RX7, TX7, 33)) wk_X7_163 dX7_turn_76 (u_trues hM hu (a := z) (by omega)) rfl rfl (show ww_is _ _ 8 from (ww_up_mo hM hu).1).1 (show ww_is _ _ 8 from (ww_up_mo hM hu).1).2 rfl rfl (by omega) (by omega) (by omega) (by first | exact Nat.le_of_ble_eq_true rfl | (simp [ww_rf_cat, Value.category])) rfl (fun E M9 h9 => h9.elim) (fun v9 M9 h9 => ?_)
  obtain ⟨rfl, hu⟩ := h9
  refine ww_iadd dX7_turn_79 ?_
  refine ww_istore (i := 4) (lv2 := [(0, _), (1, _), (2, _), (3, _), (4, _)]) dX7_turn_80 (Nat.le_of_ble_eq_true rfl) rfl ?_
  -- at 82, locals [0, 1, 2, 3, 4]
  by_cases c3 : q_true (q_true (q_us (q_S M x ar) 0 0) a) z 13 z ≤ q_true (q_true (q_us (q_S M x ar) 0 0) a) z 13 a
  · have e : q_turnM (q_true (q_true (q_us (q_S M x ar) 0 0) a) z) a z = q_true (q_true (q_us (q_S M x ar) 0 0) a) z 13 z := if_pos c3
    refine ww_aload_n (i := 0) dX7_turn_82 rfl rfl ?_
    refine ww_getR (f := 333) wf_X7_44 dX7_turn_83 rfl rfl (ww_up_mo hM hu).1.1 (ww_up_mo hM hu).1.2 ((ww_up_mo hM hu).2.1 13 rfl) ?_
    refine ww_iload_n (i := 2) dX7_turn_86 rfl rfl ?_
    refine ww_pald (k := 13) hM hu dX7_turn_87 rfl rfl rfl (show _ < 60 by omega) (rfl) ?_
    refine ww_aload_n (i := 0) dX7_turn_88 rfl rfl ?_
    refine ww_getR (f := 333) wf_X7_44 dX7_turn_89 rfl rfl (ww_up_mo hM hu).1.1 (ww_up_mo hM hu).1.2 ((ww_up_mo hM hu).2.1 13 rfl) ?_
    refine ww_iload_n (i := 3) dX7_turn_92 rfl rfl ?_
    refine ww_pald (k := 13) hM hu dX7_turn_93 rfl rfl rfl (show _ < 60 by omega) (rfl) ?_
    refine ww_icmp_ge_t (tgt := 106) dX7_turn_94 (by decide) c3 ?_
    refine ww_aload_n (i := 0) dX7_turn_106 rfl rfl ?_
    refine ww_getR (f := 333) wf_X7_44 dX7_turn_107 rfl rfl (ww_up_mo hM hu).1.1 (ww_up_mo hM hu).1.2 ((ww_up_mo hM hu).2.1 13 rfl) ?_
    refine ww_iload_n (i := 3) dX7_turn_110 rfl rfl ?_
    refine ww_pald (k := 13) hM hu dX7_turn_111 rfl rfl rfl (show _ < 60 by omega) (rfl) ?_
    refine ww_istore (i := 5) (lv2 := [(0, _), (1, _), (2, _), (3, _), (4, _), (5, _)]) dX7_turn_112 (Nat.le_of_ble_eq_true rfl) rfl ?_
    refine ww_iload (i := 4) dX7_turn_114 rfl ?_
    refine ww_aload_n (i := 0) dX7_turn_116 rfl rfl ?_
    refine ww_getR (f := 333) wf_X7_44 dX7_turn_117 rfl rfl (ww_up_mo hM hu).1.1 (ww_up_mo hM hu).1.2 ((ww_up_mo hM hu).2.1 13 rfl) ?_
    refine ww_iload_n (i := 2) dX7_turn_120 rfl rfl ?_
    refine ww_pald (k := 13) hM hu dX7_turn_121 rfl rfl rfl (show _ < 60 by omega) (rfl) ?_
    refine ww_iload (i := 5) dX7_turn_122 rfl ?_
    refine ww_isub dX7_turn_124 ?_
    refine ww_aload_n (i := 0) dX7_turn_125 rfl rfl ?_
    refine ww_getR (f := 333) wf_X7_44 dX7_turn_126 rfl rfl (ww_up_mo hM hu).1.1 (ww_up_mo hM hu).1.2 ((ww_up_mo hM hu).2.1 13 rfl) ?_
    refine ww_iload_n (i := 3) dX7_turn_129 rfl rfl ?_
    refine ww_pald (k := 13) hM hu dX7_turn_130 rfl rfl rfl (show _ < 60 by omega) (rfl) ?_
    refine ww_iadd dX7_turn_131 ?_
    refine ww_iload (i := 5) dX7_turn_132 rfl ?_
    refine ww_isub dX7_turn_134 ?_
    refine ww_iadd dX7_turn_135 ?_
    refine ww_istore (i := 4) (lv2 := [(0, _), (1, _), (2, _), (3, _), (4, _), (5, _)]) dX7_turn_136 (Nat.le_of_ble_eq_true rfl) rfl ?_
    refine ww_aload_n (i := 0) dX7_turn_138 rfl rfl ?_
    refine ww_getR (f := 333) wf_X7_44 dX7_turn_139 rfl rfl (ww_up_mo hM hu).1.1 (ww_up_mo hM hu).1.2 ((ww_up_mo hM hu).2.1 13 rfl) ?_
    refine ww_iload_n (i := 2) dX7_turn_142 rfl rfl ?_
    refine ww_iload (i := 5) dX7_turn_143 rfl ?_
    refine ww_past (k := 13) hM hu dX7_turn_145 rfl rfl rfl (show _ < 60 by omega) (fun M1 hu => ?_)
    refine ww_aload_n (i := 0) dX7_turn_146 rfl rfl ?_
    refine ww_getR (f := 333) wf_X7_44 dX7_turn_147 rfl rfl (ww_up_mo hM hu).1.1 (ww_up_mo hM hu).1.2 ((ww_up_mo hM hu).2.1 13 rfl) ?_
    refine ww_iload_n (i := 3) dX7_turn_150 rfl rfl ?_
    refine ww_iload (i := 5) dX7_turn_151 rfl ?_
    refine ww_past (k := 13) hM hu dX7_turn_153 rfl rfl rfl (show _ < 60 by omega) (fun M1 hu => ?_)
    refine ww_iload (i := 4) dX7_turn_154 rfl ?_
    refine ww_ireturn dX7_turn_156 rfl (by first | rfl | exact ww_b_nar) ⟨?_, ?_⟩
    · unfold q_turnV; rw [show q_turnM (q_true (q_true (q_S M x ar) a) z) a z = q_true (q_true (q_us (q_S M x ar) 0 0) a) z 13 z from e]; rfl
    · unfold q_turn q_turn2; rw [e]; exact hu
  · have e : q_turnM (q_true (q_true (q_us (q_S M x ar) 0 0) a) z) a z = q_true (q_true (q_us (q_S M x ar) 0 0) a) z 13 a := if_neg c3
    refine ww_aload_n (i := 0) dX7_turn_82 rfl rfl ?_
    refine ww_getR (f := 333) wf_X7_44 dX7_turn_83 rfl rfl (ww_up_mo hM hu).1.1 (ww_up_mo hM hu).1.2 ((ww_up_mo hM hu).2.1 13 rfl) ?_
    refine ww_iload_n (i := 2) dX7_turn_86 rfl rfl ?_
    refine ww_pald (k := 13) hM hu dX7_turn_87 rfl rfl rfl (show _ < 60 by omega) (rfl) ?_
    refine ww_aload_n (i := 0) dX7_turn_88 rfl rfl ?_
    refine ww_getR (f := 333) wf_X7_44 dX7_turn_89 rfl rfl (ww_up_mo hM hu).1.1 (ww_up_mo hM hu).1.2 ((ww_up_mo hM hu).2.1 13 rfl) ?_
    refine ww_iload_n (i := 3) dX7_turn_92 rfl rfl ?_
    refine ww_pald (k := 13) hM hu dX7_turn_93 rfl rfl rfl (show _ < 60 by omega) (rfl) ?_
    refine ww_icmp_ge_f (tgt := 106) dX7_turn_94 (by decide) c3 ?_
    refine ww_aload_n (i := 0) dX7_turn_97 rfl rfl ?_
    refine ww_getR (f := 333) wf_X7_44 dX7_turn_98 rfl rfl (ww_up_mo hM hu).1.1 (ww_up_mo hM hu).1.2 ((ww_up_mo hM hu).2.1 13 rfl) ?_
    refine ww_iload_n (i := 2) dX7_turn_101 rfl rfl ?_
    refine ww_pald (k := 13) hM hu dX7_turn_102 rfl rfl rfl (show _ < 60 by omega) (rfl) ?_
    refine ww_goto (tgt := 112) dX7_turn_103 (by decide) ?_
    refine ww_istore (i := 5) (lv2 := [(0, _), (1, _), (2, _), (3, _), (4, _), (5, _)]) dX7_turn_112 (Nat.le_of_ble_eq_true rfl) rfl ?_
    refine ww_iload (i := 4) dX7_turn_114 rfl ?_
    refine ww_aload_n (i := 0) dX7_turn_116 rfl rfl ?_
    refine ww_getR (f := 333) wf_X7_44 dX7_turn_117 rfl rfl (ww_up_mo hM hu).1.1 (ww_up_mo hM hu).1.2 ((ww_up_mo hM hu).2.1 13 rfl) ?_
    refine ww_iload_n (i := 2) dX7_turn_120 rfl rfl ?_
    refine ww_pald (k := 13) hM hu dX7_turn_121 rfl rfl rfl (show _ < 60 by omega) (rfl) ?_
    refine ww_iload (i := 5) dX7_turn_122 rfl ?_
    refine ww_isub dX7_turn_124 ?_
    refine ww_aload_n (i := 0) dX7_turn_125 rfl rfl ?_
    refine ww_getR (f := 333) wf_X7_44 dX7_turn_126 rfl rfl (ww_up_mo hM hu).1.1 (ww_up_mo hM hu).1.2 ((ww_up_mo hM hu).2.1 13 rfl) ?_
    refine ww_iload_n (i := 3) dX7_turn_129 rfl rfl ?_
    refine ww_pald (k := 13) hM hu dX7_turn_130 rfl rfl rfl (show _ < 60 by omega) (rfl) ?_
    refine ww_iadd dX7_turn_131 ?_
    refine ww_iload (i := 5) dX7_turn_132 rfl ?_
    refine ww_isub dX7_turn_134 ?_
    refine ww_iadd dX7_turn_135 ?_
    refine ww_istore (i := 4) (lv2 := [(0, _), (1, _), (2, _), (3, _), (4, _), (5, _)]) dX7_turn_136 (Nat.le_of_ble_eq_true rfl) rfl ?_
    refine ww_aload_n (i := 0) dX7_turn_138 rfl rfl ?_
    refine ww_getR (f := 333) wf_X7_44 dX7_turn_139 rfl rfl (ww_up_mo hM hu).1.1 (ww_up_mo hM hu).1.2 ((ww_up_mo hM hu).2.1 13 rfl) ?_
    refine ww_iload_n (i := 2) dX7_turn_142 rfl rfl ?_
    refine ww_iload (i := 5) dX7_turn_143 rfl ?_
    refine ww_past (k := 13) hM hu dX7_turn_145 rfl rfl rfl (show _ < 60 by omega) (fun M1 hu => ?_)
    refine ww_aload_n (i := 0) dX7_turn_146 rfl rfl ?_
    refine ww_getR (f := 333) wf_X7_44 dX7_turn_147 rfl rfl (ww_up_mo hM hu).1.1 (ww_up_mo hM hu).1.2 ((ww_up_mo hM hu).2.1 13 rfl) ?_
    refine ww_iload_n (i := 3) dX7_turn_150 rfl rfl ?_
    refine ww_iload (i := 5) dX7_turn_151 rfl ?_
    refine ww_past (k := 13) hM hu dX7_turn_153 rfl rfl rfl (show _ < 60 by omega) (fun M1 hu => ?_)
    refine ww_iload (i := 4) dX7_turn_154 rfl ?_
    refine ww_ireturn dX7_turn_156 rfl (by first | rfl | exact ww_b_nar) ⟨?_, ?_⟩
    · unfold q_turnV; rw [show q_turnM (q_true (q_true (q_S M x ar) a) z) a z = q_true (q_true (q_us (q_S M x ar) 0 0) a) z 13 a from e]; rfl
    · unfold q_turn q_turn2; rw [e]; exact hu
end WWY
