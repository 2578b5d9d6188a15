/-! ===== the model's small methods ===== -/
/-- hosts: each part has a kind below 5, and is in the store, scrapped, or in a part of a lower kind -/
def q_gh (n : Nat) (kd ho : Nat → Int32) : Prop := ∀ p, p < n → (∃ k, k < 5 ∧ kd p = nI k) ∧ (ho p = -1 ∨ ho p = -2 ∨ ∃ q, q < n ∧ ho p = nI q ∧ (kd q).toInt < (kd p).toInt)
def q_hd (ho : Nat → Int32) : Nat → Nat → Nat
  | 0, p => p
  | f + 1, p => if ho p < 0 then p else q_hd ho f (ho p).toNatClampNeg
theorem q_hd_neg {ho : Nat → Int32} {f p : Nat} (h : ho p < 0) : q_hd ho f p = p := by
  cases f with
  | zero => rfl
  | succ f => exact if_pos h
theorem q_hd_pos {ho : Nat → Int32} {f p q : Nat} (h : ho p = nI q) (hq : q < 2 ^ 31) : q_hd ho (f + 1) p = q_hd ho f q := by
  show (if ho p < 0 then p else q_hd ho f (ho p).toNatClampNeg) = _
  rw [h, if_neg (nI_pos hq), nI_clamp hq]
theorem q_gh_kd {n : Nat} {kd ho : Nat → Int32} (h : q_gh n kd ho) {p : Nat} (hp : p < n) : 0 ≤ (kd p).toInt ∧ (kd p).toInt < 5 := by
  obtain ⟨⟨k, hk, e⟩, -⟩ := h p hp
  rw [e, nI_toInt (by omega)]
  omega
theorem q_gh_cases {n : Nat} {kd ho : Nat → Int32} (h : q_gh n kd ho) (hn : n ≤ 60) {p : Nat} (hp : p < n) : ho p < 0 ∨ ∃ q, q < n ∧ ho p = nI q ∧ (kd q).toInt < (kd p).toInt := by
  obtain ⟨-, h1 | h1 | h1⟩ := h p hp
  · left; rw [h1]; decide
  · left; rw [h1]; decide
  · exact Or.inr h1
theorem q_hd_lt {n : Nat} {kd ho : Nat → Int32} (h : q_gh n kd ho) (hn : n ≤ 60) : ∀ (f p : Nat), p < n → q_hd ho f p < n
  | 0, p, hp => hp
  | f + 1, p, hp => by
    rcases q_gh_cases h hn hp with h1 | ⟨q, hq, e, -⟩
    · rw [q_hd_neg h1]; exact hp
    · rw [q_hd_pos e (by omega)]; exact q_hd_lt h hn f q hq
section WWN
variable {g : ww_G} {M : ww_M} {x : Nat} {ar : Nat → Nat} {n : Nat}
theorem ww_sub1 {n : Nat} (h : n < 2 ^ 30) : (nI n - 1).toInt = (n : Int) - 1 := by
  have h1 := pk_sub_toInt (a := n) (b := 1) h (by decide)
  exact h1
set_option maxRecDepth 20000 in
theorem m_in (v lo hi : Int32) : ww_C g wy_X7_in 1 0 0 [.int v, .int lo, .int hi] M (ww_ret (some (.int (ww_b (lo ≤ v ∧ v ≤ hi)))) M) ww_no := by
  refine ww_ent (by decide +kernel) (Nat.le_of_ble_eq_true rfl) ⟨rfl, rfl, rfl, trivial⟩ ?_
  by_cases h1 : v < lo
  · have h : ¬ (lo ≤ v ∧ v ≤ hi) := fun z => by rw [ww_le', ww_le'] at z; rw [ww_lt] at h1; omega
    rw [ww_b_f h]
    refine ww_iload_n (i := 0) dX7_in_0 rfl rfl ?_
    refine ww_iload_n (i := 1) dX7_in_1 rfl rfl ?_
    refine ww_icmp_lt_t (tgt := 14) dX7_in_2 (by decide) h1 ?_
    refine ww_iconst (v := 0) dX7_in_14 (by decide) ?_
    exact ww_ireturn dX7_in_15 rfl (by first | rfl | exact ww_b_nar) ⟨rfl, rfl⟩
  · by_cases h2 : hi < v
    · have h : ¬ (lo ≤ v ∧ v ≤ hi) := fun z => by rw [ww_le', ww_le'] at z; rw [ww_lt] at h2; omega
      rw [ww_b_f h]
      refine ww_iload_n (i := 0) dX7_in_0 rfl rfl ?_
      refine ww_iload_n (i := 1) dX7_in_1 rfl rfl ?_
      refine ww_icmp_lt_f (tgt := 14) dX7_in_2 (by decide) h1 ?_
      refine ww_iload_n (i := 0) dX7_in_5 rfl rfl ?_
      refine ww_iload_n (i := 2) dX7_in_6 rfl rfl ?_
      refine ww_icmp_gt_t (tgt := 14) dX7_in_7 (by decide) h2 ?_
      refine ww_iconst (v := 0) dX7_in_14 (by decide) ?_
      exact ww_ireturn dX7_in_15 rfl (by first | rfl | exact ww_b_nar) ⟨rfl, rfl⟩
    · have h : lo ≤ v ∧ v ≤ hi := by rw [ww_le', ww_le']; rw [ww_lt] at h1 h2; omega
      rw [ww_b_t h]
      refine ww_iload_n (i := 0) dX7_in_0 rfl rfl ?_
      refine ww_iload_n (i := 1) dX7_in_1 rfl rfl ?_
      refine ww_icmp_lt_f (tgt := 14) dX7_in_2 (by decide) h1 ?_
      refine ww_iload_n (i := 0) dX7_in_5 rfl rfl ?_
      refine ww_iload_n (i := 2) dX7_in_6 rfl rfl ?_
      refine ww_icmp_gt_f (tgt := 14) dX7_in_7 (by decide) h2 ?_
      refine ww_iconst (v := 1) dX7_in_10 (by decide) ?_
      refine ww_goto (tgt := 15) dX7_in_11 (by decide) ?_
      exact ww_ireturn dX7_in_15 rfl (by first | rfl | exact ww_b_nar) ⟨rfl, rfl⟩
set_option maxRecDepth 20000 in
theorem m_isPart (hM : ww_mo x ar M.1 M.2.2.1) (hn : ww_I M 321 x = nI n) (h6 : n ≤ 60) (p : Int32) : ww_C g wy_X7_isPart 2 0 0 [.ref x, .int p] M (ww_ret (some (.int (ww_b (0 ≤ p.toInt ∧ p.toInt < (n : Int))))) M) ww_no := by
  refine ww_ent (by decide +kernel) (Nat.le_of_ble_eq_true rfl) ⟨rfl, rfl, trivial⟩ ?_
  refine ww_iload_n (i := 1) dX7_isPart_0 rfl rfl ?_
  refine ww_iconst (v := 0) dX7_isPart_1 (by decide) ?_
  refine ww_aload_n (i := 0) dX7_isPart_2 rfl rfl ?_
  refine ww_getI (f := 321) wf_X7_102 dX7_isPart_3 rfl rfl hM.1.1 hM.1.2 ?_
  refine ww_iconst (v := 1) dX7_isPart_6 (by decide) ?_
  refine ww_isub dX7_isPart_7 ?_
  refine ww_callS wk_X7_105 rfl dX7_isPart_8 (m_in p 0 (ww_I M 321 x - 1)) rfl rfl (by omega) (by omega) (by omega) (by first | exact Nat.le_of_ble_eq_true rfl | (simp [ww_rf_cat, Value.category])) rfl (fun E M9 h9 => h9.elim) (fun v9 M9 h9 => ?_)
  obtain ⟨rfl, rfl⟩ := h9
  refine ww_ireturn dX7_isPart_11 rfl (by first | rfl | exact ww_b_nar) ⟨congrArg (fun z => some (Value.int z)) (ww_b_cg ?_), rfl⟩
  rw [hn, ww_le', ww_le', ww_sub1 (by omega)]
  show (0 : Int) ≤ p.toInt ∧ _ ↔ _
  omega
theorem m_isPart_t (hM : ww_mo x ar M.1 M.2.2.1) (hn : ww_I M 321 x = nI n) (h6 : n ≤ 60) {j : Nat} (hj : j < n) : ww_C g wy_X7_isPart 2 0 0 [.ref x, .int (nI j)] M (ww_ret (some (.int 1)) M) ww_no := by
  have h := m_isPart (g := g) hM hn h6 (nI j)
  rw [ww_b_t (by rw [nI_toInt (by omega)]; omega)] at h
  exact h
theorem m_isPart_f (hM : ww_mo x ar M.1 M.2.2.1) (hn : ww_I M 321 x = nI n) (h6 : n ≤ 60) {p : Int32} (hp : ¬ (0 ≤ p.toInt ∧ p.toInt < (n : Int))) : ww_C g wy_X7_isPart 2 0 0 [.ref x, .int p] M (ww_ret (some (.int 0)) M) ww_no := by
  have h := m_isPart (g := g) hM hn h6 p
  rw [ww_b_f hp] at h
  exact h
set_option maxRecDepth 20000 in
theorem m_kindCode_f (hM : ww_mo x ar M.1 M.2.2.1) (hn : ww_I M 321 x = nI n) (h6 : n ≤ 60) {p : Int32} (k : Int32) (hp : ¬ (0 ≤ p.toInt ∧ p.toInt < (n : Int))) : ww_C g wy_X7_kindCode 3 0 0 [.ref x, .int p, .int k] M (ww_ret (some (.int 1)) M) ww_no := by
  refine ww_ent (by decide +kernel) (Nat.le_of_ble_eq_true rfl) ⟨rfl, rfl, rfl, trivial⟩ ?_
  refine ww_aload_n (i := 0) dX7_kindCode_0 rfl rfl ?_
  refine ww_iload_n (i := 1) dX7_kindCode_1 rfl rfl ?_
  refine ww_callV (κ := 8) (r := (RX7, TX7, 33)) wk_X7_109 dX7_kindCode_2 (m_isPart_f hM hn h6 hp) rfl rfl (show ww_is _ _ 8 from hM.1).1 (show ww_is _ _ 8 from hM.1).2 rfl rfl (by omega) (by omega) (by omega) (by first | exact Nat.le_of_ble_eq_true rfl | (simp [ww_rf_cat, Value.category])) rfl (fun E M9 h9 => h9.elim) (fun v9 M9 h9 => ?_)
  obtain ⟨rfl, rfl⟩ := h9
  refine ww_if_ne_f (tgt := 12) dX7_kindCode_5 (by decide) (by decide) ?_
  refine ww_iconst (v := 1) dX7_kindCode_8 (by decide) ?_
  refine ww_goto (tgt := 27) dX7_kindCode_9 (by decide) ?_
  exact ww_ireturn dX7_kindCode_27 rfl (by first | rfl | exact ww_b_nar) ⟨rfl, rfl⟩
set_option maxRecDepth 20000 in
theorem m_kindCode_t (hM : ww_mo x ar M.1 M.2.2.1) (hn : ww_I M 321 x = nI n) (h6 : n ≤ 60) {j : Nat} (hj : j < n) (k : Int32) : ww_C g wy_X7_kindCode 3 0 0 [.ref x, .int (nI j), .int k] M (ww_ret (some (.int (if ww_X M (ar 2) j = k then 0 else 2))) M) ww_no := by
  refine ww_ent (by decide +kernel) (Nat.le_of_ble_eq_true rfl) ⟨rfl, rfl, rfl, trivial⟩ ?_
  by_cases h : ww_X M (ar 2) j = k
  · rw [if_pos h]
    refine ww_aload_n (i := 0) dX7_kindCode_0 rfl rfl ?_
    refine ww_iload_n (i := 1) dX7_kindCode_1 rfl rfl ?_
    refine ww_callV (κ := 8) (r := (RX7, TX7, 33)) wk_X7_109 dX7_kindCode_2 (m_isPart_t hM hn h6 hj) rfl rfl (show ww_is _ _ 8 from hM.1).1 (show ww_is _ _ 8 from hM.1).2 rfl rfl (by omega) (by omega) (by omega) (by first | exact Nat.le_of_ble_eq_true rfl | (simp [ww_rf_cat, Value.category])) rfl (fun E M9 h9 => h9.elim) (fun v9 M9 h9 => ?_)
    obtain ⟨rfl, rfl⟩ := h9
    refine ww_if_ne_t (tgt := 12) dX7_kindCode_5 (by decide) (by decide) ?_
    refine ww_aload_n (i := 0) dX7_kindCode_12 rfl rfl ?_
    refine ww_getR (f := 322) wf_X7_7 dX7_kindCode_13 rfl rfl hM.1.1 hM.1.2 (hM.2.1 2 rfl) ?_
    refine ww_iload_n (i := 1) dX7_kindCode_16 rfl rfl ?_
    refine ww_mald (k := 2) hM dX7_kindCode_17 rfl rfl rfl (show _ < 60 by omega) ?_
    refine ww_iload_n (i := 2) dX7_kindCode_18 rfl rfl ?_
    refine ww_icmp_ne_f (tgt := 26) dX7_kindCode_19 (by decide) h ?_
    refine ww_iconst (v := 0) dX7_kindCode_22 (by decide) ?_
    refine ww_goto (tgt := 27) dX7_kindCode_23 (by decide) ?_
    exact ww_ireturn dX7_kindCode_27 rfl (by first | rfl | exact ww_b_nar) ⟨rfl, rfl⟩
  · rw [if_neg h]
    refine ww_aload_n (i := 0) dX7_kindCode_0 rfl rfl ?_
    refine ww_iload_n (i := 1) dX7_kindCode_1 rfl rfl ?_
    refine ww_callV (κ := 8) (r := (RX7, TX7, 33)) wk_X7_109 dX7_kindCode_2 (m_isPart_t hM hn h6 hj) rfl rfl (show ww_is _ _ 8 from hM.1).1 (show ww_is _ _ 8 from hM.1).2 rfl rfl (by omega) (by omega) (by omega) (by first | exact Nat.le_of_ble_eq_true rfl | (simp [ww_rf_cat, Value.category])) rfl (fun E M9 h9 => h9.elim) (fun v9 M9 h9 => ?_)
    obtain ⟨rfl, rfl⟩ := h9
    refine ww_if_ne_t (tgt := 12) dX7_kindCode_5 (by decide) (by decide) ?_
    refine ww_aload_n (i := 0) dX7_kindCode_12 rfl rfl ?_
    refine ww_getR (f := 322) wf_X7_7 dX7_kindCode_13 rfl rfl hM.1.1 hM.1.2 (hM.2.1 2 rfl) ?_
    refine ww_iload_n (i := 1) dX7_kindCode_16 rfl rfl ?_
    refine ww_mald (k := 2) hM dX7_kindCode_17 rfl rfl rfl (show _ < 60 by omega) ?_
    refine ww_iload_n (i := 2) dX7_kindCode_18 rfl rfl ?_
    refine ww_icmp_ne_t (tgt := 26) dX7_kindCode_19 (by decide) h ?_
    refine ww_iconst (v := 2) dX7_kindCode_26 (by decide) ?_
    exact ww_ireturn dX7_kindCode_27 rfl (by first | rfl | exact ww_b_nar) ⟨rfl, rfl⟩
set_option maxRecDepth 20000 in
theorem m_headOf (hM : ww_mo x ar M.1 M.2.2.1) (hg : q_gh n (ww_X M (ar 2)) (ww_X M (ar 5))) (h6 : n ≤ 60) {p : Nat} (hp : p < n) : ww_C g wy_X7_headOf 1 0 0 [.ref x, .int (nI p)] M (ww_ret (some (.int (nI (q_hd (ww_X M (ar 5)) 5 p)))) M) ww_no := by
  refine ww_ent (by decide +kernel) (Nat.le_of_ble_eq_true rfl) ⟨rfl, rfl, trivial⟩ ?_
  have loop : ∀ (f q r : Nat), q < n → (ww_X M (ar 2) q).toInt < f → r = q_hd (ww_X M (ar 5)) f q → ww_A g wy_X7_headOf 1 0 0 M 2 [(0, .ref x), (1, .int (nI p)), (2, .int (nI q))] [] (ww_ret (some (.int (nI r))) M) ww_no := by
    intro f
    induction f with
    | zero =>
      intro q r hq hf hr
      have := q_gh_kd hg hq
      omega
    | succ f ih =>
      intro q r hq hf hr
      rcases q_gh_cases hg h6 hq with h1 | ⟨q2, hq2, e, hlt⟩
      · rw [q_hd_neg h1] at hr
        subst hr
        refine ww_aload_n (i := 0) dX7_headOf_2 rfl rfl ?_
        refine ww_getR (f := 325) wf_X7_19 dX7_headOf_3 rfl rfl hM.1.1 hM.1.2 (hM.2.1 5 rfl) ?_
        refine ww_iload_n (i := 2) dX7_headOf_6 rfl rfl ?_
        refine ww_mald (k := 5) hM dX7_headOf_7 rfl rfl rfl (show _ < 60 by omega) ?_
        refine ww_if_lt_t (tgt := 21) dX7_headOf_8 (by decide) h1 ?_
        refine ww_iload_n (i := 2) dX7_headOf_21 rfl rfl ?_
        exact ww_ireturn dX7_headOf_22 rfl (by first | rfl | exact ww_b_nar) ⟨rfl, rfl⟩
      · rw [q_hd_pos e (by omega)] at hr
        have h1 : ¬ ww_X M (ar 5) q < 0 := by rw [e]; exact nI_pos (by omega)
        refine ww_aload_n (i := 0) dX7_headOf_2 rfl rfl ?_
        refine ww_getR (f := 325) wf_X7_19 dX7_headOf_3 rfl rfl hM.1.1 hM.1.2 (hM.2.1 5 rfl) ?_
        refine ww_iload_n (i := 2) dX7_headOf_6 rfl rfl ?_
        refine ww_mald (k := 5) hM dX7_headOf_7 rfl rfl rfl (show _ < 60 by omega) ?_
        refine ww_if_lt_f (tgt := 21) dX7_headOf_8 (by decide) h1 ?_
        refine ww_aload_n (i := 0) dX7_headOf_11 rfl rfl ?_
        refine ww_getR (f := 325) wf_X7_19 dX7_headOf_12 rfl rfl hM.1.1 hM.1.2 (hM.2.1 5 rfl) ?_
        refine ww_iload_n (i := 2) dX7_headOf_15 rfl rfl ?_
        refine ww_mald (k := 5) hM dX7_headOf_16 rfl rfl rfl (show _ < 60 by omega) ?_
        refine ww_istore_n (i := 2) (lv2 := [(0, _), (1, _), (2, _)]) dX7_headOf_17 rfl (Nat.le_of_ble_eq_true rfl) rfl ?_
        refine ww_goto (tgt := 2) dX7_headOf_18 (by decide) ?_
        -- at 2, locals [0, 1, 2]
        rw [e]
        exact ih q2 r hq2 (by omega) hr
  refine ww_iload_n (i := 1) dX7_headOf_0 rfl rfl ?_
  refine ww_istore_n (i := 2) (lv2 := [(0, _), (1, _), (2, _)]) dX7_headOf_1 rfl (Nat.le_of_ble_eq_true rfl) rfl ?_
  -- at 2, locals [0, 1, 2]
  exact loop 5 p _ hp (q_gh_kd hg hp).2 rfl
set_option maxRecDepth 20000 in
theorem m_isBound (hM : ww_mo x ar M.1 M.2.2.1) (hg : q_gh n (ww_X M (ar 2)) (ww_X M (ar 5))) (h6 : n ≤ 60) {p : Nat} (hp : p < n) (hb : narrow .boolean (.int (ww_X M (ar 12) (q_hd (ww_X M (ar 5)) 5 p))) = .int (ww_X M (ar 12) (q_hd (ww_X M (ar 5)) 5 p))) : ww_C g wy_X7_isBound 2 0 0 [.ref x, .int (nI p)] M (ww_ret (some (.int (ww_X M (ar 12) (q_hd (ww_X M (ar 5)) 5 p)))) M) ww_no := by
  refine ww_ent (by decide +kernel) (Nat.le_of_ble_eq_true rfl) ⟨rfl, rfl, trivial⟩ ?_
  have hlt := q_hd_lt hg h6 5 p hp
  refine ww_aload_n (i := 0) dX7_isBound_0 rfl rfl ?_
  refine ww_getR (f := 332) wf_X7_41 dX7_isBound_1 rfl rfl hM.1.1 hM.1.2 (hM.2.1 12 rfl) ?_
  refine ww_aload_n (i := 0) dX7_isBound_4 rfl rfl ?_
  refine ww_iload_n (i := 1) dX7_isBound_5 rfl rfl ?_
  refine ww_callV (κ := 8) (r := (RX7, TX7, 33)) wk_X7_114 dX7_isBound_6 (m_headOf hM hg h6 hp) rfl rfl (show ww_is _ _ 8 from hM.1).1 (show ww_is _ _ 8 from hM.1).2 rfl rfl (by omega) (by omega) (by omega) (by first | exact Nat.le_of_ble_eq_true rfl | (simp [ww_rf_cat, Value.category])) rfl (fun E M9 h9 => h9.elim) (fun v9 M9 h9 => ?_)
  obtain ⟨rfl, rfl⟩ := h9
  refine ww_mzld (k := 12) hM dX7_isBound_9 rfl rfl rfl (show _ < 60 by omega) ?_
  -- at 10, locals [0, 1]
  exact ww_ireturn dX7_isBound_10 rfl hb ⟨rfl, rfl⟩
set_option maxRecDepth 20000 in
theorem m_isIn (hM : ww_mo x ar M.1 M.2.2.1) (hg : q_gh n (ww_X M (ar 2)) (ww_X M (ar 5))) (h6 : n ≤ 60) {p t : Nat} (hp : p < n) (ht : t < n) (ht0 : ww_X M (ar 5) t < 0) : ww_C g wy_X7_isIn 2 0 0 [.ref x, .int (nI p), .int (nI t)] M (ww_ret (some (.int (ww_b (q_hd (ww_X M (ar 5)) 5 p = t)))) M) ww_no := by
  refine ww_ent (by decide +kernel) (Nat.le_of_ble_eq_true rfl) ⟨rfl, rfl, rfl, trivial⟩ ?_
  have hlt := q_hd_lt hg h6 5 p hp
  by_cases hs : ww_X M (ar 5) p = -2
  · have e : q_hd (ww_X M (ar 5)) 5 p = p := q_hd_neg (by rw [hs]; decide)
    rw [e]
    by_cases h : p = t
    · subst h
      rw [ww_b_t rfl]
      refine ww_aload_n (i := 0) dX7_isIn_0 rfl rfl ?_
      refine ww_getR (f := 325) wf_X7_19 dX7_isIn_1 rfl rfl hM.1.1 hM.1.2 (hM.2.1 5 rfl) ?_
      refine ww_iload_n (i := 1) dX7_isIn_4 rfl rfl ?_
      refine ww_mald (k := 5) hM dX7_isIn_5 rfl rfl rfl (show _ < 60 by omega) ?_
      refine ww_bipush (v := (-2)) dX7_isIn_6 (by decide) ?_
      refine ww_icmp_eq_t (tgt := 20) dX7_isIn_8 (by decide) hs ?_
      refine ww_iload_n (i := 1) dX7_isIn_20 rfl rfl ?_
      refine ww_iload_n (i := 2) dX7_isIn_21 rfl rfl ?_
      refine ww_icmp_ne_f (tgt := 29) dX7_isIn_22 (by decide) rfl ?_
      refine ww_iconst (v := 1) dX7_isIn_25 (by decide) ?_
      refine ww_goto (tgt := 30) dX7_isIn_26 (by decide) ?_
      exact ww_ireturn dX7_isIn_30 rfl (by first | rfl | exact ww_b_nar) ⟨rfl, rfl⟩
    · rw [ww_b_f h]
      have h' : ¬ nI p = nI t := fun z => h ((nI_eq (by omega) (by omega)).mp z)
      refine ww_aload_n (i := 0) dX7_isIn_0 rfl rfl ?_
      refine ww_getR (f := 325) wf_X7_19 dX7_isIn_1 rfl rfl hM.1.1 hM.1.2 (hM.2.1 5 rfl) ?_
      refine ww_iload_n (i := 1) dX7_isIn_4 rfl rfl ?_
      refine ww_mald (k := 5) hM dX7_isIn_5 rfl rfl rfl (show _ < 60 by omega) ?_
      refine ww_bipush (v := (-2)) dX7_isIn_6 (by decide) ?_
      refine ww_icmp_eq_t (tgt := 20) dX7_isIn_8 (by decide) hs ?_
      refine ww_iload_n (i := 1) dX7_isIn_20 rfl rfl ?_
      refine ww_iload_n (i := 2) dX7_isIn_21 rfl rfl ?_
      refine ww_icmp_ne_t (tgt := 29) dX7_isIn_22 (by decide) h' ?_
      refine ww_iconst (v := 0) dX7_isIn_29 (by decide) ?_
      exact ww_ireturn dX7_isIn_30 rfl (by first | rfl | exact ww_b_nar) ⟨rfl, rfl⟩
  · by_cases h : q_hd (ww_X M (ar 5)) 5 p = t
    · rw [ww_b_t h]
      refine ww_aload_n (i := 0) dX7_isIn_0 rfl rfl ?_
      refine ww_getR (f := 325) wf_X7_19 dX7_isIn_1 rfl rfl hM.1.1 hM.1.2 (hM.2.1 5 rfl) ?_
      refine ww_iload_n (i := 1) dX7_isIn_4 rfl rfl ?_
      refine ww_mald (k := 5) hM dX7_isIn_5 rfl rfl rfl (show _ < 60 by omega) ?_
      refine ww_bipush (v := (-2)) dX7_isIn_6 (by decide) ?_
      refine ww_icmp_eq_f (tgt := 20) dX7_isIn_8 (by decide) hs ?_
      refine ww_aload_n (i := 0) dX7_isIn_11 rfl rfl ?_
      refine ww_iload_n (i := 1) dX7_isIn_12 rfl rfl ?_
      refine ww_callV (κ := 8) (r := (RX7, TX7, 33)) wk_X7_114 dX7_isIn_13 (m_headOf hM hg h6 hp) rfl rfl (show ww_is _ _ 8 from hM.1).1 (show ww_is _ _ 8 from hM.1).2 rfl rfl (by omega) (by omega) (by omega) (by first | exact Nat.le_of_ble_eq_true rfl | (simp [ww_rf_cat, Value.category])) rfl (fun E M9 h9 => h9.elim) (fun v9 M9 h9 => ?_)
      obtain ⟨rfl, rfl⟩ := h9
      refine ww_iload_n (i := 2) dX7_isIn_16 rfl rfl ?_
      refine ww_icmp_eq_t (tgt := 25) dX7_isIn_17 (by decide) (congrArg nI h) ?_
      refine ww_iconst (v := 1) dX7_isIn_25 (by decide) ?_
      refine ww_goto (tgt := 30) dX7_isIn_26 (by decide) ?_
      exact ww_ireturn dX7_isIn_30 rfl (by first | rfl | exact ww_b_nar) ⟨rfl, rfl⟩
    · rw [ww_b_f h]
      have h' : ¬ nI (q_hd (ww_X M (ar 5)) 5 p) = nI t := fun z => h ((nI_eq (by omega) (by omega)).mp z)
      have h2 : ¬ nI p = nI t := fun z => by
        have e : p = t := (nI_eq (by omega) (by omega)).mp z
        subst e
        exact h (q_hd_neg ht0)
      refine ww_aload_n (i := 0) dX7_isIn_0 rfl rfl ?_
      refine ww_getR (f := 325) wf_X7_19 dX7_isIn_1 rfl rfl hM.1.1 hM.1.2 (hM.2.1 5 rfl) ?_
      refine ww_iload_n (i := 1) dX7_isIn_4 rfl rfl ?_
      refine ww_mald (k := 5) hM dX7_isIn_5 rfl rfl rfl (show _ < 60 by omega) ?_
      refine ww_bipush (v := (-2)) dX7_isIn_6 (by decide) ?_
      refine ww_icmp_eq_f (tgt := 20) dX7_isIn_8 (by decide) hs ?_
      refine ww_aload_n (i := 0) dX7_isIn_11 rfl rfl ?_
      refine ww_iload_n (i := 1) dX7_isIn_12 rfl rfl ?_
      refine ww_callV (κ := 8) (r := (RX7, TX7, 33)) wk_X7_114 dX7_isIn_13 (m_headOf hM hg h6 hp) rfl rfl (show ww_is _ _ 8 from hM.1).1 (show ww_is _ _ 8 from hM.1).2 rfl rfl (by omega) (by omega) (by omega) (by first | exact Nat.le_of_ble_eq_true rfl | (simp [ww_rf_cat, Value.category])) rfl (fun E M9 h9 => h9.elim) (fun v9 M9 h9 => ?_)
      obtain ⟨rfl, rfl⟩ := h9
      refine ww_iload_n (i := 2) dX7_isIn_16 rfl rfl ?_
      refine ww_icmp_eq_f (tgt := 25) dX7_isIn_17 (by decide) h' ?_
      refine ww_iload_n (i := 1) dX7_isIn_20 rfl rfl ?_
      refine ww_iload_n (i := 2) dX7_isIn_21 rfl rfl ?_
      refine ww_icmp_ne_t (tgt := 29) dX7_isIn_22 (by decide) h2 ?_
      refine ww_iconst (v := 0) dX7_isIn_29 (by decide) ?_
      exact ww_ireturn dX7_isIn_30 rfl (by first | rfl | exact ww_b_nar) ⟨rfl, rfl⟩
end WWN
