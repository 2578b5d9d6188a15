/-! ===== run ===== -/
theorem q_go_n {S : Nat → Nat → Int32} {p i k : Nat} {d s : Int32} (h : i ≠ p) : q_go S p d s k i = S k i := by
  have e : ∀ (T : Nat → Nat → Int32) (a : Nat) (v : Int32), ww_u2 T a p v k i = T k i := fun T a v => ww_u2n (fun z => h z.2)
  unfold q_go
  rw [e]
  by_cases c : S 2 p = 3
  · rw [if_pos c]; unfold q_goW; rw [e, e, e, e, e]
  · rw [if_neg c]; unfold q_goK; rw [e, e]
theorem q_go_k {S : Nat → Nat → Int32} {p i k : Nat} {d s : Int32} (h : ¬ (k = 6 ∨ k = 7 ∨ k = 13 ∨ k = 14 ∨ k = 15 ∨ k = 18)) : q_go S p d s k i = S k i := by
  have e : ∀ (T : Nat → Nat → Int32) (a : Nat) (v : Int32), a ≠ k → ww_u2 T a p v k i = T k i := fun T a v ha => ww_u2n (fun z => ha z.1.symm)
  unfold q_go
  rw [e _ _ _ (by omega)]
  by_cases c : S 2 p = 3
  · rw [if_pos c]; unfold q_goW; rw [e _ _ _ (by omega), e _ _ _ (by omega), e _ _ _ (by omega), e _ _ _ (by omega), e _ _ _ (by omega)]
  · rw [if_neg c]; unfold q_goK; rw [e _ _ _ (by omega), e _ _ _ (by omega)]
theorem q_go_p {S S1 : Nat → Nat → Int32} {p k : Nat} {d s : Int32} (h : ∀ k, S1 k p = S k p) : q_go S1 p d s k p = q_go S p d s k p := by
  unfold q_go q_goN q_goW q_goK
  rw [h 2, h 18, h 6, h 19, h 7, h 15, h 13, h 14]
  unfold ww_u2
  by_cases c : S 2 p = 3
  · rw [if_pos c, if_pos c]
    simp only [h]
  · rw [if_neg c, if_neg c]
    simp only [h]
/-- the parts from m on that stand in t have gone -/
noncomputable def q_r1 (S : Nat → Nat → Int32) (n t : Nat) (d s : Int32) (m : Nat) : Nat → Nat → Int32 := fun k i => q_if (m ≤ i ∧ i < n ∧ q_hd (S 5) 5 i = t) (q_go S i d s k i) (S k i)
theorem q_r1_k {S : Nat → Nat → Int32} {n t m k : Nat} {d s : Int32} (h : ¬ (k = 6 ∨ k = 7 ∨ k = 13 ∨ k = 14 ∨ k = 15 ∨ k = 18)) : q_r1 S n t d s m k = S k := by
  funext i
  unfold q_r1
  by_cases c : m ≤ i ∧ i < n ∧ q_hd (S 5) 5 i = t
  · rw [q_if_t c, q_go_k h]
  · rw [q_if_f c]
theorem q_r1_n {S : Nat → Nat → Int32} {n t : Nat} {d s : Int32} : q_r1 S n t d s n = S := by
  funext k i
  exact q_if_f (fun z => by omega)
theorem q_r1_t {S : Nat → Nat → Int32} {n t m : Nat} {d s : Int32} (hm : m < n) (h : q_hd (S 5) 5 m = t) : q_go (q_r1 S n t d s (m + 1)) m d s = q_r1 S n t d s m := by
  funext k i
  have e : ∀ k, q_r1 S n t d s (m + 1) k m = S k m := fun k => q_if_f (fun z => by omega)
  by_cases c : i = m
  · subst c
    rw [q_go_p e]
    exact (q_if_t ⟨Nat.le_refl _, hm, h⟩).symm
  · rw [q_go_n c]
    exact q_if_cg ⟨fun z => ⟨by omega, z.2⟩, fun z => ⟨by omega, z.2⟩⟩
theorem q_r1_f {S : Nat → Nat → Int32} {n t m : Nat} {d s : Int32} (h : ¬ q_hd (S 5) 5 m = t) : q_r1 S n t d s (m + 1) = q_r1 S n t d s m := by
  funext k i
  refine q_if_cg ⟨fun z => ⟨by omega, z.2⟩, fun z => ⟨?_, z.2⟩⟩
  have : i ≠ m := fun y => h (y ▸ z.2.2)
  omega
theorem q_G_r {S S1 : Nat → Nat → Int32} {n : Nat} (h : q_G S n) (h1 : S1 1 0 = S 1 0) (h2 : S1 2 = S 2) (h5 : S1 5 = S 5) (h9 : q_bool S1 9) (h10 : q_bool S1 10) (h11 : q_bool S1 11) (h12 : q_bool S1 12) (h17 : q_bool S1 17) : q_G S1 n := by
  obtain ⟨a1, a2, a3, a4, a5, a6, a7, a8⟩ := h
  exact ⟨h1.trans a1, a2, by rw [h2, h5]; exact a3, h9, h10, h11, h12, h17⟩
theorem q_G_r1 {S : Nat → Nat → Int32} {n t m : Nat} {d s : Int32} (h : q_G S n) : q_G (q_r1 S n t d s m) n := by
  refine q_G_r h ?_ (q_r1_k (by decide)) (q_r1_k (by decide)) ?_ ?_ ?_ ?_ ?_
  · rw [q_r1_k (by decide)]
  · intro i; rw [q_r1_k (by decide)]; exact h.2.2.2.1 i
  · intro i; rw [q_r1_k (by decide)]; exact h.2.2.2.2.1 i
  · intro i; rw [q_r1_k (by decide)]; exact h.2.2.2.2.2.1 i
  · intro i; rw [q_r1_k (by decide)]; exact h.2.2.2.2.2.2.1 i
  · intro i; rw [q_r1_k (by decide)]; exact h.2.2.2.2.2.2.2 i
/-- and those below m of them are held -/
noncomputable def q_r2 (S : Nat → Nat → Int32) (t m : Nat) : Nat → Nat → Int32 := fun k i => q_if (k = 9 ∧ i < m ∧ q_hd (S 5) 5 i = t) 1 (S k i)
theorem q_r2_k {S : Nat → Nat → Int32} {t m k : Nat} (h : k ≠ 9) : q_r2 S t m k = S k := by
  funext i
  exact q_if_f (fun z => h z.1)
theorem q_r2_0 {S : Nat → Nat → Int32} {t : Nat} : q_r2 S t 0 = S := by
  funext k i
  exact q_if_f (fun z => by omega)
theorem q_r2_s {S : Nat → Nat → Int32} {t m : Nat} {v : Int32} (h : (v = 1 ∧ (S 9 m = 1 ∨ q_hd (S 5) 5 m = t)) ∨ (v = 0 ∧ S 9 m = 0 ∧ ¬ q_hd (S 5) 5 m = t)) : ww_u2 (q_r2 S t m) 9 m v = q_r2 S t (m + 1) := by
  funext k i
  by_cases c : k = 9 ∧ i = m
  · obtain ⟨rfl, rfl⟩ := c
    rw [ww_u2s]
    unfold q_r2
    rcases h with ⟨rfl, h⟩ | ⟨rfl, h, h'⟩
    · by_cases c2 : q_hd (S 5) 5 i = t
      · rw [q_if_t ⟨rfl, by omega, c2⟩]
      · rw [q_if_f (fun z => c2 z.2.2)]; exact (h.resolve_right c2).symm
    · rw [q_if_f (fun z => h' z.2.2)]; exact h.symm
  · rw [ww_u2n c]
    refine q_if_cg ⟨fun z => ⟨z.1, by omega, z.2.2⟩, fun z => ⟨z.1, ?_, z.2.2⟩⟩
    have : i ≠ m := fun y => c ⟨z.1, y⟩
    omega
theorem q_G_r2 {S : Nat → Nat → Int32} {n t m : Nat} (h : q_G S n) : q_G (q_r2 S t m) n := by
  refine q_G_r h ?_ (q_r2_k (by decide)) (q_r2_k (by decide)) ?_ ?_ ?_ ?_ ?_
  · rw [q_r2_k (by decide)]
  · intro i
    unfold q_r2
    by_cases c : (9 : Nat) = 9 ∧ i < m ∧ q_hd (S 5) 5 i = t
    · rw [q_if_t c]; exact Or.inr rfl
    · rw [q_if_f c]; exact h.2.2.2.1 i
  · intro i; rw [q_r2_k (by decide)]; exact h.2.2.2.2.1 i
  · intro i; rw [q_r2_k (by decide)]; exact h.2.2.2.2.2.1 i
  · intro i; rw [q_r2_k (by decide)]; exact h.2.2.2.2.2.2.1 i
  · intro i; rw [q_r2_k (by decide)]; exact h.2.2.2.2.2.2.2 i
def q_oi : Option Nat → Int32
  | none => -1
  | some i => nI i
/-- it stands in t and its flaw has come to 100 -/
def q_bad (S : Nat → Nat → Int32) (t : Nat) (d s : Int32) (i : Nat) : Prop := q_hd (S 5) 5 i = t ∧ ¬ q_go S i d s 18 i < 100
section WWX
variable {g : ww_G} {M M1 : ww_M} {x : Nat} {ar : Nat → Nat} {n w t : Nat} {S S1 : Nat → Nat → Int32} {d s : Int32} {Q : Option Value → ww_M → Prop}
set_option maxRecDepth 20000 in
set_option maxHeartbeats 4000000 in
theorem m_run_l1 (hM : ww_mo x ar M.1 M.2.2.1) (hG : q_G S n) (ht : t < n) (ht0 : S 5 t < 0) (kk : ∀ M2, ww_up x ar M (q_r1 S n t d s 0) M2 → ww_A g wy_X7_run 4 0 0 M2 146 [(0, .ref x), (1, .int (nI t)), (4, .int (q_oi (q_ff (q_bad S t d s) n 0)))] [] Q ww_no) : ∀ (m : Nat) (M1 : ww_M), m ≤ n → ww_up x ar M (q_r1 S n t d s m) M1 → ww_A g wy_X7_run 4 0 0 M1 96 [(0, .ref x), (1, .int (nI t)), (2, .int d), (3, .int s), (4, .int (q_oi (q_ff (q_bad S t d s) (n - m) m))), (5, .int (nI m - 1))] [] Q ww_no
  | 0, M1, hm, hu => by
    refine ww_iload (i := 5) dX7_run_96 rfl ?_
    refine ww_if_lt_t (tgt := 146) dX7_run_98 (by decide) (by decide) ?_
    -- at 146, locals [0, 1, 2, 3, 4, 5]
    exact ww_subk (kk M1 hu) ⟨rfl, rfl, rfl, trivial⟩
  | m + 1, M1, hm, hu => by
    have h6 := hG.2.1
    have e5 : q_r1 S n t d s (m + 1) 5 = S 5 := q_r1_k (by decide)
    have ht1 : q_r1 S n t d s (m + 1) 5 t < 0 := by rw [e5]; exact ht0
    have en : n - m = (n - (m + 1)) + 1 := by omega
    rw [nI_succ, Int32.add_sub_cancel]
    by_cases c1 : q_hd (S 5) 5 m = t
    · have c1' : q_hd (q_r1 S n t d s (m + 1) 5) 5 m = t := by rw [e5]; exact c1
      refine ww_iload (i := 5) dX7_run_96 rfl ?_
      refine ww_if_lt_f (tgt := 146) dX7_run_98 (by decide) (nI_pos (by omega)) ?_
      refine ww_aload_n (i := 0) dX7_run_101 rfl rfl ?_
      refine ww_iload (i := 5) dX7_run_102 rfl ?_
      refine ww_iload_n (i := 1) dX7_run_104 rfl rfl ?_
      refine ww_callV (κ := 8) (r := (RX7, TX7, 33)) wk_X7_151 dX7_run_105 (u_isIn hM hu (q_G_r1 hG) (by omega) ht ht1) rfl rfl (show ww_is _ _ 8 from (ww_up_mo hM hu).1).1 (show ww_is _ _ 8 from (ww_up_mo hM hu).1).2 rfl rfl (by omega) (by omega) (by omega) (by first | exact Nat.le_of_ble_eq_true rfl | (simp [ww_rf_cat, Value.category])) rfl (fun E M9 h9 => h9.elim) (fun v9 M9 h9 => ?_)
      obtain ⟨rfl, rfl⟩ := h9
      refine ww_if_eq_f (tgt := 140) dX7_run_108 (by decide) (by rw [ww_b_t c1']; decide) ?_
      refine ww_aload_n (i := 0) dX7_run_111 rfl rfl ?_
      refine ww_iload (i := 5) dX7_run_112 rfl ?_
      refine ww_iload_n (i := 2) dX7_run_114 rfl rfl ?_
      refine ww_iload_n (i := 3) dX7_run_115 rfl rfl ?_
      refine ww_callV (κ := 8) (r := (RX7, TX7, 33)) wk_X7_155 dX7_run_116 (u_goes hM hu (by omega) d s) rfl rfl (show ww_is _ _ 8 from (ww_up_mo hM hu).1).1 (show ww_is _ _ 8 from (ww_up_mo hM hu).1).2 rfl rfl (by omega) (by omega) (by omega) (by first | exact Nat.le_of_ble_eq_true rfl | (simp [ww_rf_cat, Value.category])) rfl (fun E M9 h9 => h9.elim) (fun v9 M9 h9 => ?_)
      obtain ⟨rfl, hu⟩ := h9
      -- at 119, locals [0, 1, 2, 3, 4, 5]
      rw [q_r1_t (by omega) c1] at hu
      have e18 : q_r1 S n t d s m 18 m = q_go S m d s 18 m := q_if_t ⟨Nat.le_refl _, by omega, c1⟩
      by_cases c2 : q_go S m d s 18 m < 100
      · refine ww_aload_n (i := 0) dX7_run_119 rfl rfl ?_
        refine ww_getR (f := 338) wf_X7_59 dX7_run_120 rfl rfl (ww_up_mo hM hu).1.1 (ww_up_mo hM hu).1.2 ((ww_up_mo hM hu).2.1 18 rfl) ?_
        refine ww_iload (i := 5) dX7_run_123 rfl ?_
        refine ww_pald (k := 18) hM hu dX7_run_125 rfl rfl rfl (show _ < 60 by omega) e18 ?_
        refine ww_bipush (v := 100) dX7_run_126 (by decide) ?_
        refine ww_icmp_lt_t (tgt := 136) dX7_run_128 (by decide) c2 ?_
        refine ww_iload (i := 4) dX7_run_136 rfl ?_
        refine ww_istore (i := 4) (lv2 := [(0, _), (1, _), (2, _), (3, _), (4, _), (5, _)]) dX7_run_138 (Nat.le_of_ble_eq_true rfl) rfl ?_
        refine ww_iinc (i := 5) (v := _ + (-1)) (lv2 := [(0, _), (1, _), (2, _), (3, _), (4, _), (5, _)]) dX7_run_140 rfl (by rfl) (Nat.le_of_ble_eq_true rfl) rfl ?_
        refine ww_goto (tgt := 96) dX7_run_143 (by decide) ?_
        -- at 96, locals [0, 1, 2, 3, 4, 5]
        have e : q_ff (q_bad S t d s) (n - (m + 1)) (m + 1) = q_ff (q_bad S t d s) (n - m) m := by rw [en, q_ff_f (fun z => z.2 c2)]
        rw [e]
        rw [show nI m + -1 = nI m - 1 by rw [Int32.sub_eq_add_neg]]
        exact m_run_l1 hM hG ht ht0 kk m _ (by omega) hu
      · refine ww_aload_n (i := 0) dX7_run_119 rfl rfl ?_
        refine ww_getR (f := 338) wf_X7_59 dX7_run_120 rfl rfl (ww_up_mo hM hu).1.1 (ww_up_mo hM hu).1.2 ((ww_up_mo hM hu).2.1 18 rfl) ?_
        refine ww_iload (i := 5) dX7_run_123 rfl ?_
        refine ww_pald (k := 18) hM hu dX7_run_125 rfl rfl rfl (show _ < 60 by omega) e18 ?_
        refine ww_bipush (v := 100) dX7_run_126 (by decide) ?_
        refine ww_icmp_lt_f (tgt := 136) dX7_run_128 (by decide) c2 ?_
        refine ww_iload (i := 5) dX7_run_131 rfl ?_
        refine ww_goto (tgt := 138) dX7_run_133 (by decide) ?_
        refine ww_istore (i := 4) (lv2 := [(0, _), (1, _), (2, _), (3, _), (4, _), (5, _)]) dX7_run_138 (Nat.le_of_ble_eq_true rfl) rfl ?_
        refine ww_iinc (i := 5) (v := _ + (-1)) (lv2 := [(0, _), (1, _), (2, _), (3, _), (4, _), (5, _)]) dX7_run_140 rfl (by rfl) (Nat.le_of_ble_eq_true rfl) rfl ?_
        refine ww_goto (tgt := 96) dX7_run_143 (by decide) ?_
        -- at 96, locals [0, 1, 2, 3, 4, 5]
        have e : nI m = q_oi (q_ff (q_bad S t d s) (n - m) m) := by rw [en, q_ff_t ⟨c1, c2⟩]; rfl
        have h := m_run_l1 hM hG ht ht0 kk m _ (by omega) hu
        rw [← e] at h
        rw [show nI m + -1 = nI m - 1 by rw [Int32.sub_eq_add_neg]]
        exact h
    · have c1' : ¬ q_hd (q_r1 S n t d s (m + 1) 5) 5 m = t := by rw [e5]; exact c1
      refine ww_iload (i := 5) dX7_run_96 rfl ?_
      refine ww_if_lt_f (tgt := 146) dX7_run_98 (by decide) (nI_pos (by omega)) ?_
      refine ww_aload_n (i := 0) dX7_run_101 rfl rfl ?_
      refine ww_iload (i := 5) dX7_run_102 rfl ?_
      refine ww_iload_n (i := 1) dX7_run_104 rfl rfl ?_
      refine ww_callV (κ := 8) (r := (RX7, TX7, 33)) wk_X7_151 dX7_run_105 (u_isIn hM hu (q_G_r1 hG) (by omega) ht ht1) rfl rfl (show ww_is _ _ 8 from (ww_up_mo hM hu).1).1 (show ww_is _ _ 8 from (ww_up_mo hM hu).1).2 rfl rfl (by omega) (by omega) (by omega) (by first | exact Nat.le_of_ble_eq_true rfl | (simp [ww_rf_cat, Value.category])) rfl (fun E M9 h9 => h9.elim) (fun v9 M9 h9 => ?_)
      obtain ⟨rfl, rfl⟩ := h9
      refine ww_if_eq_t (tgt := 140) dX7_run_108 (by decide) (ww_b_f c1') ?_
      refine ww_iinc (i := 5) (v := _ + (-1)) (lv2 := [(0, _), (1, _), (2, _), (3, _), (4, _), (5, _)]) dX7_run_140 rfl (by rfl) (Nat.le_of_ble_eq_true rfl) rfl ?_
      refine ww_goto (tgt := 96) dX7_run_143 (by decide) ?_
      -- at 96, locals [0, 1, 2, 3, 4, 5]
      have e : q_ff (q_bad S t d s) (n - (m + 1)) (m + 1) = q_ff (q_bad S t d s) (n - m) m := by rw [en, q_ff_f (fun z => c1 z.1)]
      rw [e]
      rw [q_r1_f c1] at hu
      rw [show nI m + -1 = nI m - 1 by rw [Int32.sub_eq_add_neg]]
      exact m_run_l1 hM hG ht ht0 kk m _ (by omega) hu
set_option maxRecDepth 20000 in
set_option maxHeartbeats 4000000 in
theorem m_run_l2 (hM : ww_mo x ar M.1 M.2.2.1) (hG : q_G S n) (ht : t < n) (ht0 : S 5 t < 0) {f : Nat} (hf : f < n) : ∀ (m i : Nat) (M1 : ww_M), i + m = n → ww_up x ar M (q_r2 S t i) M1 → ww_A g wy_X7_run 4 0 0 M1 149 [(0, .ref x), (1, .int (nI t)), (4, .int (nI f)), (5, .int (nI i))] [] (ww_ru x ar M (some (.int (nI f))) (q_r2 S t n)) ww_no
  | 0, i, M1, hm, hu => by
    have h6 := hG.2.1
    have e : i = n := by omega
    subst e
    refine ww_iload (i := 5) dX7_run_149 rfl ?_
    refine ww_aload_n (i := 0) dX7_run_151 rfl rfl ?_
    refine ww_pgetI (k := 1) hM hu dX7_run_152 wf_X7_102 rfl rfl ((congrFun (q_r2_k (by decide)) 0).trans hG.1) ?_
    refine ww_icmp_ge_t (tgt := 202) dX7_run_155 (by decide) (nI_le (Nat.le_refl _) (by omega)) ?_
    refine ww_iload (i := 4) dX7_run_202 rfl ?_
    exact ww_ireturn dX7_run_204 rfl (by first | rfl | exact ww_b_nar) ⟨rfl, hu⟩
  | m + 1, i, M1, hm, hu => by
    have h6 := hG.2.1
    have e5 : q_r2 S t i 5 = S 5 := q_r2_k (by decide)
    have ht1 : q_r2 S t i 5 t < 0 := by rw [e5]; exact ht0
    have e9 : q_r2 S t i 9 i = S 9 i := q_if_f (fun z => by omega)
    have cf : ¬ nI f = -1 := by
      intro z
      have := congrArg Int32.toInt z
      rw [nI_toInt (by omega)] at this
      exact absurd this (by rw [show (-1 : Int32).toInt = -1 from rfl]; omega)
    by_cases c1 : S 9 i = 0
    · by_cases c2 : q_hd (S 5) 5 i = t
      · have c2' : q_hd (q_r2 S t i 5) 5 i = t := by rw [e5]; exact c2
        refine ww_iload (i := 5) dX7_run_149 rfl ?_
        refine ww_aload_n (i := 0) dX7_run_151 rfl rfl ?_
        refine ww_pgetI (k := 1) hM hu dX7_run_152 wf_X7_102 rfl rfl ((congrFun (q_r2_k (by decide)) 0).trans hG.1) ?_
        refine ww_icmp_ge_f (tgt := 202) dX7_run_155 (by decide) (nI_ge (by omega) (by omega)) ?_
        refine ww_iload (i := 4) dX7_run_158 rfl ?_
        refine ww_iconst (v := (-1)) dX7_run_160 (by decide) ?_
        refine ww_icmp_eq_f (tgt := 202) dX7_run_161 (by decide) cf ?_
        refine ww_aload_n (i := 0) dX7_run_164 rfl rfl ?_
        refine ww_getR (f := 329) wf_X7_31 dX7_run_165 rfl rfl (ww_up_mo hM hu).1.1 (ww_up_mo hM hu).1.2 ((ww_up_mo hM hu).2.1 9 rfl) ?_
        refine ww_iload (i := 5) dX7_run_168 rfl ?_
        refine ww_aload_n (i := 0) dX7_run_170 rfl rfl ?_
        refine ww_getR (f := 329) wf_X7_31 dX7_run_171 rfl rfl (ww_up_mo hM hu).1.1 (ww_up_mo hM hu).1.2 ((ww_up_mo hM hu).2.1 9 rfl) ?_
        refine ww_iload (i := 5) dX7_run_174 rfl ?_
        refine ww_pzld (k := 9) hM hu dX7_run_176 rfl rfl rfl (show _ < 60 by omega) e9 ?_
        refine ww_if_ne_f (tgt := 190) dX7_run_177 (by decide) c1 ?_
        refine ww_aload_n (i := 0) dX7_run_180 rfl rfl ?_
        refine ww_iload (i := 5) dX7_run_181 rfl ?_
        refine ww_iload_n (i := 1) dX7_run_183 rfl rfl ?_
        refine ww_callV (κ := 8) (r := (RX7, TX7, 33)) wk_X7_151 dX7_run_184 (u_isIn hM hu (q_G_r2 hG) (by omega) ht ht1) rfl rfl (show ww_is _ _ 8 from (ww_up_mo hM hu).1).1 (show ww_is _ _ 8 from (ww_up_mo hM hu).1).2 rfl rfl (by omega) (by omega) (by omega) (by first | exact Nat.le_of_ble_eq_true rfl | (simp [ww_rf_cat, Value.category])) rfl (fun E M9 h9 => h9.elim) (fun v9 M9 h9 => ?_)
        obtain ⟨rfl, rfl⟩ := h9
        refine ww_if_eq_f (tgt := 194) dX7_run_187 (by decide) (by rw [ww_b_t c2']; decide) ?_
        refine ww_iconst (v := 1) dX7_run_190 (by decide) ?_
        refine ww_goto (tgt := 195) dX7_run_191 (by decide) ?_
        refine ww_pzst (k := 9) hM hu dX7_run_195 rfl rfl rfl (show _ < 60 by omega) (by first | rfl | exact ww_b_vn) (fun M1 hu => ?_)
        refine ww_iinc (i := 5) (v := _ + 1) (lv2 := [(0, _), (1, _), (4, _), (5, _)]) dX7_run_196 rfl (by rfl) (Nat.le_of_ble_eq_true rfl) rfl ?_
        refine ww_goto (tgt := 149) dX7_run_199 (by decide) ?_
        -- at 149, locals [0, 1, 4, 5]
        rw [q_r2_s (Or.inl ⟨rfl, Or.inr c2⟩)] at hu
        rw [nI_1]
        exact m_run_l2 hM hG ht ht0 hf m (i + 1) _ (by omega) hu
      · have c2' : ¬ q_hd (q_r2 S t i 5) 5 i = t := by rw [e5]; exact c2
        refine ww_iload (i := 5) dX7_run_149 rfl ?_
        refine ww_aload_n (i := 0) dX7_run_151 rfl rfl ?_
        refine ww_pgetI (k := 1) hM hu dX7_run_152 wf_X7_102 rfl rfl ((congrFun (q_r2_k (by decide)) 0).trans hG.1) ?_
        refine ww_icmp_ge_f (tgt := 202) dX7_run_155 (by decide) (nI_ge (by omega) (by omega)) ?_
        refine ww_iload (i := 4) dX7_run_158 rfl ?_
        refine ww_iconst (v := (-1)) dX7_run_160 (by decide) ?_
        refine ww_icmp_eq_f (tgt := 202) dX7_run_161 (by decide) cf ?_
        refine ww_aload_n (i := 0) dX7_run_164 rfl rfl ?_
        refine ww_getR (f := 329) wf_X7_31 dX7_run_165 rfl rfl (ww_up_mo hM hu).1.1 (ww_up_mo hM hu).1.2 ((ww_up_mo hM hu).2.1 9 rfl) ?_
        refine ww_iload (i := 5) dX7_run_168 rfl ?_
        refine ww_aload_n (i := 0) dX7_run_170 rfl rfl ?_
        refine ww_getR (f := 329) wf_X7_31 dX7_run_171 rfl rfl (ww_up_mo hM hu).1.1 (ww_up_mo hM hu).1.2 ((ww_up_mo hM hu).2.1 9 rfl) ?_
        refine ww_iload (i := 5) dX7_run_174 rfl ?_
        refine ww_pzld (k := 9) hM hu dX7_run_176 rfl rfl rfl (show _ < 60 by omega) e9 ?_
        refine ww_if_ne_f (tgt := 190) dX7_run_177 (by decide) c1 ?_
        refine ww_aload_n (i := 0) dX7_run_180 rfl rfl ?_
        refine ww_iload (i := 5) dX7_run_181 rfl ?_
        refine ww_iload_n (i := 1) dX7_run_183 rfl rfl ?_
        refine ww_callV (κ := 8) (r := (RX7, TX7, 33)) wk_X7_151 dX7_run_184 (u_isIn hM hu (q_G_r2 hG) (by omega) ht ht1) rfl rfl (show ww_is _ _ 8 from (ww_up_mo hM hu).1).1 (show ww_is _ _ 8 from (ww_up_mo hM hu).1).2 rfl rfl (by omega) (by omega) (by omega) (by first | exact Nat.le_of_ble_eq_true rfl | (simp [ww_rf_cat, Value.category])) rfl (fun E M9 h9 => h9.elim) (fun v9 M9 h9 => ?_)
        obtain ⟨rfl, rfl⟩ := h9
        refine ww_if_eq_t (tgt := 194) dX7_run_187 (by decide) (ww_b_f c2') ?_
        refine ww_iconst (v := 0) dX7_run_194 (by decide) ?_
        refine ww_pzst (k := 9) hM hu dX7_run_195 rfl rfl rfl (show _ < 60 by omega) (by first | rfl | exact ww_b_vn) (fun M1 hu => ?_)
        refine ww_iinc (i := 5) (v := _ + 1) (lv2 := [(0, _), (1, _), (4, _), (5, _)]) dX7_run_196 rfl (by rfl) (Nat.le_of_ble_eq_true rfl) rfl ?_
        refine ww_goto (tgt := 149) dX7_run_199 (by decide) ?_
        -- at 149, locals [0, 1, 4, 5]
        rw [q_r2_s (Or.inr ⟨rfl, c1, c2⟩)] at hu
        rw [nI_1]
        exact m_run_l2 hM hG ht ht0 hf m (i + 1) _ (by omega) hu
    · have c3 := (hG.2.2.2.1 i).resolve_left c1
      refine ww_iload (i := 5) dX7_run_149 rfl ?_
      refine ww_aload_n (i := 0) dX7_run_151 rfl rfl ?_
      refine ww_pgetI (k := 1) hM hu dX7_run_152 wf_X7_102 rfl rfl ((congrFun (q_r2_k (by decide)) 0).trans hG.1) ?_
      refine ww_icmp_ge_f (tgt := 202) dX7_run_155 (by decide) (nI_ge (by omega) (by omega)) ?_
      refine ww_iload (i := 4) dX7_run_158 rfl ?_
      refine ww_iconst (v := (-1)) dX7_run_160 (by decide) ?_
      refine ww_icmp_eq_f (tgt := 202) dX7_run_161 (by decide) cf ?_
      refine ww_aload_n (i := 0) dX7_run_164 rfl rfl ?_
      refine ww_getR (f := 329) wf_X7_31 dX7_run_165 rfl rfl (ww_up_mo hM hu).1.1 (ww_up_mo hM hu).1.2 ((ww_up_mo hM hu).2.1 9 rfl) ?_
      refine ww_iload (i := 5) dX7_run_168 rfl ?_
      refine ww_aload_n (i := 0) dX7_run_170 rfl rfl ?_
      refine ww_getR (f := 329) wf_X7_31 dX7_run_171 rfl rfl (ww_up_mo hM hu).1.1 (ww_up_mo hM hu).1.2 ((ww_up_mo hM hu).2.1 9 rfl) ?_
      refine ww_iload (i := 5) dX7_run_174 rfl ?_
      refine ww_pzld (k := 9) hM hu dX7_run_176 rfl rfl rfl (show _ < 60 by omega) e9 ?_
      refine ww_if_ne_t (tgt := 190) dX7_run_177 (by decide) c1 ?_
      refine ww_iconst (v := 1) dX7_run_190 (by decide) ?_
      refine ww_goto (tgt := 195) dX7_run_191 (by decide) ?_
      refine ww_pzst (k := 9) hM hu dX7_run_195 rfl rfl rfl (show _ < 60 by omega) (by first | rfl | exact ww_b_vn) (fun M1 hu => ?_)
      refine ww_iinc (i := 5) (v := _ + 1) (lv2 := [(0, _), (1, _), (4, _), (5, _)]) dX7_run_196 rfl (by rfl) (Nat.le_of_ble_eq_true rfl) rfl ?_
      refine ww_goto (tgt := 149) dX7_run_199 (by decide) ?_
      -- at 149, locals [0, 1, 4, 5]
      rw [q_r2_s (Or.inl ⟨rfl, Or.inl c3⟩)] at hu
      rw [nI_1]
      exact m_run_l2 hM hG ht ht0 hf m (i + 1) _ (by omega) hu
noncomputable def q_run (S : Nat → Nat → Int32) (n t : Nat) (d s : Int32) : Nat → Nat → Int32 := match q_ff (q_bad S t d s) n 0 with
  | none => q_r1 S n t d s 0
  | some _ => q_r2 (q_r1 S n t d s 0) t n
def q_runC (S : Nat → Nat → Int32) (t : Nat) : Prop := ¬ S 11 t = 0 ∧ ¬ q_bound S t
set_option maxRecDepth 20000 in
set_option maxHeartbeats 4000000 in
theorem m_run_1 (hM : ww_mo x ar M.1 M.2.2.1) (hG : q_G (q_S M x ar) n) {p : Int32} (d s : Int32) (hc : q_noP n p) : ww_C g wy_X7_run 4 0 0 [.ref x, .int p, .int d, .int s] M (ww_ru x ar M (some (.int 0)) (q_us (q_S M x ar) 0 1)) ww_no := by
  refine ww_ent (by decide +kernel) (Nat.le_of_ble_eq_true rfl) ⟨rfl, rfl, rfl, rfl, trivial⟩ ?_
  have hu : ww_up x ar M (q_S M x ar) M := ww_up_rf
  refine ww_aload_n (i := 0) dX7_run_0 rfl rfl ?_
  refine ww_aload_n (i := 0) dX7_run_1 rfl rfl ?_
  refine ww_iload_n (i := 1) dX7_run_2 rfl rfl ?_
  refine ww_iconst (v := 0) dX7_run_3 (by decide) ?_
  refine ww_callV (κ := 8) (r := (RX7, TX7, 33)) wk_X7_148 dX7_run_4 (u_kind_1 hM hu hG 0 hc) rfl rfl (show ww_is _ _ 8 from (ww_up_mo hM hu).1).1 (show ww_is _ _ 8 from (ww_up_mo hM hu).1).2 rfl rfl (by omega) (by omega) (by omega) (by first | exact Nat.le_of_ble_eq_true rfl | (simp [ww_rf_cat, Value.category])) rfl (fun E M9 h9 => h9.elim) (fun v9 M9 h9 => ?_)
  obtain ⟨rfl, rfl⟩ := h9
  refine ww_pputI (k := 0) hM hu dX7_run_7 wf_X7_98 wt_8_0 rfl rfl rfl rfl (fun M1 hu => ?_)
  refine ww_aload_n (i := 0) dX7_run_10 rfl rfl ?_
  refine ww_pgetI (k := 0) hM hu dX7_run_11 wf_X7_98 rfl rfl (q_us_s) ?_
  refine ww_if_le_f (tgt := 19) dX7_run_14 (by decide) (by decide) ?_
  refine ww_iconst (v := 0) dX7_run_17 (by decide) ?_
  exact ww_ireturn dX7_run_18 rfl (by first | rfl | exact ww_b_nar) ⟨rfl, hu⟩
set_option maxRecDepth 20000 in
set_option maxHeartbeats 4000000 in
theorem m_run_2k (hM : ww_mo x ar M.1 M.2.2.1) (hG : q_G (q_S M x ar) n) {p : Nat} (d s : Int32) (hp : p < n) (hc : ¬ (q_S M x ar) 2 p = 0) : ww_C g wy_X7_run 4 0 0 [.ref x, .int (nI p), .int d, .int s] M (ww_ru x ar M (some (.int 0)) (q_us (q_S M x ar) 0 2)) ww_no := by
  refine ww_ent (by decide +kernel) (Nat.le_of_ble_eq_true rfl) ⟨rfl, rfl, rfl, rfl, trivial⟩ ?_
  have hu : ww_up x ar M (q_S M x ar) M := ww_up_rf
  have h6 := hG.2.1
  refine ww_aload_n (i := 0) dX7_run_0 rfl rfl ?_
  refine ww_aload_n (i := 0) dX7_run_1 rfl rfl ?_
  refine ww_iload_n (i := 1) dX7_run_2 rfl rfl ?_
  refine ww_iconst (v := 0) dX7_run_3 (by decide) ?_
  refine ww_callV (κ := 8) (r := (RX7, TX7, 33)) wk_X7_148 dX7_run_4 (u_kind_2 hM hu hG hp hc) rfl rfl (show ww_is _ _ 8 from (ww_up_mo hM hu).1).1 (show ww_is _ _ 8 from (ww_up_mo hM hu).1).2 rfl rfl (by omega) (by omega) (by omega) (by first | exact Nat.le_of_ble_eq_true rfl | (simp [ww_rf_cat, Value.category])) rfl (fun E M9 h9 => h9.elim) (fun v9 M9 h9 => ?_)
  obtain ⟨rfl, rfl⟩ := h9
  refine ww_pputI (k := 0) hM hu dX7_run_7 wf_X7_98 wt_8_0 rfl rfl rfl rfl (fun M1 hu => ?_)
  refine ww_aload_n (i := 0) dX7_run_10 rfl rfl ?_
  refine ww_pgetI (k := 0) hM hu dX7_run_11 wf_X7_98 rfl rfl (q_us_s) ?_
  refine ww_if_le_f (tgt := 19) dX7_run_14 (by decide) (by decide) ?_
  refine ww_iconst (v := 0) dX7_run_17 (by decide) ?_
  exact ww_ireturn dX7_run_18 rfl (by first | rfl | exact ww_b_nar) ⟨rfl, hu⟩
set_option maxRecDepth 20000 in
set_option maxHeartbeats 4000000 in
theorem m_run_2 (hM : ww_mo x ar M.1 M.2.2.1) (hG : q_G (q_S M x ar) n) {p : Nat} {d s : Int32} (hp : p < n) (hk : (q_S M x ar) 2 p = 0) (hc : ¬ (q_rg 1 2000 d ∧ q_rg 0 3 s)) : ww_C g wy_X7_run 4 0 0 [.ref x, .int (nI p), .int d, .int s] M (ww_ru x ar M (some (.int 0)) (q_us (q_S M x ar) 0 2)) ww_no := by
  refine ww_ent (by decide +kernel) (Nat.le_of_ble_eq_true rfl) ⟨rfl, rfl, rfl, rfl, trivial⟩ ?_
  have hu : ww_up x ar M (q_S M x ar) M := ww_up_rf
  have h6 := hG.2.1
  by_cases c1 : q_rg 1 2000 d
  · have c2 : ¬ q_rg 0 3 s := fun z => hc ⟨c1, z⟩
    refine ww_aload_n (i := 0) dX7_run_0 rfl rfl ?_
    refine ww_aload_n (i := 0) dX7_run_1 rfl rfl ?_
    refine ww_iload_n (i := 1) dX7_run_2 rfl rfl ?_
    refine ww_iconst (v := 0) dX7_run_3 (by decide) ?_
    refine ww_callV (κ := 8) (r := (RX7, TX7, 33)) wk_X7_148 dX7_run_4 (u_kind_0 hM hu hG hp hk) rfl rfl (show ww_is _ _ 8 from (ww_up_mo hM hu).1).1 (show ww_is _ _ 8 from (ww_up_mo hM hu).1).2 rfl rfl (by omega) (by omega) (by omega) (by first | exact Nat.le_of_ble_eq_true rfl | (simp [ww_rf_cat, Value.category])) rfl (fun E M9 h9 => h9.elim) (fun v9 M9 h9 => ?_)
    obtain ⟨rfl, rfl⟩ := h9
    refine ww_pputI (k := 0) hM hu dX7_run_7 wf_X7_98 wt_8_0 rfl rfl rfl rfl (fun M1 hu => ?_)
    refine ww_aload_n (i := 0) dX7_run_10 rfl rfl ?_
    refine ww_pgetI (k := 0) hM hu dX7_run_11 wf_X7_98 rfl rfl (q_us_s) ?_
    refine ww_if_le_t (tgt := 19) dX7_run_14 (by decide) (by decide) ?_
    refine ww_aload_n (i := 0) dX7_run_19 rfl rfl ?_
    refine ww_iload_n (i := 2) dX7_run_20 rfl rfl ?_
    refine ww_iconst (v := 1) dX7_run_21 (by decide) ?_
    refine ww_sipush (v := 2000) dX7_run_22 (by decide) ?_
    refine ww_callS wk_X7_105 rfl dX7_run_25 (m_in_t c1.1 c1.2) rfl rfl (by omega) (by omega) (by omega) (by first | exact Nat.le_of_ble_eq_true rfl | (simp [ww_rf_cat, Value.category])) rfl (fun E M9 h9 => h9.elim) (fun v9 M9 h9 => ?_)
    obtain ⟨rfl, rfl⟩ := h9
    refine ww_if_eq_f (tgt := 40) dX7_run_28 (by decide) (by decide) ?_
    refine ww_iload_n (i := 3) dX7_run_31 rfl rfl ?_
    refine ww_iconst (v := 0) dX7_run_32 (by decide) ?_
    refine ww_iconst (v := 3) dX7_run_33 (by decide) ?_
    refine ww_callS wk_X7_105 rfl dX7_run_34 (m_in_f c2) rfl rfl (by omega) (by omega) (by omega) (by first | exact Nat.le_of_ble_eq_true rfl | (simp [ww_rf_cat, Value.category])) rfl (fun E M9 h9 => h9.elim) (fun v9 M9 h9 => ?_)
    obtain ⟨rfl, rfl⟩ := h9
    refine ww_if_ne_f (tgt := 44) dX7_run_37 (by decide) (by decide) ?_
    refine ww_iconst (v := 2) dX7_run_40 (by decide) ?_
    refine ww_goto (tgt := 66) dX7_run_41 (by decide) ?_
    refine ww_pputI (k := 0) hM hu dX7_run_66 wf_X7_98 wt_8_0 rfl rfl rfl rfl (fun M1 hu => ?_)
    refine ww_aload_n (i := 0) dX7_run_69 rfl rfl ?_
    refine ww_pgetI (k := 0) hM hu dX7_run_70 wf_X7_98 rfl rfl (q_us_s) ?_
    refine ww_if_le_f (tgt := 78) dX7_run_73 (by decide) (by decide) ?_
    refine ww_iconst (v := 0) dX7_run_76 (by decide) ?_
    exact ww_ireturn dX7_run_77 rfl (by first | rfl | exact ww_b_nar) ⟨rfl, ww_up_cg hu q_us_us⟩
  · refine ww_aload_n (i := 0) dX7_run_0 rfl rfl ?_
    refine ww_aload_n (i := 0) dX7_run_1 rfl rfl ?_
    refine ww_iload_n (i := 1) dX7_run_2 rfl rfl ?_
    refine ww_iconst (v := 0) dX7_run_3 (by decide) ?_
    refine ww_callV (κ := 8) (r := (RX7, TX7, 33)) wk_X7_148 dX7_run_4 (u_kind_0 hM hu hG hp hk) rfl rfl (show ww_is _ _ 8 from (ww_up_mo hM hu).1).1 (show ww_is _ _ 8 from (ww_up_mo hM hu).1).2 rfl rfl (by omega) (by omega) (by omega) (by first | exact Nat.le_of_ble_eq_true rfl | (simp [ww_rf_cat, Value.category])) rfl (fun E M9 h9 => h9.elim) (fun v9 M9 h9 => ?_)
    obtain ⟨rfl, rfl⟩ := h9
    refine ww_pputI (k := 0) hM hu dX7_run_7 wf_X7_98 wt_8_0 rfl rfl rfl rfl (fun M1 hu => ?_)
    refine ww_aload_n (i := 0) dX7_run_10 rfl rfl ?_
    refine ww_pgetI (k := 0) hM hu dX7_run_11 wf_X7_98 rfl rfl (q_us_s) ?_
    refine ww_if_le_t (tgt := 19) dX7_run_14 (by decide) (by decide) ?_
    refine ww_aload_n (i := 0) dX7_run_19 rfl rfl ?_
    refine ww_iload_n (i := 2) dX7_run_20 rfl rfl ?_
    refine ww_iconst (v := 1) dX7_run_21 (by decide) ?_
    refine ww_sipush (v := 2000) dX7_run_22 (by decide) ?_
    refine ww_callS wk_X7_105 rfl dX7_run_25 (m_in_f c1) rfl rfl (by omega) (by omega) (by omega) (by first | exact Nat.le_of_ble_eq_true rfl | (simp [ww_rf_cat, Value.category])) rfl (fun E M9 h9 => h9.elim) (fun v9 M9 h9 => ?_)
    obtain ⟨rfl, rfl⟩ := h9
    refine ww_if_eq_t (tgt := 40) dX7_run_28 (by decide) (by decide) ?_
    refine ww_iconst (v := 2) dX7_run_40 (by decide) ?_
    refine ww_goto (tgt := 66) dX7_run_41 (by decide) ?_
    refine ww_pputI (k := 0) hM hu dX7_run_66 wf_X7_98 wt_8_0 rfl rfl rfl rfl (fun M1 hu => ?_)
    refine ww_aload_n (i := 0) dX7_run_69 rfl rfl ?_
    refine ww_pgetI (k := 0) hM hu dX7_run_70 wf_X7_98 rfl rfl (q_us_s) ?_
    refine ww_if_le_f (tgt := 78) dX7_run_73 (by decide) (by decide) ?_
    refine ww_iconst (v := 0) dX7_run_76 (by decide) ?_
    exact ww_ireturn dX7_run_77 rfl (by first | rfl | exact ww_b_nar) ⟨rfl, ww_up_cg hu q_us_us⟩
set_option maxRecDepth 20000 in
set_option maxHeartbeats 4000000 in
theorem m_run_3 (hM : ww_mo x ar M.1 M.2.2.1) (hG : q_G (q_S M x ar) n) {p : Nat} {d s : Int32} (hp : p < n) (hk : (q_S M x ar) 2 p = 0) (hc : q_rg 1 2000 d ∧ q_rg 0 3 s) (hr : ¬ q_runC (q_S M x ar) p) : ww_C g wy_X7_run 4 0 0 [.ref x, .int (nI p), .int d, .int s] M (ww_ru x ar M (some (.int 0)) (q_us (q_S M x ar) 0 3)) ww_no := by
  refine ww_ent (by decide +kernel) (Nat.le_of_ble_eq_true rfl) ⟨rfl, rfl, rfl, rfl, trivial⟩ ?_
  have hu : ww_up x ar M (q_S M x ar) M := ww_up_rf
  have h6 := hG.2.1
  obtain ⟨c1, c2⟩ := hc
  by_cases c3 : (q_S M x ar) 11 p = 0
  · refine ww_aload_n (i := 0) dX7_run_0 rfl rfl ?_
    refine ww_aload_n (i := 0) dX7_run_1 rfl rfl ?_
    refine ww_iload_n (i := 1) dX7_run_2 rfl rfl ?_
    refine ww_iconst (v := 0) dX7_run_3 (by decide) ?_
    refine ww_callV (κ := 8) (r := (RX7, TX7, 33)) wk_X7_148 dX7_run_4 (u_kind_0 hM hu hG hp hk) rfl rfl (show ww_is _ _ 8 from (ww_up_mo hM hu).1).1 (show ww_is _ _ 8 from (ww_up_mo hM hu).1).2 rfl rfl (by omega) (by omega) (by omega) (by first | exact Nat.le_of_ble_eq_true rfl | (simp [ww_rf_cat, Value.category])) rfl (fun E M9 h9 => h9.elim) (fun v9 M9 h9 => ?_)
    obtain ⟨rfl, rfl⟩ := h9
    refine ww_pputI (k := 0) hM hu dX7_run_7 wf_X7_98 wt_8_0 rfl rfl rfl rfl (fun M1 hu => ?_)
    refine ww_aload_n (i := 0) dX7_run_10 rfl rfl ?_
    refine ww_pgetI (k := 0) hM hu dX7_run_11 wf_X7_98 rfl rfl (q_us_s) ?_
    refine ww_if_le_t (tgt := 19) dX7_run_14 (by decide) (by decide) ?_
    refine ww_aload_n (i := 0) dX7_run_19 rfl rfl ?_
    refine ww_iload_n (i := 2) dX7_run_20 rfl rfl ?_
    refine ww_iconst (v := 1) dX7_run_21 (by decide) ?_
    refine ww_sipush (v := 2000) dX7_run_22 (by decide) ?_
    refine ww_callS wk_X7_105 rfl dX7_run_25 (m_in_t c1.1 c1.2) rfl rfl (by omega) (by omega) (by omega) (by first | exact Nat.le_of_ble_eq_true rfl | (simp [ww_rf_cat, Value.category])) rfl (fun E M9 h9 => h9.elim) (fun v9 M9 h9 => ?_)
    obtain ⟨rfl, rfl⟩ := h9
    refine ww_if_eq_f (tgt := 40) dX7_run_28 (by decide) (by decide) ?_
    refine ww_iload_n (i := 3) dX7_run_31 rfl rfl ?_
    refine ww_iconst (v := 0) dX7_run_32 (by decide) ?_
    refine ww_iconst (v := 3) dX7_run_33 (by decide) ?_
    refine ww_callS wk_X7_105 rfl dX7_run_34 (m_in_t c2.1 c2.2) rfl rfl (by omega) (by omega) (by omega) (by first | exact Nat.le_of_ble_eq_true rfl | (simp [ww_rf_cat, Value.category])) rfl (fun E M9 h9 => h9.elim) (fun v9 M9 h9 => ?_)
    obtain ⟨rfl, rfl⟩ := h9
    refine ww_if_ne_t (tgt := 44) dX7_run_37 (by decide) (by decide) ?_
    refine ww_aload_n (i := 0) dX7_run_44 rfl rfl ?_
    refine ww_getR (f := 331) wf_X7_38 dX7_run_45 rfl rfl (ww_up_mo hM hu).1.1 (ww_up_mo hM hu).1.2 ((ww_up_mo hM hu).2.1 11 rfl) ?_
    refine ww_iload_n (i := 1) dX7_run_48 rfl rfl ?_
    refine ww_pzld (k := 11) hM hu dX7_run_49 rfl rfl rfl (show _ < 60 by omega) ((q_us_n (by decide)).trans (rfl)) ?_
    refine ww_if_eq_t (tgt := 61) dX7_run_50 (by decide) c3 ?_
    refine ww_iconst (v := 3) dX7_run_61 (by decide) ?_
    refine ww_goto (tgt := 66) dX7_run_62 (by decide) ?_
    refine ww_pputI (k := 0) hM hu dX7_run_66 wf_X7_98 wt_8_0 rfl rfl rfl rfl (fun M1 hu => ?_)
    refine ww_aload_n (i := 0) dX7_run_69 rfl rfl ?_
    refine ww_pgetI (k := 0) hM hu dX7_run_70 wf_X7_98 rfl rfl (q_us_s) ?_
    refine ww_if_le_f (tgt := 78) dX7_run_73 (by decide) (by decide) ?_
    refine ww_iconst (v := 0) dX7_run_76 (by decide) ?_
    exact ww_ireturn dX7_run_77 rfl (by first | rfl | exact ww_b_nar) ⟨rfl, ww_up_cg hu q_us_us⟩
  · have c4 : q_bound (q_S M x ar) p := Classical.not_not.mp fun z => hr ⟨c3, z⟩
    refine ww_aload_n (i := 0) dX7_run_0 rfl rfl ?_
    refine ww_aload_n (i := 0) dX7_run_1 rfl rfl ?_
    refine ww_iload_n (i := 1) dX7_run_2 rfl rfl ?_
    refine ww_iconst (v := 0) dX7_run_3 (by decide) ?_
    refine ww_callV (κ := 8) (r := (RX7, TX7, 33)) wk_X7_148 dX7_run_4 (u_kind_0 hM hu hG hp hk) rfl rfl (show ww_is _ _ 8 from (ww_up_mo hM hu).1).1 (show ww_is _ _ 8 from (ww_up_mo hM hu).1).2 rfl rfl (by omega) (by omega) (by omega) (by first | exact Nat.le_of_ble_eq_true rfl | (simp [ww_rf_cat, Value.category])) rfl (fun E M9 h9 => h9.elim) (fun v9 M9 h9 => ?_)
    obtain ⟨rfl, rfl⟩ := h9
    refine ww_pputI (k := 0) hM hu dX7_run_7 wf_X7_98 wt_8_0 rfl rfl rfl rfl (fun M1 hu => ?_)
    refine ww_aload_n (i := 0) dX7_run_10 rfl rfl ?_
    refine ww_pgetI (k := 0) hM hu dX7_run_11 wf_X7_98 rfl rfl (q_us_s) ?_
    refine ww_if_le_t (tgt := 19) dX7_run_14 (by decide) (by decide) ?_
    refine ww_aload_n (i := 0) dX7_run_19 rfl rfl ?_
    refine ww_iload_n (i := 2) dX7_run_20 rfl rfl ?_
    refine ww_iconst (v := 1) dX7_run_21 (by decide) ?_
    refine ww_sipush (v := 2000) dX7_run_22 (by decide) ?_
    refine ww_callS wk_X7_105 rfl dX7_run_25 (m_in_t c1.1 c1.2) rfl rfl (by omega) (by omega) (by omega) (by first | exact Nat.le_of_ble_eq_true rfl | (simp [ww_rf_cat, Value.category])) rfl (fun E M9 h9 => h9.elim) (fun v9 M9 h9 => ?_)
    obtain ⟨rfl, rfl⟩ := h9
    refine ww_if_eq_f (tgt := 40) dX7_run_28 (by decide) (by decide) ?_
    refine ww_iload_n (i := 3) dX7_run_31 rfl rfl ?_
    refine ww_iconst (v := 0) dX7_run_32 (by decide) ?_
    refine ww_iconst (v := 3) dX7_run_33 (by decide) ?_
    refine ww_callS wk_X7_105 rfl dX7_run_34 (m_in_t c2.1 c2.2) rfl rfl (by omega) (by omega) (by omega) (by first | exact Nat.le_of_ble_eq_true rfl | (simp [ww_rf_cat, Value.category])) rfl (fun E M9 h9 => h9.elim) (fun v9 M9 h9 => ?_)
    obtain ⟨rfl, rfl⟩ := h9
    refine ww_if_ne_t (tgt := 44) dX7_run_37 (by decide) (by decide) ?_
    refine ww_aload_n (i := 0) dX7_run_44 rfl rfl ?_
    refine ww_getR (f := 331) wf_X7_38 dX7_run_45 rfl rfl (ww_up_mo hM hu).1.1 (ww_up_mo hM hu).1.2 ((ww_up_mo hM hu).2.1 11 rfl) ?_
    refine ww_iload_n (i := 1) dX7_run_48 rfl rfl ?_
    refine ww_pzld (k := 11) hM hu dX7_run_49 rfl rfl rfl (show _ < 60 by omega) ((q_us_n (by decide)).trans (rfl)) ?_
    refine ww_if_eq_f (tgt := 61) dX7_run_50 (by decide) c3 ?_
    refine ww_aload_n (i := 0) dX7_run_53 rfl rfl ?_
    refine ww_iload_n (i := 1) dX7_run_54 rfl rfl ?_
    refine ww_callV (κ := 8) (r := (RX7, TX7, 33)) wk_X7_125 dX7_run_55 (u_bound_t hM hu (q_G_c hG) hp c4) rfl rfl (show ww_is _ _ 8 from (ww_up_mo hM hu).1).1 (show ww_is _ _ 8 from (ww_up_mo hM hu).1).2 rfl rfl (by omega) (by omega) (by omega) (by first | exact Nat.le_of_ble_eq_true rfl | (simp [ww_rf_cat, Value.category])) rfl (fun E M9 h9 => h9.elim) (fun v9 M9 h9 => ?_)
    obtain ⟨rfl, rfl⟩ := h9
    refine ww_if_eq_f (tgt := 65) dX7_run_58 (by decide) (by decide) ?_
    refine ww_iconst (v := 3) dX7_run_61 (by decide) ?_
    refine ww_goto (tgt := 66) dX7_run_62 (by decide) ?_
    refine ww_pputI (k := 0) hM hu dX7_run_66 wf_X7_98 wt_8_0 rfl rfl rfl rfl (fun M1 hu => ?_)
    refine ww_aload_n (i := 0) dX7_run_69 rfl rfl ?_
    refine ww_pgetI (k := 0) hM hu dX7_run_70 wf_X7_98 rfl rfl (q_us_s) ?_
    refine ww_if_le_f (tgt := 78) dX7_run_73 (by decide) (by decide) ?_
    refine ww_iconst (v := 0) dX7_run_76 (by decide) ?_
    exact ww_ireturn dX7_run_77 rfl (by first | rfl | exact ww_b_nar) ⟨rfl, ww_up_cg hu q_us_us⟩
set_option maxRecDepth 20000 in
set_option maxHeartbeats 4000000 in
theorem m_run_0 (hM : ww_mo x ar M.1 M.2.2.1) (hG : q_G (q_S M x ar) n) {p : Nat} {d s : Int32} (hp : p < n) (hk : (q_S M x ar) 2 p = 0) (hc : q_rg 1 2000 d ∧ q_rg 0 3 s) (hr : q_runC (q_S M x ar) p) : ww_C g wy_X7_run 4 0 0 [.ref x, .int (nI p), .int d, .int s] M (ww_ru x ar M (some (.int (q_oi (q_ff (q_bad (ww_u2 (q_us (q_S M x ar) 0 0) 11 p 0) p d s) n 0)))) (q_run (ww_u2 (q_us (q_S M x ar) 0 0) 11 p 0) n p d s)) ww_no := by
  refine ww_ent (by decide +kernel) (Nat.le_of_ble_eq_true rfl) ⟨rfl, rfl, rfl, rfl, trivial⟩ ?_
  have hu : ww_up x ar M (q_S M x ar) M := ww_up_rf
  have h6 := hG.2.1
  have ht0 := q_top hG hp hk
  have hG1 : q_G (ww_u2 (q_us (q_S M x ar) 0 0) 11 p 0) n := q_G_b (q_G_c hG) (Or.inl rfl) (by decide)
  obtain ⟨c1, c2⟩ := hc
  obtain ⟨c3, c4⟩ := hr
  refine ww_aload_n (i := 0) dX7_run_0 rfl rfl ?_
  refine ww_aload_n (i := 0) dX7_run_1 rfl rfl ?_
  refine ww_iload_n (i := 1) dX7_run_2 rfl rfl ?_
  refine ww_iconst (v := 0) dX7_run_3 (by decide) ?_
  refine ww_callV (κ := 8) (r := (RX7, TX7, 33)) wk_X7_148 dX7_run_4 (u_kind_0 hM hu hG hp hk) rfl rfl (show ww_is _ _ 8 from (ww_up_mo hM hu).1).1 (show ww_is _ _ 8 from (ww_up_mo hM hu).1).2 rfl rfl (by omega) (by omega) (by omega) (by first | exact Nat.le_of_ble_eq_true rfl | (simp [ww_rf_cat, Value.category])) rfl (fun E M9 h9 => h9.elim) (fun v9 M9 h9 => ?_)
  obtain ⟨rfl, rfl⟩ := h9
  refine ww_pputI (k := 0) hM hu dX7_run_7 wf_X7_98 wt_8_0 rfl rfl rfl rfl (fun M1 hu => ?_)
  refine ww_aload_n (i := 0) dX7_run_10 rfl rfl ?_
  refine ww_pgetI (k := 0) hM hu dX7_run_11 wf_X7_98 rfl rfl (q_us_s) ?_
  refine ww_if_le_t (tgt := 19) dX7_run_14 (by decide) (by decide) ?_
  refine ww_aload_n (i := 0) dX7_run_19 rfl rfl ?_
  refine ww_iload_n (i := 2) dX7_run_20 rfl rfl ?_
  refine ww_iconst (v := 1) dX7_run_21 (by decide) ?_
  refine ww_sipush (v := 2000) dX7_run_22 (by decide) ?_
  refine ww_callS wk_X7_105 rfl dX7_run_25 (m_in_t c1.1 c1.2) rfl rfl (by omega) (by omega) (by omega) (by first | exact Nat.le_of_ble_eq_true rfl | (simp [ww_rf_cat, Value.category])) rfl (fun E M9 h9 => h9.elim) (fun v9 M9 h9 => ?_)
  obtain ⟨rfl, rfl⟩ := h9
  refine ww_if_eq_f (tgt := 40) dX7_run_28 (by decide) (by decide) ?_
  refine ww_iload_n (i := 3) dX7_run_31 rfl rfl ?_
  refine ww_iconst (v := 0) dX7_run_32 (by decide) ?_
  refine ww_iconst (v := 3) dX7_run_33 (by decide) ?_
  refine ww_callS wk_X7_105 rfl dX7_run_34 (m_in_t c2.1 c2.2) rfl rfl (by omega) (by omega) (by omega) (by first | exact Nat.le_of_ble_eq_true rfl | (simp [ww_rf_cat, Value.category])) rfl (fun E M9 h9 => h9.elim) (fun v9 M9 h9 => ?_)
  obtain ⟨rfl, rfl⟩ := h9
  refine ww_if_ne_t (tgt := 44) dX7_run_37 (by decide) (by decide) ?_
  refine ww_aload_n (i := 0) dX7_run_44 rfl rfl ?_
  refine ww_getR (f := 331) wf_X7_38 dX7_run_45 rfl rfl (ww_up_mo hM hu).1.1 (ww_up_mo hM hu).1.2 ((ww_up_mo hM hu).2.1 11 rfl) ?_
  refine ww_iload_n (i := 1) dX7_run_48 rfl rfl ?_
  refine ww_pzld (k := 11) hM hu dX7_run_49 rfl rfl rfl (show _ < 60 by omega) ((q_us_n (by decide)).trans (rfl)) ?_
  refine ww_if_eq_f (tgt := 61) dX7_run_50 (by decide) c3 ?_
  refine ww_aload_n (i := 0) dX7_run_53 rfl rfl ?_
  refine ww_iload_n (i := 1) dX7_run_54 rfl rfl ?_
  refine ww_callV (κ := 8) (r := (RX7, TX7, 33)) wk_X7_125 dX7_run_55 (u_bound_f hM hu (q_G_c hG) hp c4) rfl rfl (show ww_is _ _ 8 from (ww_up_mo hM hu).1).1 (show ww_is _ _ 8 from (ww_up_mo hM hu).1).2 rfl rfl (by omega) (by omega) (by omega) (by first | exact Nat.le_of_ble_eq_true rfl | (simp [ww_rf_cat, Value.category])) rfl (fun E M9 h9 => h9.elim) (fun v9 M9 h9 => ?_)
  obtain ⟨rfl, rfl⟩ := h9
  refine ww_if_eq_t (tgt := 65) dX7_run_58 (by decide) (by decide) ?_
  refine ww_iconst (v := 0) dX7_run_65 (by decide) ?_
  refine ww_pputI (k := 0) hM hu dX7_run_66 wf_X7_98 wt_8_0 rfl rfl rfl rfl (fun M1 hu => ?_)
  refine ww_aload_n (i := 0) dX7_run_69 rfl rfl ?_
  refine ww_pgetI (k := 0) hM hu dX7_run_70 wf_X7_98 rfl rfl (q_us_s) ?_
  refine ww_if_le_t (tgt := 78) dX7_run_73 (by decide) (by decide) ?_
  refine ww_aload_n (i := 0) dX7_run_78 rfl rfl ?_
  refine ww_getR (f := 331) wf_X7_38 dX7_run_79 rfl rfl (ww_up_mo hM hu).1.1 (ww_up_mo hM hu).1.2 ((ww_up_mo hM hu).2.1 11 rfl) ?_
  refine ww_iload_n (i := 1) dX7_run_82 rfl rfl ?_
  refine ww_iconst (v := 0) dX7_run_83 (by decide) ?_
  refine ww_pzst (k := 11) hM hu dX7_run_84 rfl rfl rfl (show _ < 60 by omega) (by first | rfl | exact ww_b_vn) (fun M1 hu => ?_)
  refine ww_iconst (v := (-1)) dX7_run_85 (by decide) ?_
  refine ww_istore (i := 4) (lv2 := [(0, _), (1, _), (2, _), (3, _), (4, _)]) dX7_run_86 (Nat.le_of_ble_eq_true rfl) rfl ?_
  refine ww_aload_n (i := 0) dX7_run_88 rfl rfl ?_
  refine ww_pgetI (k := 1) hM hu dX7_run_89 wf_X7_102 rfl rfl hG1.1 ?_
  refine ww_iconst (v := 1) dX7_run_92 (by decide) ?_
  refine ww_isub dX7_run_93 ?_
  refine ww_istore (i := 5) (lv2 := [(0, _), (1, _), (2, _), (3, _), (4, _), (5, _)]) dX7_run_94 (Nat.le_of_ble_eq_true rfl) rfl ?_
  -- at 96, locals [0, 1, 2, 3, 4, 5]
  rw [q_us_us] at hu
  rw [← q_r1_n (S := ww_u2 (q_us (q_S M x ar) 0 0) 11 p 0) (n := n) (t := p) (d := d) (s := s)] at hu
  have hl := m_run_l1 (g := g) (d := d) (s := s) (Q := ww_ru x ar M (some (.int (q_oi (q_ff (q_bad (ww_u2 (q_us (q_S M x ar) 0 0) 11 p 0) p d s) n 0)))) (q_run (ww_u2 (q_us (q_S M x ar) 0 0) 11 p 0) n p d s)) hM hG1 hp ht0 ?_ n _ (Nat.le_refl _) hu
  · rw [Nat.sub_self] at hl
    exact ww_subk hl ⟨rfl, rfl, rfl, rfl, rfl, rfl, trivial⟩
  · intro M2 hu
    unfold q_run
    cases hq : q_ff (q_bad (ww_u2 (q_us (q_S M x ar) 0 0) 11 p 0) p d s) n 0 with
    | none =>
      refine ww_iconst (v := 0) dX7_run_146 (by decide) ?_
      refine ww_istore (i := 5) (lv2 := [(0, _), (1, _), (4, _), (5, _)]) dX7_run_147 (Nat.le_of_ble_eq_true rfl) rfl ?_
      refine ww_iload (i := 5) dX7_run_149 rfl ?_
      refine ww_aload_n (i := 0) dX7_run_151 rfl rfl ?_
      refine ww_pgetI (k := 1) hM hu dX7_run_152 wf_X7_102 rfl rfl ((congrFun (q_r1_k (by decide)) 0).trans hG1.1) ?_
      refine ww_icmp_ge_f (tgt := 202) dX7_run_155 (by decide) (nI_ge (a := 0) (by omega) (by omega)) ?_
      refine ww_iload (i := 4) dX7_run_158 rfl ?_
      refine ww_iconst (v := (-1)) dX7_run_160 (by decide) ?_
      refine ww_icmp_eq_t (tgt := 202) dX7_run_161 (by decide) rfl ?_
      refine ww_iload (i := 4) dX7_run_202 rfl ?_
      exact ww_ireturn dX7_run_204 rfl (by first | rfl | exact ww_b_nar) ⟨rfl, hu⟩
    | some f =>
      have hf := q_ff_some hq
      have e5 : q_r1 (ww_u2 (q_us (q_S M x ar) 0 0) 11 p 0) n p d s 0 5 = (q_S M x ar) 5 := q_r1_k (by decide)
      refine ww_iconst (v := 0) dX7_run_146 (by decide) ?_
      refine ww_istore (i := 5) (lv2 := [(0, _), (1, _), (4, _), (5, _)]) dX7_run_147 (Nat.le_of_ble_eq_true rfl) rfl ?_
      -- at 149, locals [0, 1, 4, 5]
      have hl := m_run_l2 (g := g) (S := q_r1 (ww_u2 (q_us (q_S M x ar) 0 0) 11 p 0) n p d s 0) hM (q_G_r1 hG1) hp (by rw [e5]; exact ht0) (f := f) (by omega) n 0 M2 (by omega) (by rw [q_r2_0]; exact hu)
      rw [nI_0] at hl
      exact ww_subk hl ⟨rfl, rfl, rfl, rfl, trivial⟩
end WWX
