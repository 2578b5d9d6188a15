/-! ===== plans: all of them ===== -/
/-- the road of the i-th train in assignment c -/
def q_dg (w c i : Nat) : Nat := c / 3 ^ (w - 1 - i) % 3
noncomputable def q_wm (S : Nat → Nat → Int32) (w c m : Nat) : Nat → Nat → Int32 := fun k i => q_if (k = 30 ∧ m ≤ i ∧ i < w) (nI (q_dg w c i)) (S k i)
theorem q_wm_k {S : Nat → Nat → Int32} {w c m k : Nat} (h : k ≠ 30) : q_wm S w c m k = S k := by
  funext i
  exact q_if_f (fun z => h z.1)
theorem q_wm_w {S : Nat → Nat → Int32} {w c : Nat} : q_wm S w c w = S := by
  funext k i
  exact q_if_f (fun z => by omega)
theorem q_wm_s {S : Nat → Nat → Int32} {w c m : Nat} (h : m < w) : ww_u2 (q_wm S w c (m + 1)) 30 m (nI (q_dg w c m)) = q_wm S w c m := by
  funext k i
  by_cases e : k = 30 ∧ i = m
  · obtain ⟨rfl, rfl⟩ := e
    rw [ww_u2s]
    exact (q_if_t ⟨rfl, Nat.le_refl _, h⟩).symm
  · rw [ww_u2n e]
    refine q_if_cg ⟨fun z => ⟨z.1, by omega, z.2.2⟩, fun z => ⟨z.1, ?_, z.2.2⟩⟩
    have : i ≠ m := fun y => e ⟨z.1, y⟩
    omega
noncomputable def q_cp (S : Nat → Nat → Int32) (j : Nat) : Nat → Nat → Int32 := fun k i => q_if (k = 29 ∧ i < j) (S 30 i) (S k i)
theorem q_cp_k {S : Nat → Nat → Int32} {j k : Nat} (h : k ≠ 29) : q_cp S j k = S k := by
  funext i
  exact q_if_f (fun z => h z.1)
theorem q_cp_0 {S : Nat → Nat → Int32} : q_cp S 0 = S := by
  funext k i
  exact q_if_f (fun z => by omega)
theorem q_cp_s {S : Nat → Nat → Int32} {j : Nat} : ww_u2 (q_cp S j) 29 j (S 30 j) = q_cp S (j + 1) := by
  funext k i
  by_cases e : k = 29 ∧ i = j
  · obtain ⟨rfl, rfl⟩ := e
    rw [ww_u2s]
    exact (q_if_t ⟨rfl, by omega⟩).symm
  · rw [ww_u2n e]
    refine q_if_cg ⟨fun z => ⟨z.1, by omega⟩, fun z => ⟨z.1, ?_⟩⟩
    have : i ≠ j := fun y => e ⟨z.1, y⟩
    omega
def q_opt (w : Nat) (o : Option Nat) (v : Int32) (i : Nat) : Int32 := match o with
  | none => v
  | some c => nI (q_dg w c i)
/-- best in row 29, the last tried in row 30 -/
noncomputable def q_pl (S : Nat → Nat → Int32) (w : Nat) (o l : Option Nat) : Nat → Nat → Int32 := fun k i => q_if (k = 29 ∧ i < w) (q_opt w o (S k i) i) (q_if (k = 30 ∧ i < w) (q_opt w l (S k i) i) (S k i))
theorem q_pl_k {S : Nat → Nat → Int32} {w k : Nat} {o l : Option Nat} (h : k ≠ 29 ∧ k ≠ 30) : q_pl S w o l k = S k := by
  funext i
  unfold q_pl
  rw [q_if_f (fun z => h.1 z.1), q_if_f (fun z => h.2 z.1)]
theorem q_pl_0 {S : Nat → Nat → Int32} {w : Nat} : q_pl S w none none = S := by
  funext k i
  unfold q_pl
  by_cases c1 : k = 29 ∧ i < w
  · rw [q_if_t c1]; rfl
  · rw [q_if_f c1]
    by_cases c2 : k = 30 ∧ i < w
    · rw [q_if_t c2]; rfl
    · rw [q_if_f c2]
theorem q_pl_w {S : Nat → Nat → Int32} {w c : Nat} {o l : Option Nat} : q_wm (q_pl S w o l) w c 0 = q_pl S w o (some c) := by
  funext k i
  unfold q_wm q_pl
  by_cases c2 : k = 30 ∧ i < w
  · rw [q_if_t ⟨c2.1, Nat.zero_le _, c2.2⟩, q_if_f (fun z => by omega), q_if_t c2]; rfl
  · rw [q_if_f (P := k = 30 ∧ 0 ≤ i ∧ i < w) (fun z => c2 ⟨z.1, z.2.2⟩), q_if_f c2, q_if_f c2]
theorem q_pl_c {S : Nat → Nat → Int32} {w c : Nat} {o : Option Nat} : q_cp (q_pl S w o (some c)) w = q_pl S w (some c) (some c) := by
  funext k i
  unfold q_cp q_pl
  by_cases c1 : k = 29 ∧ i < w
  · rw [q_if_t c1, q_if_t c1, q_if_f (fun z => absurd z.1 (by decide)), q_if_t ⟨rfl, c1.2⟩]; rfl
  · rw [q_if_f c1, q_if_f c1, q_if_f c1]
/-- the moves of assignment c; -1 if a road is too short -/
noncomputable def q_cost (S : Nat → Nat → Int32) (w c : Nat) : Int32 := q_mo (q_wm S w c 0) w
theorem q_cost_e {S : Nat → Nat → Int32} {w c : Nat} {o : Option Nat} : q_mo (q_pl S w o (some c)) w = q_cost S w c := by
  refine q_mo_cg (fun i hi => ⟨?_, ?_⟩)
  · unfold q_pl q_wm
    rw [q_if_f (fun z => absurd z.1 (by decide)), q_if_t ⟨rfl, hi⟩, q_if_t ⟨rfl, Nat.zero_le _, hi⟩]; rfl
  · unfold q_wq
    rw [q_pl_k (by decide), q_pl_k (by decide), q_wm_k (by decide), q_wm_k (by decide)]
/-- the first of the best below c -/
noncomputable def q_bst (S : Nat → Nat → Int32) (w : Nat) : Nat → Option Nat
  | 0 => none
  | c + 1 => q_if (q_cost S w c = -1) (q_bst S w c) (match q_bst S w c with
    | none => some c
    | some b => q_if (q_cost S w c < q_cost S w b) (some c) (some b))
noncomputable def q_bc (S : Nat → Nat → Int32) (w : Nat) : Option Nat → Int32
  | none => -1
  | some b => q_cost S w b
def q_lst : Nat → Option Nat
  | 0 => none
  | c + 1 => some c
theorem q_bst_1 {S : Nat → Nat → Int32} {w c : Nat} (h : q_cost S w c = -1) : q_bst S w (c + 1) = q_bst S w c := q_if_t h
theorem q_bst_2 {S : Nat → Nat → Int32} {w c : Nat} (h : ¬ q_cost S w c = -1) (hb : q_bst S w c = none) : q_bst S w (c + 1) = some c := by
  refine (q_if_f h).trans ?_
  rw [hb]
theorem q_bst_3 {S : Nat → Nat → Int32} {w c b : Nat} (h : ¬ q_cost S w c = -1) (hb : q_bst S w c = some b) (hl : q_cost S w c < q_cost S w b) : q_bst S w (c + 1) = some c := by
  refine (q_if_f h).trans ?_
  rw [hb]
  exact q_if_t hl
theorem q_bst_4 {S : Nat → Nat → Int32} {w c b : Nat} (h : ¬ q_cost S w c = -1) (hb : q_bst S w c = some b) (hl : ¬ q_cost S w c < q_cost S w b) : q_bst S w (c + 1) = some b := by
  refine (q_if_f h).trans ?_
  rw [hb]
  exact q_if_f hl
theorem q_bst_ne {S : Nat → Nat → Int32} {w b : Nat} : ∀ {c : Nat}, q_bst S w c = some b → ¬ q_cost S w b = -1 ∧ b < c
  | 0, h => by cases h
  | c + 1, h => by
    by_cases h1 : q_cost S w c = -1
    · rw [q_bst_1 h1] at h
      have := q_bst_ne h
      exact ⟨this.1, by omega⟩
    · cases hb : q_bst S w c with
      | none =>
        rw [q_bst_2 h1 hb] at h
        cases h
        exact ⟨h1, by omega⟩
      | some b' =>
        by_cases hl : q_cost S w c < q_cost S w b'
        · rw [q_bst_3 h1 hb hl] at h
          cases h
          exact ⟨h1, by omega⟩
        · rw [q_bst_4 h1 hb hl] at h
          cases h
          have := q_bst_ne hb
          exact ⟨this.1, by omega⟩
theorem q_pow3 {w : Nat} (h : w ≤ 8) : 3 ^ w ≤ 6561 := Nat.le_trans (Nat.pow_le_pow_right (by decide) h) (by decide)
section WWB
variable {g : ww_G} {M M1 : ww_M} {x : Nat} {ar : Nat → Nat} {n w t : Nat} {S S1 : Nat → Nat → Int32} {v : Int32} {Q : Option Value → ww_M → Prop}
set_option maxRecDepth 20000 in
theorem m_plans_a (hM : ww_mo x ar M.1 M.2.2.1) (hu : ww_up x ar M S1 M1) (hw : S1 26 0 = nI w) (h8 : w ≤ 8) (kk : ww_A g wy_X7_plans 3 0 0 M1 22 [(0, .ref x), (1, .int (nI (3 ^ w)))] [] Q ww_no) : ∀ m i, i + m = w → ww_A g wy_X7_plans 3 0 0 M1 4 [(0, .ref x), (1, .int (nI (3 ^ i))), (2, .int (nI i))] [] Q ww_no
  | 0, i, hm => by
    have e : i = w := by omega
    subst e
    refine ww_iload_n (i := 2) dX7_plans_4 rfl rfl ?_
    refine ww_aload_n (i := 0) dX7_plans_5 rfl rfl ?_
    refine ww_pgetI (k := 26) hM hu dX7_plans_6 wf_X7_139 rfl rfl hw ?_
    refine ww_icmp_ge_t (tgt := 22) dX7_plans_9 (by decide) (nI_le (Nat.le_refl _) (by omega)) ?_
    -- at 22, locals [0, 1, 2]
    exact ww_subk kk ⟨rfl, rfl, trivial⟩
  | m + 1, i, hm => by
    have h3 := q_pow3 (w := i) (by omega)
    refine ww_iload_n (i := 2) dX7_plans_4 rfl rfl ?_
    refine ww_aload_n (i := 0) dX7_plans_5 rfl rfl ?_
    refine ww_pgetI (k := 26) hM hu dX7_plans_6 wf_X7_139 rfl rfl hw ?_
    refine ww_icmp_ge_f (tgt := 22) dX7_plans_9 (by decide) (nI_ge (by omega) (by omega)) ?_
    refine ww_iload_n (i := 1) dX7_plans_12 rfl rfl ?_
    refine ww_iconst (v := 3) dX7_plans_13 (by decide) ?_
    refine ww_imul dX7_plans_14 ?_
    refine ww_istore_n (i := 1) (lv2 := [(0, _), (1, _), (2, _)]) dX7_plans_15 rfl (Nat.le_of_ble_eq_true rfl) rfl ?_
    refine ww_iinc (i := 2) (v := _ + 1) (lv2 := [(0, _), (1, _), (2, _)]) dX7_plans_16 rfl (by rfl) (Nat.le_of_ble_eq_true rfl) rfl ?_
    refine ww_goto (tgt := 4) dX7_plans_19 (by decide) ?_
    -- at 4, locals [0, 1, 2]
    rw [nI_1, q_mul3 (by omega), show 3 * 3 ^ i = 3 ^ (i + 1) by rw [Nat.pow_succ]; omega]
    exact m_plans_a hM hu hw h8 kk m (i + 1) (by omega)
set_option maxRecDepth 20000 in
set_option maxHeartbeats 4000000 in
theorem m_plans_w (hM : ww_mo x ar M.1 M.2.2.1) (h8 : w ≤ 8) {c L : Nat} {o : Int32} (hc : c < 2 ^ 30) (kk : ∀ M2, ww_up x ar M (q_wm S w c 0) M2 → ww_A g wy_X7_plans 3 0 0 M2 70 [(0, .ref x), (1, .int (nI L)), (2, .int o), (3, .int (nI c))] [] Q ww_no) : ∀ (m : Nat) (M1 : ww_M), m ≤ w → ww_up x ar M (q_wm S w c m) M1 → ww_A g wy_X7_plans 3 0 0 M1 42 [(0, .ref x), (1, .int (nI L)), (2, .int o), (3, .int (nI c)), (4, .int (nI (c / 3 ^ (w - m)))), (5, .int (nI m - 1))] [] Q ww_no
  | 0, M1, hm, hu => by
    refine ww_iload (i := 5) dX7_plans_42 rfl ?_
    refine ww_if_lt_t (tgt := 70) dX7_plans_44 (by decide) (by decide) ?_
    -- at 70, locals [0, 1, 2, 3, 4, 5]
    exact ww_subk (kk M1 hu) ⟨rfl, rfl, rfl, rfl, trivial⟩
  | m + 1, M1, hm, hu => by
    have hd : c / 3 ^ (w - (m + 1)) < 2 ^ 30 := Nat.lt_of_le_of_lt (Nat.div_le_self _ _) hc
    have e1 : c / 3 ^ (w - (m + 1)) % 3 = q_dg w c m := by unfold q_dg; rw [show w - (m + 1) = w - 1 - m by omega]
    have e2 : c / 3 ^ (w - (m + 1)) / 3 = c / 3 ^ (w - m) := by rw [Nat.div_div_eq_div_mul, ← Nat.pow_succ, show (w - (m + 1)).succ = w - m by omega]
    rw [nI_succ, Int32.add_sub_cancel]
    refine ww_iload (i := 5) dX7_plans_42 rfl ?_
    refine ww_if_lt_f (tgt := 70) dX7_plans_44 (by decide) (nI_pos (by omega)) ?_
    refine ww_aload_n (i := 0) dX7_plans_47 rfl rfl ?_
    refine ww_getR (f := 350) wf_X7_89 dX7_plans_48 rfl rfl (ww_up_mo hM hu).1.1 (ww_up_mo hM hu).1.2 ((ww_up_mo hM hu).2.1 30 rfl) ?_
    refine ww_iload (i := 5) dX7_plans_51 rfl ?_
    refine ww_iload (i := 4) dX7_plans_53 rfl ?_
    refine ww_iconst (v := 3) dX7_plans_55 (by decide) ?_
    refine ww_irem dX7_plans_56 (by decide) ?_
    -- at 57, locals [0, 1, 2, 3, 4, 5]
    rw [q_rem3 hd, e1]
    refine ww_past (k := 30) hM hu dX7_plans_57 rfl rfl rfl (show _ < 8 by omega) (fun M1 hu => ?_)
    refine ww_iload (i := 4) dX7_plans_58 rfl ?_
    refine ww_iconst (v := 3) dX7_plans_60 (by decide) ?_
    refine ww_idiv dX7_plans_61 (by decide) ?_
    refine ww_istore (i := 4) (lv2 := [(0, _), (1, _), (2, _), (3, _), (4, _), (5, _)]) dX7_plans_62 (Nat.le_of_ble_eq_true rfl) rfl ?_
    refine ww_iinc (i := 5) (v := _ + (-1)) (lv2 := [(0, _), (1, _), (2, _), (3, _), (4, _), (5, _)]) dX7_plans_64 rfl (by rfl) (Nat.le_of_ble_eq_true rfl) rfl ?_
    refine ww_goto (tgt := 42) dX7_plans_67 (by decide) ?_
    -- at 42, locals [0, 1, 2, 3, 4, 5]
    rw [q_wm_s (by omega)] at hu
    rw [q_div3 hd, e2, show nI m + -1 = nI m - 1 by rw [Int32.sub_eq_add_neg]]
    exact m_plans_w hM h8 hc kk m _ (by omega) hu
set_option maxRecDepth 20000 in
set_option maxHeartbeats 4000000 in
theorem m_plans_c (hM : ww_mo x ar M.1 M.2.2.1) (hw : S1 26 0 = nI w) (h8 : w ≤ 8) {c L : Nat} {o : Int32} (kk : ∀ M2, ww_up x ar M (q_cp S1 w) M2 → ww_A g wy_X7_plans 3 0 0 M2 128 [(0, .ref x), (1, .int (nI L)), (2, .int o), (3, .int (nI c))] [] Q ww_no) : ∀ (m j : Nat) (M1 : ww_M), j + m = w → ww_up x ar M (q_cp S1 j) M1 → ww_A g wy_X7_plans 3 0 0 M1 99 [(0, .ref x), (1, .int (nI L)), (2, .int o), (3, .int (nI c)), (6, .int (nI j))] [] Q ww_no
  | 0, j, M1, hm, hu => by
    have e : j = w := by omega
    subst e
    have hw1 : q_cp S1 j 26 0 = nI j := (congrFun (q_cp_k (by decide)) 0).trans hw
    refine ww_iload (i := 6) dX7_plans_99 rfl ?_
    refine ww_aload_n (i := 0) dX7_plans_101 rfl rfl ?_
    refine ww_pgetI (k := 26) hM hu dX7_plans_102 wf_X7_139 rfl rfl hw1 ?_
    refine ww_icmp_ge_t (tgt := 128) dX7_plans_105 (by decide) (nI_le (Nat.le_refl _) (by omega)) ?_
    -- at 128, locals [0, 1, 2, 3, 6]
    exact ww_subk (kk M1 hu) ⟨rfl, rfl, rfl, rfl, trivial⟩
  | m + 1, j, M1, hm, hu => by
    have hw1 : q_cp S1 j 26 0 = nI w := (congrFun (q_cp_k (by decide)) 0).trans hw
    have e30 : q_cp S1 j 30 j = S1 30 j := congrFun (q_cp_k (by decide)) j
    refine ww_iload (i := 6) dX7_plans_99 rfl ?_
    refine ww_aload_n (i := 0) dX7_plans_101 rfl rfl ?_
    refine ww_pgetI (k := 26) hM hu dX7_plans_102 wf_X7_139 rfl rfl hw1 ?_
    refine ww_icmp_ge_f (tgt := 128) dX7_plans_105 (by decide) (nI_ge (by omega) (by omega)) ?_
    refine ww_aload_n (i := 0) dX7_plans_108 rfl rfl ?_
    refine ww_getR (f := 349) wf_X7_86 dX7_plans_109 rfl rfl (ww_up_mo hM hu).1.1 (ww_up_mo hM hu).1.2 ((ww_up_mo hM hu).2.1 29 rfl) ?_
    refine ww_iload (i := 6) dX7_plans_112 rfl ?_
    refine ww_aload_n (i := 0) dX7_plans_114 rfl rfl ?_
    refine ww_getR (f := 350) wf_X7_89 dX7_plans_115 rfl rfl (ww_up_mo hM hu).1.1 (ww_up_mo hM hu).1.2 ((ww_up_mo hM hu).2.1 30 rfl) ?_
    refine ww_iload (i := 6) dX7_plans_118 rfl ?_
    refine ww_pald (k := 30) hM hu dX7_plans_120 rfl rfl rfl (show _ < 8 by omega) e30 ?_
    refine ww_past (k := 29) hM hu dX7_plans_121 rfl rfl rfl (show _ < 8 by omega) (fun M1 hu => ?_)
    refine ww_iinc (i := 6) (v := _ + 1) (lv2 := [(0, _), (1, _), (2, _), (3, _), (6, _)]) dX7_plans_122 rfl (by rfl) (Nat.le_of_ble_eq_true rfl) rfl ?_
    refine ww_goto (tgt := 99) dX7_plans_125 (by decide) ?_
    -- at 99, locals [0, 1, 2, 3, 6]
    rw [q_cp_s] at hu
    rw [nI_1]
    exact m_plans_c hM hw h8 kk m (j + 1) _ (by omega) hu
set_option maxRecDepth 20000 in
set_option maxHeartbeats 4000000 in
theorem m_plans_l (hM : ww_mo x ar M.1 M.2.2.1) (hW : q_W S n w) (h6 : n ≤ 60) : ∀ (m c : Nat) (M1 : ww_M), c + m = 3 ^ w → ww_up x ar M (q_pl S w (q_bst S w c) (q_lst c)) M1 → ww_A g wy_X7_plans 3 0 0 M1 26 [(0, .ref x), (1, .int (nI (3 ^ w))), (2, .int (q_bc S w (q_bst S w c))), (3, .int (nI c))] [] (ww_ru x ar M (some (.int (q_bc S w (q_bst S w (3 ^ w))))) (q_pl S w (q_bst S w (3 ^ w)) (q_lst (3 ^ w)))) ww_no
  | 0, c, M1, hm, hu => by
    have h3 := q_pow3 hW.2.1
    have e : c = 3 ^ w := by omega
    subst e
    refine ww_iload_n (i := 3) dX7_plans_26 rfl rfl ?_
    refine ww_iload_n (i := 1) dX7_plans_27 rfl rfl ?_
    refine ww_icmp_ge_t (tgt := 134) dX7_plans_28 (by decide) (nI_le (Nat.le_refl _) (by omega)) ?_
    refine ww_iload_n (i := 2) dX7_plans_134 rfl rfl ?_
    exact ww_ireturn dX7_plans_135 rfl (by first | rfl | exact ww_b_nar) ⟨rfl, hu⟩
  | m + 1, c, M1, hm, hu => by
    have h3 := q_pow3 hW.2.1
    have h8 := hW.2.1
    have hw1 : ∀ o l, q_pl S w o l 26 0 = nI w := fun o l => (congrFun (q_pl_k (by decide)) 0).trans hW.1
    have hl := fun M1 hu => m_plans_l hM hW h6 m (c + 1) M1 (by omega) hu
    rw [← nI_1] at hl
    refine ww_iload_n (i := 3) dX7_plans_26 rfl rfl ?_
    refine ww_iload_n (i := 1) dX7_plans_27 rfl rfl ?_
    refine ww_icmp_ge_f (tgt := 134) dX7_plans_28 (by decide) (nI_ge (by omega) (by omega)) ?_
    refine ww_iload_n (i := 3) dX7_plans_31 rfl rfl ?_
    refine ww_istore (i := 4) (lv2 := [(0, _), (1, _), (2, _), (3, _), (4, _)]) dX7_plans_32 (Nat.le_of_ble_eq_true rfl) rfl ?_
    refine ww_aload_n (i := 0) dX7_plans_34 rfl rfl ?_
    refine ww_pgetI (k := 26) hM hu dX7_plans_35 wf_X7_139 rfl rfl (hw1 _ _) ?_
    refine ww_iconst (v := 1) dX7_plans_38 (by decide) ?_
    refine ww_isub dX7_plans_39 ?_
    refine ww_istore (i := 5) (lv2 := [(0, _), (1, _), (2, _), (3, _), (4, _), (5, _)]) dX7_plans_40 (Nat.le_of_ble_eq_true rfl) rfl ?_
    -- at 42, locals [0, 1, 2, 3, 4, 5]
    have hq : ww_up x ar M (q_wm (q_pl S w (q_bst S w c) (q_lst c)) w c w) M1 := by rw [q_wm_w]; exact hu
    have hk := m_plans_w (g := g) (S := q_pl S w (q_bst S w c) (q_lst c)) (L := 3 ^ w) (o := q_bc S w (q_bst S w c)) (Q := ww_ru x ar M (some (.int (q_bc S w (q_bst S w (3 ^ w))))) (q_pl S w (q_bst S w (3 ^ w)) (q_lst (3 ^ w)))) hM h8 (c := c) (by omega) ?_ w M1 (Nat.le_refl _) hq
    · rw [Nat.sub_self, Nat.pow_zero, Nat.div_one] at hk
      exact ww_subk hk ⟨rfl, rfl, rfl, rfl, rfl, rfl, trivial⟩
    intro M2 hu
    rw [q_pl_w] at hu
    have hW2 : q_W (q_pl S w (q_bst S w c) (some c)) n w := by
      refine ⟨hw1 _ _, h8, fun i hi => ?_⟩
      have e : q_pl S w (q_bst S w c) (some c) 27 = S 27 := q_pl_k (by decide)
      unfold q_wq
      rw [e]
      exact hW.2.2 i hi
    have hcall := u_movesOf (g := g) hM hu hW2 h6
    rw [q_cost_e] at hcall
    by_cases c1 : q_cost S w c = -1
    · refine ww_aload_n (i := 0) dX7_plans_70 rfl rfl ?_
      refine ww_callV (κ := 8) (r := (RX7, TX7, 33)) wk_X7_189 dX7_plans_71 (hcall) rfl rfl (show ww_is _ _ 8 from (ww_up_mo hM hu).1).1 (show ww_is _ _ 8 from (ww_up_mo hM hu).1).2 rfl rfl (by omega) (by omega) (by omega) (by first | exact Nat.le_of_ble_eq_true rfl | (simp [ww_rf_cat, Value.category])) rfl (fun E M9 h9 => h9.elim) (fun v9 M9 h9 => ?_)
      obtain ⟨rfl, rfl⟩ := h9
      refine ww_istore (i := 5) (lv2 := [(0, _), (1, _), (2, _), (3, _), (5, _)]) dX7_plans_74 (Nat.le_of_ble_eq_true rfl) rfl ?_
      refine ww_iload (i := 5) dX7_plans_76 rfl ?_
      refine ww_iconst (v := (-1)) dX7_plans_78 (by decide) ?_
      refine ww_icmp_eq_t (tgt := 128) dX7_plans_79 (by decide) c1 ?_
      refine ww_iinc (i := 3) (v := _ + 1) (lv2 := [(0, _), (1, _), (2, _), (3, _), (5, _)]) dX7_plans_128 rfl (by rfl) (Nat.le_of_ble_eq_true rfl) rfl ?_
      refine ww_goto (tgt := 26) dX7_plans_131 (by decide) ?_
      -- at 26, locals [0, 1, 2, 3, 5]
      rw [q_bst_1 c1] at hl
      exact ww_subk (hl _ hu) ⟨rfl, rfl, rfl, rfl, trivial⟩
    · have hcopy : ∀ M2, ww_up x ar M (q_pl S w (q_bst S w c) (some c)) M2 → q_bst S w (c + 1) = some c → ww_A g wy_X7_plans 3 0 0 M2 99 [(0, .ref x), (1, .int (nI (3 ^ w))), (2, .int (q_cost S w c)), (3, .int (nI c)), (6, .int (nI 0))] [] (ww_ru x ar M (some (.int (q_bc S w (q_bst S w (3 ^ w))))) (q_pl S w (q_bst S w (3 ^ w)) (q_lst (3 ^ w)))) ww_no := by
        intro M2 hu hb
        refine m_plans_c (S1 := q_pl S w (q_bst S w c) (some c)) hM (hw1 _ _) h8 ?_ w 0 M2 (by omega) (by rw [q_cp_0]; exact hu)
        intro M3 hu
        rw [q_pl_c] at hu
        rw [hb] at hl
        refine ww_iinc (i := 3) (v := _ + 1) (lv2 := [(0, _), (1, _), (2, _), (3, _)]) dX7_plans_128 rfl (by rfl) (Nat.le_of_ble_eq_true rfl) rfl ?_
        refine ww_goto (tgt := 26) dX7_plans_131 (by decide) ?_
        -- at 26, locals [0, 1, 2, 3]
        exact hl _ hu
      rw [nI_0] at hcopy
      cases hb : q_bst S w c with
      | none =>
        rw [hb] at hu hcopy
        refine ww_aload_n (i := 0) dX7_plans_70 rfl rfl ?_
        refine ww_callV (κ := 8) (r := (RX7, TX7, 33)) wk_X7_189 dX7_plans_71 (hcall) rfl rfl (show ww_is _ _ 8 from (ww_up_mo hM hu).1).1 (show ww_is _ _ 8 from (ww_up_mo hM hu).1).2 rfl rfl (by omega) (by omega) (by omega) (by first | exact Nat.le_of_ble_eq_true rfl | (simp [ww_rf_cat, Value.category])) rfl (fun E M9 h9 => h9.elim) (fun v9 M9 h9 => ?_)
        obtain ⟨rfl, rfl⟩ := h9
        refine ww_istore (i := 5) (lv2 := [(0, _), (1, _), (2, _), (3, _), (5, _)]) dX7_plans_74 (Nat.le_of_ble_eq_true rfl) rfl ?_
        refine ww_iload (i := 5) dX7_plans_76 rfl ?_
        refine ww_iconst (v := (-1)) dX7_plans_78 (by decide) ?_
        refine ww_icmp_eq_f (tgt := 128) dX7_plans_79 (by decide) c1 ?_
        refine ww_iload_n (i := 2) dX7_plans_82 rfl rfl ?_
        refine ww_iconst (v := (-1)) dX7_plans_83 (by decide) ?_
        refine ww_icmp_eq_t (tgt := 93) dX7_plans_84 (by decide) rfl ?_
        refine ww_iload (i := 5) dX7_plans_93 rfl ?_
        refine ww_istore_n (i := 2) (lv2 := [(0, _), (1, _), (2, _), (3, _), (5, _)]) dX7_plans_95 rfl (Nat.le_of_ble_eq_true rfl) rfl ?_
        refine ww_iconst (v := 0) dX7_plans_96 (by decide) ?_
        refine ww_istore (i := 6) (lv2 := [(0, _), (1, _), (2, _), (3, _), (5, _), (6, _)]) dX7_plans_97 (Nat.le_of_ble_eq_true rfl) rfl ?_
        -- at 99, locals [0, 1, 2, 3, 5, 6]
        exact ww_subk (hcopy _ hu (q_bst_2 c1 hb)) ⟨rfl, rfl, rfl, rfl, rfl, trivial⟩
      | some b =>
        rw [hb] at hu hcopy
        have hbne := (q_bst_ne hb).1
        by_cases c2 : q_cost S w c < q_cost S w b
        · have c2' : ¬ q_cost S w b ≤ q_cost S w c := by rw [ww_le']; rw [ww_lt] at c2; omega
          refine ww_aload_n (i := 0) dX7_plans_70 rfl rfl ?_
          refine ww_callV (κ := 8) (r := (RX7, TX7, 33)) wk_X7_189 dX7_plans_71 (hcall) rfl rfl (show ww_is _ _ 8 from (ww_up_mo hM hu).1).1 (show ww_is _ _ 8 from (ww_up_mo hM hu).1).2 rfl rfl (by omega) (by omega) (by omega) (by first | exact Nat.le_of_ble_eq_true rfl | (simp [ww_rf_cat, Value.category])) rfl (fun E M9 h9 => h9.elim) (fun v9 M9 h9 => ?_)
          obtain ⟨rfl, rfl⟩ := h9
          refine ww_istore (i := 5) (lv2 := [(0, _), (1, _), (2, _), (3, _), (5, _)]) dX7_plans_74 (Nat.le_of_ble_eq_true rfl) rfl ?_
          refine ww_iload (i := 5) dX7_plans_76 rfl ?_
          refine ww_iconst (v := (-1)) dX7_plans_78 (by decide) ?_
          refine ww_icmp_eq_f (tgt := 128) dX7_plans_79 (by decide) c1 ?_
          refine ww_iload_n (i := 2) dX7_plans_82 rfl rfl ?_
          refine ww_iconst (v := (-1)) dX7_plans_83 (by decide) ?_
          refine ww_icmp_eq_f (tgt := 93) dX7_plans_84 (by decide) hbne ?_
          refine ww_iload (i := 5) dX7_plans_87 rfl ?_
          refine ww_iload_n (i := 2) dX7_plans_89 rfl rfl ?_
          refine ww_icmp_ge_f (tgt := 128) dX7_plans_90 (by decide) c2' ?_
          refine ww_iload (i := 5) dX7_plans_93 rfl ?_
          refine ww_istore_n (i := 2) (lv2 := [(0, _), (1, _), (2, _), (3, _), (5, _)]) dX7_plans_95 rfl (Nat.le_of_ble_eq_true rfl) rfl ?_
          refine ww_iconst (v := 0) dX7_plans_96 (by decide) ?_
          refine ww_istore (i := 6) (lv2 := [(0, _), (1, _), (2, _), (3, _), (5, _), (6, _)]) dX7_plans_97 (Nat.le_of_ble_eq_true rfl) rfl ?_
          -- at 99, locals [0, 1, 2, 3, 5, 6]
          exact ww_subk (hcopy _ hu (q_bst_3 c1 hb c2)) ⟨rfl, rfl, rfl, rfl, rfl, trivial⟩
        · have c2' : q_cost S w b ≤ q_cost S w c := by rw [ww_le']; rw [ww_lt] at c2; omega
          refine ww_aload_n (i := 0) dX7_plans_70 rfl rfl ?_
          refine ww_callV (κ := 8) (r := (RX7, TX7, 33)) wk_X7_189 dX7_plans_71 (hcall) rfl rfl (show ww_is _ _ 8 from (ww_up_mo hM hu).1).1 (show ww_is _ _ 8 from (ww_up_mo hM hu).1).2 rfl rfl (by omega) (by omega) (by omega) (by first | exact Nat.le_of_ble_eq_true rfl | (simp [ww_rf_cat, Value.category])) rfl (fun E M9 h9 => h9.elim) (fun v9 M9 h9 => ?_)
          obtain ⟨rfl, rfl⟩ := h9
          refine ww_istore (i := 5) (lv2 := [(0, _), (1, _), (2, _), (3, _), (5, _)]) dX7_plans_74 (Nat.le_of_ble_eq_true rfl) rfl ?_
          refine ww_iload (i := 5) dX7_plans_76 rfl ?_
          refine ww_iconst (v := (-1)) dX7_plans_78 (by decide) ?_
          refine ww_icmp_eq_f (tgt := 128) dX7_plans_79 (by decide) c1 ?_
          refine ww_iload_n (i := 2) dX7_plans_82 rfl rfl ?_
          refine ww_iconst (v := (-1)) dX7_plans_83 (by decide) ?_
          refine ww_icmp_eq_f (tgt := 93) dX7_plans_84 (by decide) hbne ?_
          refine ww_iload (i := 5) dX7_plans_87 rfl ?_
          refine ww_iload_n (i := 2) dX7_plans_89 rfl rfl ?_
          refine ww_icmp_ge_t (tgt := 128) dX7_plans_90 (by decide) c2' ?_
          refine ww_iinc (i := 3) (v := _ + 1) (lv2 := [(0, _), (1, _), (2, _), (3, _), (5, _)]) dX7_plans_128 rfl (by rfl) (Nat.le_of_ble_eq_true rfl) rfl ?_
          refine ww_goto (tgt := 26) dX7_plans_131 (by decide) ?_
          -- at 26, locals [0, 1, 2, 3, 5]
          rw [q_bst_4 c1 hb c2] at hl
          exact ww_subk (hl _ hu) ⟨rfl, rfl, rfl, rfl, trivial⟩
/-- the best plan's moves, and the plan -/
noncomputable def q_pb (S : Nat → Nat → Int32) (w : Nat) : Int32 := q_bc S w (q_bst S w (3 ^ w))
noncomputable def q_plans (S : Nat → Nat → Int32) (w : Nat) : Nat → Nat → Int32 := q_pl S w (q_bst S w (3 ^ w)) (q_lst (3 ^ w))
set_option maxRecDepth 20000 in
theorem u_plans (hM : ww_mo x ar M.1 M.2.2.1) (hu : ww_up x ar M S M1) (hW : q_W S n w) (h6 : n ≤ 60) : ww_C g wy_X7_plans 3 0 0 [.ref x] M1 (ww_ru x ar M (some (.int (q_pb S w))) (q_plans S w)) ww_no := by
  refine ww_ent (by decide +kernel) (Nat.le_of_ble_eq_true rfl) ⟨rfl, trivial⟩ ?_
  have hl := m_plans_l (g := g) hM hW h6 (3 ^ w) 0 M1 (by omega) (by rw [show q_bst S w 0 = none from rfl, show q_lst 0 = none from rfl, q_pl_0]; exact hu)
  have ha := m_plans_a (g := g) (Q := ww_ru x ar M (some (.int (q_pb S w))) (q_plans S w)) hM hu hW.1 hW.2.1 ?_ w 0 (by omega)
  · refine ww_iconst (v := 1) dX7_plans_0 (by decide) ?_
    refine ww_istore_n (i := 1) (lv2 := [(0, _), (1, _)]) dX7_plans_1 rfl (Nat.le_of_ble_eq_true rfl) rfl ?_
    refine ww_iconst (v := 0) dX7_plans_2 (by decide) ?_
    refine ww_istore_n (i := 2) (lv2 := [(0, _), (1, _), (2, _)]) dX7_plans_3 rfl (Nat.le_of_ble_eq_true rfl) rfl ?_
    -- at 4, locals [0, 1, 2]
    exact ww_subk ha ⟨rfl, rfl, rfl, trivial⟩
  · refine ww_iconst (v := (-1)) dX7_plans_22 (by decide) ?_
    refine ww_istore_n (i := 2) (lv2 := [(0, _), (1, _), (2, _)]) dX7_plans_23 rfl (Nat.le_of_ble_eq_true rfl) rfl ?_
    refine ww_iconst (v := 0) dX7_plans_24 (by decide) ?_
    refine ww_istore_n (i := 3) (lv2 := [(0, _), (1, _), (2, _), (3, _)]) dX7_plans_25 rfl (Nat.le_of_ble_eq_true rfl) rfl ?_
    -- at 26, locals [0, 1, 2, 3]
    exact ww_subk hl ⟨rfl, rfl, rfl, rfl, trivial⟩
end WWB
