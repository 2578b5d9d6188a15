/-! ===== plans: the moves of one assignment ===== -/
def q_inv (S : Nat → Nat → Int32) (i j : Nat) : Prop := S 30 i = S 30 j ∧ i < j ∧ S 28 (q_wq S i) < S 28 (q_wq S j)
noncomputable def q_roadN (S : Nat → Nat → Int32) (w i : Nat) : Nat := q_cnt (fun j => S 30 i = S 30 j) w
noncomputable def q_invN (S : Nat → Nat → Int32) (w i : Nat) : Nat := q_cnt (fun j => q_inv S i j) w
def q_sum (f : Nat → Nat) : Nat → Nat
  | 0 => 0
  | n + 1 => q_sum f n + f n
theorem q_sum_le {f : Nat → Nat} {b : Nat} (h : ∀ i, f i ≤ b) : ∀ n, q_sum f n ≤ n * b
  | 0 => by show 0 ≤ _; omega
  | n + 1 => by
    have h1 := q_sum_le h n
    have h2 := h n
    show q_sum f n + f n ≤ (n + 1) * b
    rw [Nat.succ_mul]
    omega
theorem q_sum_cg {f k : Nat → Nat} : ∀ {n : Nat}, (∀ i, i < n → f i = k i) → q_sum f n = q_sum k n
  | 0, _ => rfl
  | n + 1, h => by
    show q_sum f n + f n = q_sum k n + k n
    rw [q_sum_cg (fun i hi => h i (by omega)), h n (by omega)]
noncomputable def q_mo (S : Nat → Nat → Int32) (w : Nat) : Int32 := q_if (∃ i, i < w ∧ 4 < q_roadN S w i) (-1) (nI (q_sum (q_invN S w) w))
theorem q_mo_cg {S S' : Nat → Nat → Int32} {w : Nat} (h : ∀ i, i < w → S' 30 i = S 30 i ∧ S' 28 (q_wq S' i) = S 28 (q_wq S i)) : q_mo S' w = q_mo S w := by
  have e1 : ∀ i, i < w → q_roadN S' w i = q_roadN S w i := fun i hi => q_cnt_cg (fun j hj => by rw [(h i hi).1, (h j hj).1])
  have e2 : q_sum (q_invN S' w) w = q_sum (q_invN S w) w := q_sum_cg (fun i hi => q_cnt_cg (fun j hj => by
    unfold q_inv
    rw [(h i hi).1, (h j hj).1, (h i hi).2, (h j hj).2]))
  unfold q_mo
  rw [e2]
  refine q_if_cg ⟨fun ⟨i, hi, z⟩ => ⟨i, hi, by rw [← e1 i hi]; exact z⟩, fun ⟨i, hi, z⟩ => ⟨i, hi, by rw [e1 i hi]; exact z⟩⟩
section WWA
variable {g : ww_G} {M M1 : ww_M} {x : Nat} {ar : Nat → Nat} {n w t : Nat} {S S1 : Nat → Nat → Int32} {v : Int32} {Q : Option Value → ww_M → Prop}
set_option maxRecDepth 20000 in
set_option maxHeartbeats 4000000 in
theorem m_movesOf_i (hM : ww_mo x ar M.1 M.2.2.1) (hu : ww_up x ar M S1 M1) (hW : q_W S1 n w) (h6 : n ≤ 60) {i c : Nat} (hi : i < w) (hc : c ≤ 64) (kk : ww_A g wy_X7_movesOf 1 0 0 M1 113 [(0, .ref x), (1, .int (nI (c + q_invN S1 w i))), (2, .int (nI i)), (3, .int (nI (q_roadN S1 w i)))] [] Q ww_no) : ∀ m j, j + m = w → ww_A g wy_X7_movesOf 1 0 0 M1 17 [(0, .ref x), (1, .int (nI (c + q_cnt (fun j => q_inv S1 i j) j))), (2, .int (nI i)), (3, .int (nI (q_cnt (fun j => S1 30 i = S1 30 j) j))), (4, .int (nI j))] [] Q ww_no
  | 0, j, hm => by
    have e : j = w := by omega
    subst e
    have h8 := hW.2.1
    refine ww_iload (i := 4) dX7_movesOf_17 rfl ?_
    refine ww_aload_n (i := 0) dX7_movesOf_19 rfl rfl ?_
    refine ww_pgetI (k := 26) hM hu dX7_movesOf_20 wf_X7_139 rfl rfl hW.1 ?_
    refine ww_icmp_ge_t (tgt := 113) dX7_movesOf_23 (by decide) (nI_le (Nat.le_refl _) (by omega)) ?_
    -- at 113, locals [0, 1, 2, 3, 4]
    exact ww_subk kk ⟨rfl, rfl, rfl, rfl, trivial⟩
  | m + 1, j, hm => by
    have h8 := hW.2.1
    have hwi := hW.2.2 i (by omega)
    have hwj := hW.2.2 j (by omega)
    have hl := m_movesOf_i hM hu hW h6 hi hc kk m (j + 1) (by omega)
    by_cases c1 : S1 30 i = S1 30 j
    · rw [q_cnt_s (P := fun j => S1 30 i = S1 30 j) c1, ← nI_1 (q_cnt (fun j => S1 30 i = S1 30 j) j)] at hl
      by_cases c2 : i < j
      · by_cases c3 : S1 28 (q_wq S1 i) < S1 28 (q_wq S1 j)
        · rw [q_cnt_s (P := fun j => q_inv S1 i j) ⟨c1, c2, c3⟩, ← Nat.add_assoc, ← nI_1 (c + _)] at hl
          have c3' : ¬ S1 28 (q_wq S1 j) ≤ S1 28 (q_wq S1 i) := by rw [ww_le']; rw [ww_lt] at c3; omega
          refine ww_iload (i := 4) dX7_movesOf_17 rfl ?_
          refine ww_aload_n (i := 0) dX7_movesOf_19 rfl rfl ?_
          refine ww_pgetI (k := 26) hM hu dX7_movesOf_20 wf_X7_139 rfl rfl hW.1 ?_
          refine ww_icmp_ge_f (tgt := 113) dX7_movesOf_23 (by decide) (nI_ge (by omega) (by omega)) ?_
          refine ww_aload_n (i := 0) dX7_movesOf_26 rfl rfl ?_
          refine ww_getR (f := 350) wf_X7_89 dX7_movesOf_27 rfl rfl (ww_up_mo hM hu).1.1 (ww_up_mo hM hu).1.2 ((ww_up_mo hM hu).2.1 30 rfl) ?_
          refine ww_iload_n (i := 2) dX7_movesOf_30 rfl rfl ?_
          refine ww_pald (k := 30) hM hu dX7_movesOf_31 rfl rfl rfl (show _ < 8 by omega) (rfl) ?_
          refine ww_aload_n (i := 0) dX7_movesOf_32 rfl rfl ?_
          refine ww_getR (f := 350) wf_X7_89 dX7_movesOf_33 rfl rfl (ww_up_mo hM hu).1.1 (ww_up_mo hM hu).1.2 ((ww_up_mo hM hu).2.1 30 rfl) ?_
          refine ww_iload (i := 4) dX7_movesOf_36 rfl ?_
          refine ww_pald (k := 30) hM hu dX7_movesOf_38 rfl rfl rfl (show _ < 8 by omega) (rfl) ?_
          refine ww_icmp_ne_f (tgt := 46) dX7_movesOf_39 (by decide) c1 ?_
          refine ww_iconst (v := 1) dX7_movesOf_42 (by decide) ?_
          refine ww_goto (tgt := 47) dX7_movesOf_43 (by decide) ?_
          refine ww_istore (i := 5) (lv2 := [(0, _), (1, _), (2, _), (3, _), (4, _), (5, _)]) dX7_movesOf_47 (Nat.le_of_ble_eq_true rfl) rfl ?_
          refine ww_iload_n (i := 3) dX7_movesOf_49 rfl rfl ?_
          refine ww_iload (i := 5) dX7_movesOf_50 rfl ?_
          refine ww_if_eq_f (tgt := 59) dX7_movesOf_52 (by decide) (by decide) ?_
          refine ww_iconst (v := 1) dX7_movesOf_55 (by decide) ?_
          refine ww_goto (tgt := 60) dX7_movesOf_56 (by decide) ?_
          refine ww_iadd dX7_movesOf_60 ?_
          refine ww_istore_n (i := 3) (lv2 := [(0, _), (1, _), (2, _), (3, _), (4, _), (5, _)]) dX7_movesOf_61 rfl (Nat.le_of_ble_eq_true rfl) rfl ?_
          refine ww_iload_n (i := 1) dX7_movesOf_62 rfl rfl ?_
          refine ww_iload (i := 5) dX7_movesOf_63 rfl ?_
          refine ww_if_eq_f (tgt := 104) dX7_movesOf_65 (by decide) (by decide) ?_
          refine ww_iload (i := 4) dX7_movesOf_68 rfl ?_
          refine ww_iload_n (i := 2) dX7_movesOf_70 rfl rfl ?_
          refine ww_icmp_le_f (tgt := 104) dX7_movesOf_71 (by decide) (nI_ge (by omega) (by omega)) ?_
          refine ww_aload_n (i := 0) dX7_movesOf_74 rfl rfl ?_
          refine ww_getR (f := 348) wf_X7_83 dX7_movesOf_75 rfl rfl (ww_up_mo hM hu).1.1 (ww_up_mo hM hu).1.2 ((ww_up_mo hM hu).2.1 28 rfl) ?_
          refine ww_aload_n (i := 0) dX7_movesOf_78 rfl rfl ?_
          refine ww_getR (f := 347) wf_X7_80 dX7_movesOf_79 rfl rfl (ww_up_mo hM hu).1.1 (ww_up_mo hM hu).1.2 ((ww_up_mo hM hu).2.1 27 rfl) ?_
          refine ww_iload_n (i := 2) dX7_movesOf_82 rfl rfl ?_
          refine ww_pald (k := 27) hM hu dX7_movesOf_83 rfl rfl rfl (show _ < 8 by omega) (rfl) ?_
          refine ww_pald (k := 28) hM hu dX7_movesOf_84 rfl rfl hwi.2 (show _ < 60 by omega) (rfl) ?_
          refine ww_aload_n (i := 0) dX7_movesOf_85 rfl rfl ?_
          refine ww_getR (f := 348) wf_X7_83 dX7_movesOf_86 rfl rfl (ww_up_mo hM hu).1.1 (ww_up_mo hM hu).1.2 ((ww_up_mo hM hu).2.1 28 rfl) ?_
          refine ww_aload_n (i := 0) dX7_movesOf_89 rfl rfl ?_
          refine ww_getR (f := 347) wf_X7_80 dX7_movesOf_90 rfl rfl (ww_up_mo hM hu).1.1 (ww_up_mo hM hu).1.2 ((ww_up_mo hM hu).2.1 27 rfl) ?_
          refine ww_iload (i := 4) dX7_movesOf_93 rfl ?_
          refine ww_pald (k := 27) hM hu dX7_movesOf_95 rfl rfl rfl (show _ < 8 by omega) (rfl) ?_
          refine ww_pald (k := 28) hM hu dX7_movesOf_96 rfl rfl hwj.2 (show _ < 60 by omega) (rfl) ?_
          refine ww_icmp_ge_f (tgt := 104) dX7_movesOf_97 (by decide) c3' ?_
          refine ww_iconst (v := 1) dX7_movesOf_100 (by decide) ?_
          refine ww_goto (tgt := 105) dX7_movesOf_101 (by decide) ?_
          refine ww_iadd dX7_movesOf_105 ?_
          refine ww_istore_n (i := 1) (lv2 := [(0, _), (1, _), (2, _), (3, _), (4, _), (5, _)]) dX7_movesOf_106 rfl (Nat.le_of_ble_eq_true rfl) rfl ?_
          refine ww_iinc (i := 4) (v := _ + 1) (lv2 := [(0, _), (1, _), (2, _), (3, _), (4, _), (5, _)]) dX7_movesOf_107 rfl (by rfl) (Nat.le_of_ble_eq_true rfl) rfl ?_
          refine ww_goto (tgt := 17) dX7_movesOf_110 (by decide) ?_
          -- at 17, locals [0, 1, 2, 3, 4, 5]
          rw [nI_1 j]
          exact ww_subk hl ⟨rfl, rfl, rfl, rfl, rfl, trivial⟩
        · rw [q_cnt_n (P := fun j => q_inv S1 i j) (fun z => c3 z.2.2), ← Int32.add_zero (nI (c + _))] at hl
          have c3' : S1 28 (q_wq S1 j) ≤ S1 28 (q_wq S1 i) := by rw [ww_le']; rw [ww_lt] at c3; omega
          refine ww_iload (i := 4) dX7_movesOf_17 rfl ?_
          refine ww_aload_n (i := 0) dX7_movesOf_19 rfl rfl ?_
          refine ww_pgetI (k := 26) hM hu dX7_movesOf_20 wf_X7_139 rfl rfl hW.1 ?_
          refine ww_icmp_ge_f (tgt := 113) dX7_movesOf_23 (by decide) (nI_ge (by omega) (by omega)) ?_
          refine ww_aload_n (i := 0) dX7_movesOf_26 rfl rfl ?_
          refine ww_getR (f := 350) wf_X7_89 dX7_movesOf_27 rfl rfl (ww_up_mo hM hu).1.1 (ww_up_mo hM hu).1.2 ((ww_up_mo hM hu).2.1 30 rfl) ?_
          refine ww_iload_n (i := 2) dX7_movesOf_30 rfl rfl ?_
          refine ww_pald (k := 30) hM hu dX7_movesOf_31 rfl rfl rfl (show _ < 8 by omega) (rfl) ?_
          refine ww_aload_n (i := 0) dX7_movesOf_32 rfl rfl ?_
          refine ww_getR (f := 350) wf_X7_89 dX7_movesOf_33 rfl rfl (ww_up_mo hM hu).1.1 (ww_up_mo hM hu).1.2 ((ww_up_mo hM hu).2.1 30 rfl) ?_
          refine ww_iload (i := 4) dX7_movesOf_36 rfl ?_
          refine ww_pald (k := 30) hM hu dX7_movesOf_38 rfl rfl rfl (show _ < 8 by omega) (rfl) ?_
          refine ww_icmp_ne_f (tgt := 46) dX7_movesOf_39 (by decide) c1 ?_
          refine ww_iconst (v := 1) dX7_movesOf_42 (by decide) ?_
          refine ww_goto (tgt := 47) dX7_movesOf_43 (by decide) ?_
          refine ww_istore (i := 5) (lv2 := [(0, _), (1, _), (2, _), (3, _), (4, _), (5, _)]) dX7_movesOf_47 (Nat.le_of_ble_eq_true rfl) rfl ?_
          refine ww_iload_n (i := 3) dX7_movesOf_49 rfl rfl ?_
          refine ww_iload (i := 5) dX7_movesOf_50 rfl ?_
          refine ww_if_eq_f (tgt := 59) dX7_movesOf_52 (by decide) (by decide) ?_
          refine ww_iconst (v := 1) dX7_movesOf_55 (by decide) ?_
          refine ww_goto (tgt := 60) dX7_movesOf_56 (by decide) ?_
          refine ww_iadd dX7_movesOf_60 ?_
          refine ww_istore_n (i := 3) (lv2 := [(0, _), (1, _), (2, _), (3, _), (4, _), (5, _)]) dX7_movesOf_61 rfl (Nat.le_of_ble_eq_true rfl) rfl ?_
          refine ww_iload_n (i := 1) dX7_movesOf_62 rfl rfl ?_
          refine ww_iload (i := 5) dX7_movesOf_63 rfl ?_
          refine ww_if_eq_f (tgt := 104) dX7_movesOf_65 (by decide) (by decide) ?_
          refine ww_iload (i := 4) dX7_movesOf_68 rfl ?_
          refine ww_iload_n (i := 2) dX7_movesOf_70 rfl rfl ?_
          refine ww_icmp_le_f (tgt := 104) dX7_movesOf_71 (by decide) (nI_ge (by omega) (by omega)) ?_
          refine ww_aload_n (i := 0) dX7_movesOf_74 rfl rfl ?_
          refine ww_getR (f := 348) wf_X7_83 dX7_movesOf_75 rfl rfl (ww_up_mo hM hu).1.1 (ww_up_mo hM hu).1.2 ((ww_up_mo hM hu).2.1 28 rfl) ?_
          refine ww_aload_n (i := 0) dX7_movesOf_78 rfl rfl ?_
          refine ww_getR (f := 347) wf_X7_80 dX7_movesOf_79 rfl rfl (ww_up_mo hM hu).1.1 (ww_up_mo hM hu).1.2 ((ww_up_mo hM hu).2.1 27 rfl) ?_
          refine ww_iload_n (i := 2) dX7_movesOf_82 rfl rfl ?_
          refine ww_pald (k := 27) hM hu dX7_movesOf_83 rfl rfl rfl (show _ < 8 by omega) (rfl) ?_
          refine ww_pald (k := 28) hM hu dX7_movesOf_84 rfl rfl hwi.2 (show _ < 60 by omega) (rfl) ?_
          refine ww_aload_n (i := 0) dX7_movesOf_85 rfl rfl ?_
          refine ww_getR (f := 348) wf_X7_83 dX7_movesOf_86 rfl rfl (ww_up_mo hM hu).1.1 (ww_up_mo hM hu).1.2 ((ww_up_mo hM hu).2.1 28 rfl) ?_
          refine ww_aload_n (i := 0) dX7_movesOf_89 rfl rfl ?_
          refine ww_getR (f := 347) wf_X7_80 dX7_movesOf_90 rfl rfl (ww_up_mo hM hu).1.1 (ww_up_mo hM hu).1.2 ((ww_up_mo hM hu).2.1 27 rfl) ?_
          refine ww_iload (i := 4) dX7_movesOf_93 rfl ?_
          refine ww_pald (k := 27) hM hu dX7_movesOf_95 rfl rfl rfl (show _ < 8 by omega) (rfl) ?_
          refine ww_pald (k := 28) hM hu dX7_movesOf_96 rfl rfl hwj.2 (show _ < 60 by omega) (rfl) ?_
          refine ww_icmp_ge_t (tgt := 104) dX7_movesOf_97 (by decide) c3' ?_
          refine ww_iconst (v := 0) dX7_movesOf_104 (by decide) ?_
          refine ww_iadd dX7_movesOf_105 ?_
          refine ww_istore_n (i := 1) (lv2 := [(0, _), (1, _), (2, _), (3, _), (4, _), (5, _)]) dX7_movesOf_106 rfl (Nat.le_of_ble_eq_true rfl) rfl ?_
          refine ww_iinc (i := 4) (v := _ + 1) (lv2 := [(0, _), (1, _), (2, _), (3, _), (4, _), (5, _)]) dX7_movesOf_107 rfl (by rfl) (Nat.le_of_ble_eq_true rfl) rfl ?_
          refine ww_goto (tgt := 17) dX7_movesOf_110 (by decide) ?_
          -- at 17, locals [0, 1, 2, 3, 4, 5]
          rw [nI_1 j]
          exact ww_subk hl ⟨rfl, rfl, rfl, rfl, rfl, trivial⟩
      · rw [q_cnt_n (P := fun j => q_inv S1 i j) (fun z => c2 z.2.1), ← Int32.add_zero (nI (c + _))] at hl
        refine ww_iload (i := 4) dX7_movesOf_17 rfl ?_
        refine ww_aload_n (i := 0) dX7_movesOf_19 rfl rfl ?_
        refine ww_pgetI (k := 26) hM hu dX7_movesOf_20 wf_X7_139 rfl rfl hW.1 ?_
        refine ww_icmp_ge_f (tgt := 113) dX7_movesOf_23 (by decide) (nI_ge (by omega) (by omega)) ?_
        refine ww_aload_n (i := 0) dX7_movesOf_26 rfl rfl ?_
        refine ww_getR (f := 350) wf_X7_89 dX7_movesOf_27 rfl rfl (ww_up_mo hM hu).1.1 (ww_up_mo hM hu).1.2 ((ww_up_mo hM hu).2.1 30 rfl) ?_
        refine ww_iload_n (i := 2) dX7_movesOf_30 rfl rfl ?_
        refine ww_pald (k := 30) hM hu dX7_movesOf_31 rfl rfl rfl (show _ < 8 by omega) (rfl) ?_
        refine ww_aload_n (i := 0) dX7_movesOf_32 rfl rfl ?_
        refine ww_getR (f := 350) wf_X7_89 dX7_movesOf_33 rfl rfl (ww_up_mo hM hu).1.1 (ww_up_mo hM hu).1.2 ((ww_up_mo hM hu).2.1 30 rfl) ?_
        refine ww_iload (i := 4) dX7_movesOf_36 rfl ?_
        refine ww_pald (k := 30) hM hu dX7_movesOf_38 rfl rfl rfl (show _ < 8 by omega) (rfl) ?_
        refine ww_icmp_ne_f (tgt := 46) dX7_movesOf_39 (by decide) c1 ?_
        refine ww_iconst (v := 1) dX7_movesOf_42 (by decide) ?_
        refine ww_goto (tgt := 47) dX7_movesOf_43 (by decide) ?_
        refine ww_istore (i := 5) (lv2 := [(0, _), (1, _), (2, _), (3, _), (4, _), (5, _)]) dX7_movesOf_47 (Nat.le_of_ble_eq_true rfl) rfl ?_
        refine ww_iload_n (i := 3) dX7_movesOf_49 rfl rfl ?_
        refine ww_iload (i := 5) dX7_movesOf_50 rfl ?_
        refine ww_if_eq_f (tgt := 59) dX7_movesOf_52 (by decide) (by decide) ?_
        refine ww_iconst (v := 1) dX7_movesOf_55 (by decide) ?_
        refine ww_goto (tgt := 60) dX7_movesOf_56 (by decide) ?_
        refine ww_iadd dX7_movesOf_60 ?_
        refine ww_istore_n (i := 3) (lv2 := [(0, _), (1, _), (2, _), (3, _), (4, _), (5, _)]) dX7_movesOf_61 rfl (Nat.le_of_ble_eq_true rfl) rfl ?_
        refine ww_iload_n (i := 1) dX7_movesOf_62 rfl rfl ?_
        refine ww_iload (i := 5) dX7_movesOf_63 rfl ?_
        refine ww_if_eq_f (tgt := 104) dX7_movesOf_65 (by decide) (by decide) ?_
        refine ww_iload (i := 4) dX7_movesOf_68 rfl ?_
        refine ww_iload_n (i := 2) dX7_movesOf_70 rfl rfl ?_
        refine ww_icmp_le_t (tgt := 104) dX7_movesOf_71 (by decide) (nI_le (by omega) (by omega)) ?_
        refine ww_iconst (v := 0) dX7_movesOf_104 (by decide) ?_
        refine ww_iadd dX7_movesOf_105 ?_
        refine ww_istore_n (i := 1) (lv2 := [(0, _), (1, _), (2, _), (3, _), (4, _), (5, _)]) dX7_movesOf_106 rfl (Nat.le_of_ble_eq_true rfl) rfl ?_
        refine ww_iinc (i := 4) (v := _ + 1) (lv2 := [(0, _), (1, _), (2, _), (3, _), (4, _), (5, _)]) dX7_movesOf_107 rfl (by rfl) (Nat.le_of_ble_eq_true rfl) rfl ?_
        refine ww_goto (tgt := 17) dX7_movesOf_110 (by decide) ?_
        -- at 17, locals [0, 1, 2, 3, 4, 5]
        rw [nI_1 j]
        exact ww_subk hl ⟨rfl, rfl, rfl, rfl, rfl, trivial⟩
    · rw [q_cnt_n (P := fun j => S1 30 i = S1 30 j) c1, ← Int32.add_zero (nI (q_cnt (fun j => S1 30 i = S1 30 j) j)), q_cnt_n (P := fun j => q_inv S1 i j) (fun z => c1 z.1), ← Int32.add_zero (nI (c + _))] at hl
      refine ww_iload (i := 4) dX7_movesOf_17 rfl ?_
      refine ww_aload_n (i := 0) dX7_movesOf_19 rfl rfl ?_
      refine ww_pgetI (k := 26) hM hu dX7_movesOf_20 wf_X7_139 rfl rfl hW.1 ?_
      refine ww_icmp_ge_f (tgt := 113) dX7_movesOf_23 (by decide) (nI_ge (by omega) (by omega)) ?_
      refine ww_aload_n (i := 0) dX7_movesOf_26 rfl rfl ?_
      refine ww_getR (f := 350) wf_X7_89 dX7_movesOf_27 rfl rfl (ww_up_mo hM hu).1.1 (ww_up_mo hM hu).1.2 ((ww_up_mo hM hu).2.1 30 rfl) ?_
      refine ww_iload_n (i := 2) dX7_movesOf_30 rfl rfl ?_
      refine ww_pald (k := 30) hM hu dX7_movesOf_31 rfl rfl rfl (show _ < 8 by omega) (rfl) ?_
      refine ww_aload_n (i := 0) dX7_movesOf_32 rfl rfl ?_
      refine ww_getR (f := 350) wf_X7_89 dX7_movesOf_33 rfl rfl (ww_up_mo hM hu).1.1 (ww_up_mo hM hu).1.2 ((ww_up_mo hM hu).2.1 30 rfl) ?_
      refine ww_iload (i := 4) dX7_movesOf_36 rfl ?_
      refine ww_pald (k := 30) hM hu dX7_movesOf_38 rfl rfl rfl (show _ < 8 by omega) (rfl) ?_
      refine ww_icmp_ne_t (tgt := 46) dX7_movesOf_39 (by decide) c1 ?_
      refine ww_iconst (v := 0) dX7_movesOf_46 (by decide) ?_
      refine ww_istore (i := 5) (lv2 := [(0, _), (1, _), (2, _), (3, _), (4, _), (5, _)]) dX7_movesOf_47 (Nat.le_of_ble_eq_true rfl) rfl ?_
      refine ww_iload_n (i := 3) dX7_movesOf_49 rfl rfl ?_
      refine ww_iload (i := 5) dX7_movesOf_50 rfl ?_
      refine ww_if_eq_t (tgt := 59) dX7_movesOf_52 (by decide) (by decide) ?_
      refine ww_iconst (v := 0) dX7_movesOf_59 (by decide) ?_
      refine ww_iadd dX7_movesOf_60 ?_
      refine ww_istore_n (i := 3) (lv2 := [(0, _), (1, _), (2, _), (3, _), (4, _), (5, _)]) dX7_movesOf_61 rfl (Nat.le_of_ble_eq_true rfl) rfl ?_
      refine ww_iload_n (i := 1) dX7_movesOf_62 rfl rfl ?_
      refine ww_iload (i := 5) dX7_movesOf_63 rfl ?_
      refine ww_if_eq_t (tgt := 104) dX7_movesOf_65 (by decide) (by decide) ?_
      refine ww_iconst (v := 0) dX7_movesOf_104 (by decide) ?_
      refine ww_iadd dX7_movesOf_105 ?_
      refine ww_istore_n (i := 1) (lv2 := [(0, _), (1, _), (2, _), (3, _), (4, _), (5, _)]) dX7_movesOf_106 rfl (Nat.le_of_ble_eq_true rfl) rfl ?_
      refine ww_iinc (i := 4) (v := _ + 1) (lv2 := [(0, _), (1, _), (2, _), (3, _), (4, _), (5, _)]) dX7_movesOf_107 rfl (by rfl) (Nat.le_of_ble_eq_true rfl) rfl ?_
      refine ww_goto (tgt := 17) dX7_movesOf_110 (by decide) ?_
      -- at 17, locals [0, 1, 2, 3, 4, 5]
      rw [nI_1 j]
      exact ww_subk hl ⟨rfl, rfl, rfl, rfl, rfl, trivial⟩
set_option maxRecDepth 20000 in
set_option maxHeartbeats 4000000 in
theorem m_movesOf_l (hM : ww_mo x ar M.1 M.2.2.1) (hu : ww_up x ar M S1 M1) (hW : q_W S1 n w) (h6 : n ≤ 60) : ∀ m i, i + m = w → (∀ k, k < i → ¬ 4 < q_roadN S1 w k) → ww_A g wy_X7_movesOf 1 0 0 M1 4 [(0, .ref x), (1, .int (nI (q_sum (q_invN S1 w) i))), (2, .int (nI i))] [] (ww_ret (some (.int (q_mo S1 w))) M1) ww_no
  | 0, i, hm, hk => by
    have e : i = w := by omega
    subst e
    have h8 := hW.2.1
    have e : q_mo S1 i = nI (q_sum (q_invN S1 i) i) := q_if_f (fun ⟨k, h1, h2⟩ => hk k h1 h2)
    rw [e]
    refine ww_iload_n (i := 2) dX7_movesOf_4 rfl rfl ?_
    refine ww_aload_n (i := 0) dX7_movesOf_5 rfl rfl ?_
    refine ww_pgetI (k := 26) hM hu dX7_movesOf_6 wf_X7_139 rfl rfl hW.1 ?_
    refine ww_icmp_ge_t (tgt := 126) dX7_movesOf_9 (by decide) (nI_le (Nat.le_refl _) (by omega)) ?_
    refine ww_iload_n (i := 1) dX7_movesOf_126 rfl rfl ?_
    exact ww_ireturn dX7_movesOf_127 rfl (by first | rfl | exact ww_b_nar) ⟨rfl, rfl⟩
  | m + 1, i, hm, hk => by
    have h8 := hW.2.1
    have hs : q_sum (q_invN S1 w) i ≤ i * w := q_sum_le (fun i => q_cnt_le _ w) i
    have hs : q_sum (q_invN S1 w) i ≤ 64 := Nat.le_trans hs (Nat.mul_le_mul (show i ≤ 8 by omega) (show w ≤ 8 by omega))
    have hr : q_roadN S1 w i ≤ w := q_cnt_le _ w
    have kk : ww_A g wy_X7_movesOf 1 0 0 M1 113 [(0, .ref x), (1, .int (nI (q_sum (q_invN S1 w) i + q_invN S1 w i))), (2, .int (nI i)), (3, .int (nI (q_roadN S1 w i)))] [] (ww_ret (some (.int (q_mo S1 w))) M1) ww_no := by
      by_cases c1 : 4 < q_roadN S1 w i
      · have e : q_mo S1 w = -1 := q_if_t ⟨i, by omega, c1⟩
        rw [e]
        refine ww_iload_n (i := 3) dX7_movesOf_113 rfl rfl ?_
        refine ww_iconst (v := 4) dX7_movesOf_114 (by decide) ?_
        refine ww_icmp_le_f (tgt := 120) dX7_movesOf_115 (by decide) (nI_ge (a := 4) c1 (by omega)) ?_
        refine ww_iconst (v := (-1)) dX7_movesOf_118 (by decide) ?_
        exact ww_ireturn dX7_movesOf_119 rfl (by first | rfl | exact ww_b_nar) ⟨rfl, rfl⟩
      · refine ww_iload_n (i := 3) dX7_movesOf_113 rfl rfl ?_
        refine ww_iconst (v := 4) dX7_movesOf_114 (by decide) ?_
        refine ww_icmp_le_t (tgt := 120) dX7_movesOf_115 (by decide) (nI_le (b := 4) (by omega) (by decide)) ?_
        refine ww_iinc (i := 2) (v := _ + 1) (lv2 := [(0, _), (1, _), (2, _), (3, _)]) dX7_movesOf_120 rfl (by rfl) (Nat.le_of_ble_eq_true rfl) rfl ?_
        refine ww_goto (tgt := 4) dX7_movesOf_123 (by decide) ?_
        -- at 4, locals [0, 1, 2, 3]
        rw [nI_1 i]
        exact ww_subk (m_movesOf_l hM hu hW h6 m (i + 1) (by omega) (fun k hk' => by
          by_cases e : k = i
          · rw [e]; exact c1
          · exact hk k (by omega))) ⟨rfl, rfl, rfl, trivial⟩
    have hl := m_movesOf_i (g := g) hM hu hW h6 (i := i) (by omega) hs kk w 0 (by omega)
    rw [show q_sum (q_invN S1 w) i + q_cnt (fun j => q_inv S1 i j) 0 = q_sum (q_invN S1 w) i from rfl, show q_cnt (fun j => S1 30 i = S1 30 j) 0 = 0 from rfl, nI_0] at hl
    refine ww_iload_n (i := 2) dX7_movesOf_4 rfl rfl ?_
    refine ww_aload_n (i := 0) dX7_movesOf_5 rfl rfl ?_
    refine ww_pgetI (k := 26) hM hu dX7_movesOf_6 wf_X7_139 rfl rfl hW.1 ?_
    refine ww_icmp_ge_f (tgt := 126) dX7_movesOf_9 (by decide) (nI_ge (by omega) (by omega)) ?_
    refine ww_iconst (v := 0) dX7_movesOf_12 (by decide) ?_
    refine ww_istore_n (i := 3) (lv2 := [(0, _), (1, _), (2, _), (3, _)]) dX7_movesOf_13 rfl (Nat.le_of_ble_eq_true rfl) rfl ?_
    refine ww_iconst (v := 0) dX7_movesOf_14 (by decide) ?_
    refine ww_istore (i := 4) (lv2 := [(0, _), (1, _), (2, _), (3, _), (4, _)]) dX7_movesOf_15 (Nat.le_of_ble_eq_true rfl) rfl ?_
    -- at 17, locals [0, 1, 2, 3, 4]
    exact hl
set_option maxRecDepth 20000 in
theorem u_movesOf (hM : ww_mo x ar M.1 M.2.2.1) (hu : ww_up x ar M S1 M1) (hW : q_W S1 n w) (h6 : n ≤ 60) : ww_C g wy_X7_movesOf 1 0 0 [.ref x] M1 (ww_ret (some (.int (q_mo S1 w))) M1) ww_no := by
  refine ww_ent (by decide +kernel) (Nat.le_of_ble_eq_true rfl) ⟨rfl, trivial⟩ ?_
  refine ww_iconst (v := 0) dX7_movesOf_0 (by decide) ?_
  refine ww_istore_n (i := 1) (lv2 := [(0, _), (1, _)]) dX7_movesOf_1 rfl (Nat.le_of_ble_eq_true rfl) rfl ?_
  refine ww_iconst (v := 0) dX7_movesOf_2 (by decide) ?_
  refine ww_istore_n (i := 2) (lv2 := [(0, _), (1, _), (2, _)]) dX7_movesOf_3 rfl (Nat.le_of_ble_eq_true rfl) rfl ?_
  -- at 4, locals [0, 1, 2]
  have hl := m_movesOf_l (g := g) hM hu hW h6 w 0 (by omega) (fun k hk => by omega)
  exact ww_subk hl ⟨rfl, rfl, rfl, trivial⟩
end WWA
