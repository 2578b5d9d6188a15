/-! ===== the law's blocks: turn, gate, flaw ===== -/
section WWN3
variable {g : ww_G} {M : ww_M} {c : Nat → Nat} {b w m p d kc ks : Nat} {S : Nat → Nat → Int32} {mo wa ti v : Int32} {Q : Option Value → ww_M → Prop} {X : String → ww_M → Prop} {t : Nat}
theorem q_KD_2 (h1 : 3 ≤ t) (h2 : t < 7) : q_KD t = 2 := by unfold q_KD; (repeat' split) <;> omega
theorem q_KD_3 (h1 : 7 ≤ t) (h2 : t < 15) : q_KD t = 3 := by unfold q_KD; (repeat' split) <;> omega
theorem q_S23 (hL : q_LI S w m wa) (h1 : 7 ≤ t) (h2 : t < 15) : S 2 t = 3 := (hL.1 t (by omega)).trans (by rw [q_KD_3 h1 h2]; rfl)
set_option maxRecDepth 20000 in
set_option maxHeartbeats 4000000 in
theorem law_b6 (h : ww_mx g c b 23 w m S M) (hL : q_LI S w m wa) (hb : b ≤ 500) (hp : p < 23) (hd : 24 ≤ d) (hkc : 20 ≤ kc) (hks : 8000 ≤ ks) (kk : ∀ (M' : ww_M) (S' : Nat → Nat → Int32) (b' w' m' : Nat) (wa' : Int32), b' ≤ b + 4 → ww_mx g c b' 23 w' m' S' M' → q_LI S' w' m' wa' → ww_A g wy_L_law d (kc - 20) (ks - 8000) M' 1575 [(0, .ref (ww_gb g)), (1, .ref (c 0)), (2, .int 1), (3, .int mo), (4, .int wa'), (5, .int ti), (6, .int v), (8, .int (nI p))] [] Q X) : ww_A g wy_L_law d kc ks M 763 [(0, .ref (ww_gb g)), (1, .ref (c 0)), (2, .int 1), (3, .int mo), (4, .int wa), (5, .int ti), (6, .int v), (8, .int (nI p)), (9, .int (S 5 p)), (10, .int (S 12 (q_hd (S 5) 5 p)))] [] Q X := by
  have hx := x_is h
  have hlo := l_low (g := g) (M := M) (v := v >>> (4 &&& 31)) (k := 4) (by decide) (by decide)
  have hlo_ := q_lw_lt (v := v >>> (4 &&& 31)) (k := 4) (by decide)
  generalize q_lw (v >>> (4 &&& 31)) 4 = j at hlo hlo_
  refine ww_iconst (v := 3) dL_law_763 (by decide) ?_
  refine ww_iload (i := 6) dL_law_764 rfl ?_
  refine ww_iconst (v := 4) dL_law_766 (by decide) ?_
  refine ww_ishr dL_law_767 ?_
  refine ww_iconst (v := 4) dL_law_768 (by decide) ?_
  refine ww_callS wk_L_43 rfl dL_law_769 (hlo) rfl rfl (by omega) (by omega) (by omega) (by first | exact Nat.le_of_ble_eq_true rfl | (simp [ww_rf_cat, Value.category])) rfl (fun E M9 h9 => h9.elim) (fun v9 M9 h9 => ?_)
  obtain ⟨rfl, rfl⟩ := h9
  refine ww_iadd dL_law_772 ?_
  -- at 773, locals [0, 1, 2, 3, 4, 5, 6, 8, 9, 10]
  refine ww_top (nI (3 + j)) (nI_add 3 j) ?_
  have ht : 3 ≤ 3 + j ∧ 3 + j < 7 := by omega
  generalize 3 + j = t at ht ⊢
  have hk : S 2 t = 2 := (hL.1 t (by omega)).trans (by rw [q_KD_2 ht.1 ht.2]; rfl)
  have hin := l_inside h (nI t) 3
  have hhd := x_head h (p := t) (by omega)
  have hlt := q_hd_lt (x_G h).2.2.1 (by decide) 5 t (by omega)
  have hst := l_stands h hlt
  by_cases c1 : ¬ nI (q_inK S 23 (nI t) 3) = 2
  · refine ww_istore (i := 11) (lv2 := [(0, _), (1, _), (2, _), (3, _), (4, _), (5, _), (6, _), (8, _), (9, _), (10, _), (11, _)]) dL_law_773 (Nat.le_of_ble_eq_true rfl) rfl ?_
    refine ww_aload_n (i := 1) dL_law_775 rfl rfl ?_
    refine ww_iload (i := 11) dL_law_776 rfl ?_
    refine ww_iconst (v := 3) dL_law_778 (by decide) ?_
    refine ww_callS wk_L_76 rfl dL_law_779 (hin) rfl rfl (by omega) (by omega) (by omega) (by first | exact Nat.le_of_ble_eq_true rfl | (simp [ww_rf_cat, Value.category])) rfl (fun E M9 h9 => h9.elim) (fun v9 M9 h9 => ?_)
    obtain ⟨rfl, rfl⟩ := h9
    refine ww_iconst (v := 2) dL_law_782 (by decide) ?_
    refine ww_icmp_ne_t (tgt := 823) dL_law_783 (by decide) c1 ?_
    refine ww_goto (tgt := 1575) dL_law_823 (by decide) ?_
    -- at 1575, locals [0, 1, 2, 3, 4, 5, 6, 8, 9, 10, 11]
    exact ww_subk (ww_less (by omega) (by omega) (kk _ _ _ _ _ _ (by omega) h hL)) ⟨rfl, rfl, rfl, rfl, rfl, rfl, rfl, rfl, trivial⟩
  have c1 : nI (q_inK S 23 (nI t) 3) = 2 := Classical.not_not.mp c1
  by_cases c2 : ¬ S 12 (q_hd (S 5) 5 t) = 0
  · refine ww_istore (i := 11) (lv2 := [(0, _), (1, _), (2, _), (3, _), (4, _), (5, _), (6, _), (8, _), (9, _), (10, _), (11, _)]) dL_law_773 (Nat.le_of_ble_eq_true rfl) rfl ?_
    refine ww_aload_n (i := 1) dL_law_775 rfl rfl ?_
    refine ww_iload (i := 11) dL_law_776 rfl ?_
    refine ww_iconst (v := 3) dL_law_778 (by decide) ?_
    refine ww_callS wk_L_76 rfl dL_law_779 (hin) rfl rfl (by omega) (by omega) (by omega) (by first | exact Nat.le_of_ble_eq_true rfl | (simp [ww_rf_cat, Value.category])) rfl (fun E M9 h9 => h9.elim) (fun v9 M9 h9 => ?_)
    obtain ⟨rfl, rfl⟩ := h9
    refine ww_iconst (v := 2) dL_law_782 (by decide) ?_
    refine ww_icmp_ne_f (tgt := 823) dL_law_783 (by decide) c1 ?_
    refine ww_aload_n (i := 1) dL_law_786 rfl rfl ?_
    refine ww_aload_n (i := 1) dL_law_787 rfl rfl ?_
    refine ww_iload (i := 11) dL_law_788 rfl ?_
    refine ww_callV (κ := 7) (r := (RX6, TX6, 4)) wk_L_46 dL_law_790 (hhd) rfl rfl (show ww_is _ _ 7 from hx).1 (show ww_is _ _ 7 from hx).2 rfl rfl (by omega) (by omega) (by omega) (by first | exact Nat.le_of_ble_eq_true rfl | (simp [ww_rf_cat, Value.category])) rfl (fun E M9 h9 => h9.elim) (fun v9 M9 h9 => ?_)
    obtain ⟨rfl, rfl⟩ := h9
    refine ww_callS wk_L_49 rfl dL_law_793 (hst) rfl rfl (by omega) (by omega) (by omega) (by first | exact Nat.le_of_ble_eq_true rfl | (simp [ww_rf_cat, Value.category])) rfl (fun E M9 h9 => h9.elim) (fun v9 M9 h9 => ?_)
    obtain ⟨rfl, rfl⟩ := h9
    refine ww_if_ne_t (tgt := 823) dL_law_796 (by decide) c2 ?_
    refine ww_goto (tgt := 1575) dL_law_823 (by decide) ?_
    -- at 1575, locals [0, 1, 2, 3, 4, 5, 6, 8, 9, 10, 11]
    exact ww_subk (ww_less (by omega) (by omega) (kk _ _ _ _ _ _ (by omega) h hL)) ⟨rfl, rfl, rfl, rfl, rfl, rfl, rfl, rfl, trivial⟩
  have c2 : S 12 (q_hd (S 5) 5 t) = 0 := Classical.not_not.mp c2
  have hC : q_turnC S 23 t := ⟨by rw [c1]; decide, q_b0 c2⟩
  obtain ⟨a, y, hq, s1, s2, htu⟩ := x_turn h (by omega) hk hC
  have hne := hq.2.2.2.2.2.2
  have hge := q_turn_0 hne (x_E h hq.2.2.1 hq.2.2.2.2.1) (x_E h hq.2.2.2.1 hq.2.2.2.2.2.1)
  have hnl : ¬ S 13 a + S 13 y - 2 * q_turnM (q_true (q_true S a) y) a y < 0 := Int32.not_lt.mpr hge
  have hag := q_turn_again (S := S) hne
  have e2 : q_turn S a y 2 = S 2 := q_turn_k (by decide) (by decide)
  have e5 : q_turn S a y 5 = S 5 := q_turn_k (by decide) (by decide)
  have e12 : q_turn S a y 12 = S 12 := q_turn_k (by decide) (by decide)
  have hL1 := q_LI_turn (a := a) (y := y) hL
  generalize S 13 a + S 13 y - 2 * q_turnM (q_true (q_true S a) y) a y = V at htu hnl
  generalize q_turn S a y = S1 at htu hag e2 e5 e12 hL1
  refine ww_istore (i := 11) (lv2 := [(0, _), (1, _), (2, _), (3, _), (4, _), (5, _), (6, _), (8, _), (9, _), (10, _), (11, _)]) dL_law_773 (Nat.le_of_ble_eq_true rfl) rfl ?_
  refine ww_aload_n (i := 1) dL_law_775 rfl rfl ?_
  refine ww_iload (i := 11) dL_law_776 rfl ?_
  refine ww_iconst (v := 3) dL_law_778 (by decide) ?_
  refine ww_callS wk_L_76 rfl dL_law_779 (hin) rfl rfl (by omega) (by omega) (by omega) (by first | exact Nat.le_of_ble_eq_true rfl | (simp [ww_rf_cat, Value.category])) rfl (fun E M9 h9 => h9.elim) (fun v9 M9 h9 => ?_)
  obtain ⟨rfl, rfl⟩ := h9
  refine ww_iconst (v := 2) dL_law_782 (by decide) ?_
  refine ww_icmp_ne_f (tgt := 823) dL_law_783 (by decide) c1 ?_
  refine ww_aload_n (i := 1) dL_law_786 rfl rfl ?_
  refine ww_aload_n (i := 1) dL_law_787 rfl rfl ?_
  refine ww_iload (i := 11) dL_law_788 rfl ?_
  refine ww_callV (κ := 7) (r := (RX6, TX6, 4)) wk_L_46 dL_law_790 (hhd) rfl rfl (show ww_is _ _ 7 from hx).1 (show ww_is _ _ 7 from hx).2 rfl rfl (by omega) (by omega) (by omega) (by first | exact Nat.le_of_ble_eq_true rfl | (simp [ww_rf_cat, Value.category])) rfl (fun E M9 h9 => h9.elim) (fun v9 M9 h9 => ?_)
  obtain ⟨rfl, rfl⟩ := h9
  refine ww_callS wk_L_49 rfl dL_law_793 (hst) rfl rfl (by omega) (by omega) (by omega) (by first | exact Nat.le_of_ble_eq_true rfl | (simp [ww_rf_cat, Value.category])) rfl (fun E M9 h9 => h9.elim) (fun v9 M9 h9 => ?_)
  obtain ⟨rfl, rfl⟩ := h9
  refine ww_if_ne_f (tgt := 823) dL_law_796 (by decide) c2 ?_
  refine ww_aload_n (i := 1) dL_law_799 rfl rfl ?_
  refine ww_iload (i := 11) dL_law_800 rfl ?_
  refine ww_callV (κ := 7) (r := (RX6, TX6, 4)) wk_L_83 dL_law_802 (htu) rfl rfl (show ww_is _ _ 7 from hx).1 (show ww_is _ _ 7 from hx).2 rfl rfl (by omega) (by omega) (by omega) (by first | exact Nat.le_of_ble_eq_true rfl | (simp [ww_rf_cat, Value.category])) rfl (fun E M9 h9 => h9.elim) (fun v9 M9 h9 => ?_)
  obtain ⟨rfl, h1⟩ := h9
  -- at 805, locals [0, 1, 2, 3, 4, 5, 6, 8, 9, 10, 11]
  have hx1 := x_is h1
  have hC1 : q_turnC S1 23 t := by
    unfold q_turnC q_bound q_inK at hC ⊢
    rw [e2, e5, e12]
    exact hC
  obtain ⟨a', y', hq', -, -, htu2⟩ := x_turn h1 (by omega) (by rw [e2]; exact hk) hC1
  obtain ⟨rfl, rfl⟩ := q_pair_eq e2 e5 hq hq'
  rw [hag] at htu2
  have hL2 := q_LI_turn (a := a') (y := y') hL1
  refine ww_if_lt_f (tgt := 821) dL_law_805 (by decide) hnl ?_
  refine ww_aload_n (i := 1) dL_law_808 rfl rfl ?_
  refine ww_iload (i := 11) dL_law_809 rfl ?_
  refine ww_callV (κ := 7) (r := (RX6, TX6, 4)) wk_L_83 dL_law_811 (htu2) rfl rfl (show ww_is _ _ 7 from hx1).1 (show ww_is _ _ 7 from hx1).2 rfl rfl (by omega) (by omega) (by omega) (by first | exact Nat.le_of_ble_eq_true rfl | (simp [ww_rf_cat, Value.category])) rfl (fun E M9 h9 => h9.elim) (fun v9 M9 h9 => ?_)
  obtain ⟨rfl, h2⟩ := h9
  refine ww_if_ne_f (tgt := 821) dL_law_814 (by decide) rfl ?_
  refine ww_iconst (v := 1) dL_law_817 (by decide) ?_
  refine ww_goto (tgt := 822) dL_law_818 (by decide) ?_
  refine ww_istore_n (i := 2) (lv2 := [(0, _), (1, _), (2, _), (3, _), (4, _), (5, _), (6, _), (8, _), (9, _), (10, _), (11, _)]) dL_law_822 rfl (Nat.le_of_ble_eq_true rfl) rfl ?_
  refine ww_goto (tgt := 1575) dL_law_823 (by decide) ?_
  -- at 1575, locals [0, 1, 2, 3, 4, 5, 6, 8, 9, 10, 11]
  exact ww_subk (ww_less (by omega) (by omega) (kk _ _ _ _ _ _ (by omega) h2 hL2)) ⟨rfl, rfl, rfl, rfl, rfl, rfl, rfl, rfl, trivial⟩
set_option maxRecDepth 20000 in
set_option maxHeartbeats 4000000 in
theorem law_b7 (h : ww_mx g c b 23 w m S M) (hL : q_LI S w m wa) (hb : b ≤ 500) (hp : p < 23) (hd : 24 ≤ d) (hkc : 20 ≤ kc) (hks : 8000 ≤ ks) (kk : ∀ (M' : ww_M) (S' : Nat → Nat → Int32) (b' w' m' : Nat) (wa' : Int32), b' ≤ b + 4 → ww_mx g c b' 23 w' m' S' M' → q_LI S' w' m' wa' → ww_A g wy_L_law d (kc - 20) (ks - 8000) M' 1575 [(0, .ref (ww_gb g)), (1, .ref (c 0)), (2, .int 1), (3, .int mo), (4, .int wa'), (5, .int ti), (6, .int v), (8, .int (nI p))] [] Q X) : ww_A g wy_L_law d kc ks M 833 [(0, .ref (ww_gb g)), (1, .ref (c 0)), (2, .int 1), (3, .int mo), (4, .int wa), (5, .int ti), (6, .int v), (8, .int (nI p)), (9, .int (S 5 p)), (10, .int (S 12 (q_hd (S 5) 5 p)))] [] Q X := by
  have hx := x_is h
  have hlo := l_low (g := g) (M := M) (v := v >>> (4 &&& 31)) (k := 8) (by decide) (by decide)
  have hlo_ := q_lw_lt (v := v >>> (4 &&& 31)) (k := 8) (by decide)
  generalize q_lw (v >>> (4 &&& 31)) 8 = j at hlo hlo_
  have hl2 := l_low (g := g) (M := M) (v := v >>> (7 &&& 31)) (k := 11) (by decide) (by decide)
  have hl2_ := q_lw_lt (v := v >>> (7 &&& 31)) (k := 11) (by decide)
  generalize q_lw (v >>> (7 &&& 31)) 11 = k at hl2 hl2_
  refine ww_bipush (v := 7) dL_law_833 (by decide) ?_
  refine ww_iload (i := 6) dL_law_835 rfl ?_
  refine ww_iconst (v := 4) dL_law_837 (by decide) ?_
  refine ww_ishr dL_law_838 ?_
  refine ww_bipush (v := 8) dL_law_839 (by decide) ?_
  refine ww_callS wk_L_43 rfl dL_law_841 (hlo) rfl rfl (by omega) (by omega) (by omega) (by first | exact Nat.le_of_ble_eq_true rfl | (simp [ww_rf_cat, Value.category])) rfl (fun E M9 h9 => h9.elim) (fun v9 M9 h9 => ?_)
  obtain ⟨rfl, rfl⟩ := h9
  refine ww_iadd dL_law_844 ?_
  -- at 845, locals [0, 1, 2, 3, 4, 5, 6, 8, 9, 10]
  refine ww_top (nI (7 + j)) (nI_add 7 j) ?_
  have ht : 7 ≤ 7 + j ∧ 7 + j < 15 := by omega
  generalize 7 + j = t at ht ⊢
  have hk := q_S23 hL ht.1 ht.2
  have he : q_rg (-5) 5 (nI k - 5) := by
    have e : (nI k - 5).toInt = (k : Int) - 5 := q_subI (nI_toInt (by omega)) (show (5 : Int32).toInt = 5 from rfl) (by omega) (by omega)
    unfold q_rg
    rw [ww_le', ww_le', e, show (-5 : Int32).toInt = -5 from rfl, show (5 : Int32).toInt = 5 from rfl]
    omega
  refine ww_istore (i := 11) (lv2 := [(0, _), (1, _), (2, _), (3, _), (4, _), (5, _), (6, _), (8, _), (9, _), (10, _), (11, _)]) dL_law_845 (Nat.le_of_ble_eq_true rfl) rfl ?_
  refine ww_iload (i := 6) dL_law_847 rfl ?_
  refine ww_bipush (v := 7) dL_law_849 (by decide) ?_
  refine ww_ishr dL_law_851 ?_
  refine ww_bipush (v := 11) dL_law_852 (by decide) ?_
  refine ww_callS wk_L_43 rfl dL_law_854 (hl2) rfl rfl (by omega) (by omega) (by omega) (by first | exact Nat.le_of_ble_eq_true rfl | (simp [ww_rf_cat, Value.category])) rfl (fun E M9 h9 => h9.elim) (fun v9 M9 h9 => ?_)
  obtain ⟨rfl, rfl⟩ := h9
  refine ww_iconst (v := 5) dL_law_857 (by decide) ?_
  refine ww_isub dL_law_858 ?_
  -- at 859, locals [0, 1, 2, 3, 4, 5, 6, 8, 9, 10, 11]
  generalize nI k - 5 = e at he ⊢
  have hga := x_gate h (p := t) (by omega) hk he
  have hL1 : q_LI (ww_u2 (ww_u2 S 16 t (S 14 t + e)) 17 t 1) w m wa := q_LI_u2 (q_LI_u2 hL (by decide)) (by decide)
  have ew1 : q_wheel (ww_u2 (ww_u2 S 16 t (S 14 t + e)) 17 t 1) t 1 = S 14 t := by
    unfold q_wheel
    rw [if_neg (by decide), if_pos rfl]
    rfl
  have ew2 : q_wheel (ww_u2 (ww_u2 S 16 t (S 14 t + e)) 17 t 1) t 2 = S 14 t + e := by
    unfold q_wheel
    rw [if_neg (by decide), if_neg (by decide), ww_u2s, if_neg (by decide)]
    exact (ww_u2n (fun y => absurd y.1 (by decide))).trans ww_u2s
  have ef := q_fore_1 (S := S) (p := t) (x_E h (by omega) hk).1 he
  have e2 : ww_u2 (ww_u2 S 16 t (S 14 t + e)) 17 t 1 2 t = 3 := hk
  generalize ww_u2 (ww_u2 S 16 t (S 14 t + e)) 17 t 1 = S1 at hga hL1 ew1 ew2 ef e2
  refine ww_istore (i := 12) (lv2 := [(0, _), (1, _), (2, _), (3, _), (4, _), (5, _), (6, _), (8, _), (9, _), (10, _), (11, _), (12, _)]) dL_law_859 (Nat.le_of_ble_eq_true rfl) rfl ?_
  refine ww_aload_n (i := 1) dL_law_861 rfl rfl ?_
  refine ww_iload (i := 11) dL_law_862 rfl ?_
  refine ww_iload (i := 12) dL_law_864 rfl ?_
  refine ww_callV (κ := 7) (r := (RX6, TX6, 4)) wk_L_86 dL_law_866 (hga) rfl rfl (show ww_is _ _ 7 from hx).1 (show ww_is _ _ 7 from hx).2 rfl rfl (by omega) (by omega) (by omega) (by first | exact Nat.le_of_ble_eq_true rfl | (simp [ww_rf_cat, Value.category])) rfl (fun E M9 h9 => h9.elim) (fun v9 M9 h9 => ?_)
  obtain ⟨rfl, h1⟩ := h9
  -- at 869, locals [0, 1, 2, 3, 4, 5, 6, 8, 9, 10, 11, 12]
  have hx1 := x_is h1
  have hw1 := x_wheel h1 (p := t) (v := 1) (by omega) e2 (by unfold q_rg; decide)
  have hw2 := x_wheel h1 (p := t) (v := 2) (by omega) e2 (by unfold q_rg; decide)
  have hfo := x_foretell h1 (p := t) (v := 1) (s := 0) (by omega) e2 (by unfold q_rg; decide) (by unfold q_rg; decide)
  rw [ew1] at hw1
  rw [ew2] at hw2
  rw [ef] at hfo
  by_cases c1 : S 14 t + e ≤ 250
  · rw [if_pos c1] at hfo
    refine ww_istore (i := 13) (lv2 := [(0, _), (1, _), (2, _), (3, _), (4, _), (5, _), (6, _), (8, _), (9, _), (10, _), (11, _), (12, _), (13, _)]) dL_law_869 (Nat.le_of_ble_eq_true rfl) rfl ?_
    refine ww_iload (i := 13) dL_law_871 rfl ?_
    refine ww_aload_n (i := 1) dL_law_873 rfl rfl ?_
    refine ww_iload (i := 11) dL_law_874 rfl ?_
    refine ww_iconst (v := 1) dL_law_876 (by decide) ?_
    refine ww_callV (κ := 7) (r := (RX6, TX6, 4)) wk_L_89 dL_law_877 (hw1) rfl rfl (show ww_is _ _ 7 from hx1).1 (show ww_is _ _ 7 from hx1).2 rfl rfl (by omega) (by omega) (by omega) (by first | exact Nat.le_of_ble_eq_true rfl | (simp [ww_rf_cat, Value.category])) rfl (fun E M9 h9 => h9.elim) (fun v9 M9 h9 => ?_)
    obtain ⟨rfl, rfl⟩ := h9
    refine ww_iload (i := 12) dL_law_880 rfl ?_
    refine ww_iadd dL_law_882 ?_
    refine ww_icmp_ne_f (tgt := 935) dL_law_883 (by decide) rfl ?_
    refine ww_aload_n (i := 1) dL_law_886 rfl rfl ?_
    refine ww_iload (i := 11) dL_law_887 rfl ?_
    refine ww_iconst (v := 2) dL_law_889 (by decide) ?_
    refine ww_callV (κ := 7) (r := (RX6, TX6, 4)) wk_L_89 dL_law_890 (hw2) rfl rfl (show ww_is _ _ 7 from hx1).1 (show ww_is _ _ 7 from hx1).2 rfl rfl (by omega) (by omega) (by omega) (by first | exact Nat.le_of_ble_eq_true rfl | (simp [ww_rf_cat, Value.category])) rfl (fun E M9 h9 => h9.elim) (fun v9 M9 h9 => ?_)
    obtain ⟨rfl, rfl⟩ := h9
    refine ww_iload (i := 13) dL_law_893 rfl ?_
    refine ww_icmp_ne_f (tgt := 935) dL_law_895 (by decide) rfl ?_
    refine ww_aload_n (i := 1) dL_law_898 rfl rfl ?_
    refine ww_iload (i := 11) dL_law_899 rfl ?_
    refine ww_iconst (v := 1) dL_law_901 (by decide) ?_
    refine ww_iconst (v := 0) dL_law_902 (by decide) ?_
    refine ww_callV (κ := 7) (r := (RX6, TX6, 4)) wk_L_92 dL_law_903 (hfo) rfl rfl (show ww_is _ _ 7 from hx1).1 (show ww_is _ _ 7 from hx1).2 rfl rfl (by omega) (by omega) (by omega) (by first | exact Nat.le_of_ble_eq_true rfl | (simp [ww_rf_cat, Value.category])) rfl (fun E M9 h9 => h9.elim) (fun v9 M9 h9 => ?_)
    obtain ⟨rfl, rfl⟩ := h9
    refine ww_iload (i := 13) dL_law_906 rfl ?_
    refine ww_sipush (v := 250) dL_law_908 (by decide) ?_
    refine ww_icmp_le_t (tgt := 927) dL_law_911 (by decide) c1 ?_
    refine ww_iconst (v := 0) dL_law_927 (by decide) ?_
    refine ww_icmp_ne_f (tgt := 935) dL_law_928 (by decide) rfl ?_
    refine ww_iconst (v := 1) dL_law_931 (by decide) ?_
    refine ww_goto (tgt := 936) dL_law_932 (by decide) ?_
    refine ww_istore_n (i := 2) (lv2 := [(0, _), (1, _), (2, _), (3, _), (4, _), (5, _), (6, _), (8, _), (9, _), (10, _), (11, _), (12, _), (13, _)]) dL_law_936 rfl (Nat.le_of_ble_eq_true rfl) rfl ?_
    refine ww_goto (tgt := 1575) dL_law_937 (by decide) ?_
    -- at 1575, locals [0, 1, 2, 3, 4, 5, 6, 8, 9, 10, 11, 12, 13]
    exact ww_subk (ww_less (by omega) (by omega) (kk _ _ _ _ _ _ (by omega) h1 hL1)) ⟨rfl, rfl, rfl, rfl, rfl, rfl, rfl, rfl, trivial⟩
  · rw [if_neg c1] at hfo
    refine ww_istore (i := 13) (lv2 := [(0, _), (1, _), (2, _), (3, _), (4, _), (5, _), (6, _), (8, _), (9, _), (10, _), (11, _), (12, _), (13, _)]) dL_law_869 (Nat.le_of_ble_eq_true rfl) rfl ?_
    refine ww_iload (i := 13) dL_law_871 rfl ?_
    refine ww_aload_n (i := 1) dL_law_873 rfl rfl ?_
    refine ww_iload (i := 11) dL_law_874 rfl ?_
    refine ww_iconst (v := 1) dL_law_876 (by decide) ?_
    refine ww_callV (κ := 7) (r := (RX6, TX6, 4)) wk_L_89 dL_law_877 (hw1) rfl rfl (show ww_is _ _ 7 from hx1).1 (show ww_is _ _ 7 from hx1).2 rfl rfl (by omega) (by omega) (by omega) (by first | exact Nat.le_of_ble_eq_true rfl | (simp [ww_rf_cat, Value.category])) rfl (fun E M9 h9 => h9.elim) (fun v9 M9 h9 => ?_)
    obtain ⟨rfl, rfl⟩ := h9
    refine ww_iload (i := 12) dL_law_880 rfl ?_
    refine ww_iadd dL_law_882 ?_
    refine ww_icmp_ne_f (tgt := 935) dL_law_883 (by decide) rfl ?_
    refine ww_aload_n (i := 1) dL_law_886 rfl rfl ?_
    refine ww_iload (i := 11) dL_law_887 rfl ?_
    refine ww_iconst (v := 2) dL_law_889 (by decide) ?_
    refine ww_callV (κ := 7) (r := (RX6, TX6, 4)) wk_L_89 dL_law_890 (hw2) rfl rfl (show ww_is _ _ 7 from hx1).1 (show ww_is _ _ 7 from hx1).2 rfl rfl (by omega) (by omega) (by omega) (by first | exact Nat.le_of_ble_eq_true rfl | (simp [ww_rf_cat, Value.category])) rfl (fun E M9 h9 => h9.elim) (fun v9 M9 h9 => ?_)
    obtain ⟨rfl, rfl⟩ := h9
    refine ww_iload (i := 13) dL_law_893 rfl ?_
    refine ww_icmp_ne_f (tgt := 935) dL_law_895 (by decide) rfl ?_
    refine ww_aload_n (i := 1) dL_law_898 rfl rfl ?_
    refine ww_iload (i := 11) dL_law_899 rfl ?_
    refine ww_iconst (v := 1) dL_law_901 (by decide) ?_
    refine ww_iconst (v := 0) dL_law_902 (by decide) ?_
    refine ww_callV (κ := 7) (r := (RX6, TX6, 4)) wk_L_92 dL_law_903 (hfo) rfl rfl (show ww_is _ _ 7 from hx1).1 (show ww_is _ _ 7 from hx1).2 rfl rfl (by omega) (by omega) (by omega) (by first | exact Nat.le_of_ble_eq_true rfl | (simp [ww_rf_cat, Value.category])) rfl (fun E M9 h9 => h9.elim) (fun v9 M9 h9 => ?_)
    obtain ⟨rfl, rfl⟩ := h9
    refine ww_iload (i := 13) dL_law_906 rfl ?_
    refine ww_sipush (v := 250) dL_law_908 (by decide) ?_
    refine ww_icmp_le_f (tgt := 927) dL_law_911 (by decide) c1 ?_
    refine ww_sipush (v := 200) dL_law_914 (by decide) ?_
    refine ww_iload (i := 13) dL_law_917 rfl ?_
    refine ww_sipush (v := 250) dL_law_919 (by decide) ?_
    refine ww_isub dL_law_922 ?_
    refine ww_imul dL_law_923 ?_
    refine ww_goto (tgt := 928) dL_law_924 (by decide) ?_
    refine ww_icmp_ne_f (tgt := 935) dL_law_928 (by decide) rfl ?_
    refine ww_iconst (v := 1) dL_law_931 (by decide) ?_
    refine ww_goto (tgt := 936) dL_law_932 (by decide) ?_
    refine ww_istore_n (i := 2) (lv2 := [(0, _), (1, _), (2, _), (3, _), (4, _), (5, _), (6, _), (8, _), (9, _), (10, _), (11, _), (12, _), (13, _)]) dL_law_936 rfl (Nat.le_of_ble_eq_true rfl) rfl ?_
    refine ww_goto (tgt := 1575) dL_law_937 (by decide) ?_
    -- at 1575, locals [0, 1, 2, 3, 4, 5, 6, 8, 9, 10, 11, 12, 13]
    exact ww_subk (ww_less (by omega) (by omega) (kk _ _ _ _ _ _ (by omega) h1 hL1)) ⟨rfl, rfl, rfl, rfl, rfl, rfl, rfl, rfl, trivial⟩
set_option maxRecDepth 20000 in
set_option maxHeartbeats 4000000 in
theorem law_b8 (h : ww_mx g c b 23 w m S M) (hL : q_LI S w m wa) (hb : b ≤ 500) (hp : p < 23) (hd : 24 ≤ d) (hkc : 20 ≤ kc) (hks : 8000 ≤ ks) (kk : ∀ (M' : ww_M) (S' : Nat → Nat → Int32) (b' w' m' : Nat) (wa' : Int32), b' ≤ b + 4 → ww_mx g c b' 23 w' m' S' M' → q_LI S' w' m' wa' → ww_A g wy_L_law d (kc - 20) (ks - 8000) M' 1575 [(0, .ref (ww_gb g)), (1, .ref (c 0)), (2, .int 1), (3, .int mo), (4, .int wa'), (5, .int ti), (6, .int v), (8, .int (nI p))] [] Q X) : ww_A g wy_L_law d kc ks M 947 [(0, .ref (ww_gb g)), (1, .ref (c 0)), (2, .int 1), (3, .int mo), (4, .int wa), (5, .int ti), (6, .int v), (8, .int (nI p)), (9, .int (S 5 p)), (10, .int (S 12 (q_hd (S 5) 5 p)))] [] Q X := by
  have hx := x_is h
  have hof := x_of0 h hp
  by_cases c1 : S 2 p ≤ 2
  · refine ww_aload_n (i := 1) dL_law_947 rfl rfl ?_
    refine ww_iload (i := 8) dL_law_948 rfl ?_
    refine ww_iconst (v := 0) dL_law_950 (by decide) ?_
    refine ww_callV (κ := 7) (r := (RX6, TX6, 4)) wk_L_22 dL_law_951 (hof) rfl rfl (show ww_is _ _ 7 from hx).1 (show ww_is _ _ 7 from hx).2 rfl rfl (by omega) (by omega) (by omega) (by first | exact Nat.le_of_ble_eq_true rfl | (simp [ww_rf_cat, Value.category])) rfl (fun E M9 h9 => h9.elim) (fun v9 M9 h9 => ?_)
    obtain ⟨rfl, rfl⟩ := h9
    refine ww_iconst (v := 2) dL_law_954 (by decide) ?_
    refine ww_icmp_le_t (tgt := 1575) dL_law_955 (by decide) c1 ?_
    -- at 1575, locals [0, 1, 2, 3, 4, 5, 6, 8, 9, 10]
    exact ww_subk (ww_less (by omega) (by omega) (kk _ _ _ _ _ _ (by omega) h hL)) ⟨rfl, rfl, rfl, rfl, rfl, rfl, rfl, rfl, trivial⟩
  by_cases c2 : S 5 p = -2
  · refine ww_aload_n (i := 1) dL_law_947 rfl rfl ?_
    refine ww_iload (i := 8) dL_law_948 rfl ?_
    refine ww_iconst (v := 0) dL_law_950 (by decide) ?_
    refine ww_callV (κ := 7) (r := (RX6, TX6, 4)) wk_L_22 dL_law_951 (hof) rfl rfl (show ww_is _ _ 7 from hx).1 (show ww_is _ _ 7 from hx).2 rfl rfl (by omega) (by omega) (by omega) (by first | exact Nat.le_of_ble_eq_true rfl | (simp [ww_rf_cat, Value.category])) rfl (fun E M9 h9 => h9.elim) (fun v9 M9 h9 => ?_)
    obtain ⟨rfl, rfl⟩ := h9
    refine ww_iconst (v := 2) dL_law_954 (by decide) ?_
    refine ww_icmp_le_f (tgt := 1575) dL_law_955 (by decide) c1 ?_
    refine ww_iload (i := 9) dL_law_958 rfl ?_
    refine ww_bipush (v := (-2)) dL_law_960 (by decide) ?_
    refine ww_icmp_eq_t (tgt := 1575) dL_law_962 (by decide) c2 ?_
    -- at 1575, locals [0, 1, 2, 3, 4, 5, 6, 8, 9, 10]
    exact ww_subk (ww_less (by omega) (by omega) (kk _ _ _ _ _ _ (by omega) h hL)) ⟨rfl, rfl, rfl, rfl, rfl, rfl, rfl, rfl, trivial⟩
  have hk : S 2 p = 3 ∨ S 2 p = 4 := (q_34 (x_G h) hp).1 (by
    rw [ww_le', show (2 : Int32).toInt = 2 from rfl] at c1
    rw [ww_le', show (3 : Int32).toInt = 3 from rfl]
    omega)
  have hlo := l_low (g := g) (M := M) (v := v >>> (9 &&& 31)) (k := 30) (by decide) (by decide)
  have hlo_ := q_lw_lt (v := v >>> (9 &&& 31)) (k := 30) (by decide)
  generalize q_lw (v >>> (9 &&& 31)) 30 = j at hlo hlo_
  refine ww_aload_n (i := 1) dL_law_947 rfl rfl ?_
  refine ww_iload (i := 8) dL_law_948 rfl ?_
  refine ww_iconst (v := 0) dL_law_950 (by decide) ?_
  refine ww_callV (κ := 7) (r := (RX6, TX6, 4)) wk_L_22 dL_law_951 (hof) rfl rfl (show ww_is _ _ 7 from hx).1 (show ww_is _ _ 7 from hx).2 rfl rfl (by omega) (by omega) (by omega) (by first | exact Nat.le_of_ble_eq_true rfl | (simp [ww_rf_cat, Value.category])) rfl (fun E M9 h9 => h9.elim) (fun v9 M9 h9 => ?_)
  obtain ⟨rfl, rfl⟩ := h9
  refine ww_iconst (v := 2) dL_law_954 (by decide) ?_
  refine ww_icmp_le_f (tgt := 1575) dL_law_955 (by decide) c1 ?_
  refine ww_iload (i := 9) dL_law_958 rfl ?_
  refine ww_bipush (v := (-2)) dL_law_960 (by decide) ?_
  refine ww_icmp_eq_f (tgt := 1575) dL_law_962 (by decide) c2 ?_
  refine ww_iconst (v := 1) dL_law_965 (by decide) ?_
  refine ww_iload (i := 6) dL_law_966 rfl ?_
  refine ww_bipush (v := 9) dL_law_968 (by decide) ?_
  refine ww_ishr dL_law_970 ?_
  refine ww_bipush (v := 30) dL_law_971 (by decide) ?_
  refine ww_callS wk_L_43 rfl dL_law_973 (hlo) rfl rfl (by omega) (by omega) (by omega) (by first | exact Nat.le_of_ble_eq_true rfl | (simp [ww_rf_cat, Value.category])) rfl (fun E M9 h9 => h9.elim) (fun v9 M9 h9 => ?_)
  obtain ⟨rfl, rfl⟩ := h9
  refine ww_iadd dL_law_976 ?_
  -- at 977, locals [0, 1, 2, 3, 4, 5, 6, 8, 9, 10]
  refine ww_top (nI (1 + j)) (nI_add 1 j) ?_
  have hv : q_rg 1 99 (nI (1 + j)) := q_rgN (lo := 1) (hi := 99) (by omega) (by omega) (by decide)
  have h10 : nI (1 + j) < 10 ∨ (10 : Int32) ≤ nI (1 + j) := by
    rw [ww_lt, ww_le']
    omega
  generalize nI (1 + j) = sz at hv h10 ⊢
  have hf1 := x_flaw h hp hk hv
  have hL1 : q_LI (ww_u2 (ww_u2 S 18 p sz) 19 p (S 6 p)) w m wa := q_LI_u2 (q_LI_u2 hL (by decide)) (by decide)
  have e18 : ww_u2 (ww_u2 S 18 p sz) 19 p (S 6 p) 18 p = sz := (ww_u2n (fun y => absurd y.1 (by decide))).trans ww_u2s
  have e2 : ww_u2 (ww_u2 S 18 p sz) 19 p (S 6 p) 2 = S 2 := rfl
  have e5 : ww_u2 (ww_u2 S 18 p sz) 19 p (S 6 p) 5 = S 5 := rfl
  have e12 : ww_u2 (ww_u2 S 18 p sz) 19 p (S 6 p) 12 = S 12 := rfl
  generalize ww_u2 (ww_u2 S 18 p sz) 19 p (S 6 p) = S1 at hf1 hL1 e18 e2 e5 e12
  refine ww_istore (i := 11) (lv2 := [(0, _), (1, _), (2, _), (3, _), (4, _), (5, _), (6, _), (8, _), (9, _), (10, _), (11, _)]) dL_law_977 (Nat.le_of_ble_eq_true rfl) rfl ?_
  refine ww_aload_n (i := 1) dL_law_979 rfl rfl ?_
  refine ww_iload (i := 8) dL_law_980 rfl ?_
  refine ww_iload (i := 11) dL_law_982 rfl ?_
  refine ww_callV (κ := 7) (r := (RX6, TX6, 4)) wk_L_95 dL_law_984 (hf1) rfl rfl (show ww_is _ _ 7 from hx).1 (show ww_is _ _ 7 from hx).2 rfl rfl (by omega) (by omega) (by omega) (by first | exact Nat.le_of_ble_eq_true rfl | (simp [ww_rf_cat, Value.category])) rfl (fun E M9 h9 => h9.elim) (fun v9 M9 h9 => ?_)
  obtain ⟨rfl, h1⟩ := h9
  -- at 987, locals [0, 1, 2, 3, 4, 5, 6, 8, 9, 10, 11]
  have hx1 := x_is h1
  have hf2 := x_flaw h1 hp (by rw [e2]; exact hk) hv
  rw [e18] at hf2
  have hL2 : q_LI (ww_u2 (ww_u2 S1 18 p sz) 19 p (S1 6 p)) w m wa := q_LI_u2 (q_LI_u2 hL1 (by decide)) (by decide)
  have f18 : ww_u2 (ww_u2 S1 18 p sz) 19 p (S1 6 p) 18 p = sz := (ww_u2n (fun y => absurd y.1 (by decide))).trans ww_u2s
  have f5 : ww_u2 (ww_u2 S1 18 p sz) 19 p (S1 6 p) 5 = S 5 := e5
  have f12 : ww_u2 (ww_u2 S1 18 p sz) 19 p (S1 6 p) 12 = S 12 := e12
  generalize ww_u2 (ww_u2 S1 18 p sz) 19 p (S1 6 p) = S2 at hf2 hL2 f18 f5 f12
  by_cases c3 : ¬ S 12 (q_hd (S 5) 5 p) = 0
  · refine ww_pop dL_law_987 (by first | rfl | exact ww_rf_cat _) ?_
    refine ww_aload_n (i := 1) dL_law_988 rfl rfl ?_
    refine ww_iload (i := 8) dL_law_989 rfl ?_
    refine ww_iload (i := 11) dL_law_991 rfl ?_
    refine ww_callV (κ := 7) (r := (RX6, TX6, 4)) wk_L_95 dL_law_993 (hf2) rfl rfl (show ww_is _ _ 7 from hx1).1 (show ww_is _ _ 7 from hx1).2 rfl rfl (by omega) (by omega) (by omega) (by first | exact Nat.le_of_ble_eq_true rfl | (simp [ww_rf_cat, Value.category])) rfl (fun E M9 h9 => h9.elim) (fun v9 M9 h9 => ?_)
    obtain ⟨rfl, h2⟩ := h9
    refine ww_iload (i := 11) dL_law_996 rfl ?_
    refine ww_icmp_ne_f (tgt := 1005) dL_law_998 (by decide) rfl ?_
    refine ww_iconst (v := 1) dL_law_1001 (by decide) ?_
    refine ww_goto (tgt := 1006) dL_law_1002 (by decide) ?_
    refine ww_istore_n (i := 2) (lv2 := [(0, _), (1, _), (2, _), (3, _), (4, _), (5, _), (6, _), (8, _), (9, _), (10, _), (11, _)]) dL_law_1006 rfl (Nat.le_of_ble_eq_true rfl) rfl ?_
    refine ww_iload (i := 10) dL_law_1007 rfl ?_
    refine ww_if_ne_t (tgt := 1064) dL_law_1009 (by decide) c3 ?_
    refine ww_goto (tgt := 1575) dL_law_1064 (by decide) ?_
    -- at 1575, locals [0, 1, 2, 3, 4, 5, 6, 8, 9, 10, 11]
    exact ww_subk (ww_less (by omega) (by omega) (kk _ _ _ _ _ _ (by omega) h2 hL2)) ⟨rfl, rfl, rfl, rfl, rfl, rfl, rfl, rfl, trivial⟩
  have c3 : S 12 (q_hd (S 5) 5 p) = 0 := Classical.not_not.mp c3
  refine ww_pop dL_law_987 (by first | rfl | exact ww_rf_cat _) ?_
  refine ww_aload_n (i := 1) dL_law_988 rfl rfl ?_
  refine ww_iload (i := 8) dL_law_989 rfl ?_
  refine ww_iload (i := 11) dL_law_991 rfl ?_
  refine ww_callV (κ := 7) (r := (RX6, TX6, 4)) wk_L_95 dL_law_993 (hf2) rfl rfl (show ww_is _ _ 7 from hx1).1 (show ww_is _ _ 7 from hx1).2 rfl rfl (by omega) (by omega) (by omega) (by first | exact Nat.le_of_ble_eq_true rfl | (simp [ww_rf_cat, Value.category])) rfl (fun E M9 h9 => h9.elim) (fun v9 M9 h9 => ?_)
  obtain ⟨rfl, h2⟩ := h9
  refine ww_iload (i := 11) dL_law_996 rfl ?_
  refine ww_icmp_ne_f (tgt := 1005) dL_law_998 (by decide) rfl ?_
  refine ww_iconst (v := 1) dL_law_1001 (by decide) ?_
  refine ww_goto (tgt := 1006) dL_law_1002 (by decide) ?_
  refine ww_istore_n (i := 2) (lv2 := [(0, _), (1, _), (2, _), (3, _), (4, _), (5, _), (6, _), (8, _), (9, _), (10, _), (11, _)]) dL_law_1006 rfl (Nat.le_of_ble_eq_true rfl) rfl ?_
  refine ww_iload (i := 10) dL_law_1007 rfl ?_
  refine ww_if_ne_f (tgt := 1064) dL_law_1009 (by decide) c3 ?_
  refine ww_iload_n (i := 2) dL_law_1012 rfl rfl ?_
  refine ww_if_eq_f (tgt := 1062) dL_law_1013 (by decide) (by decide) ?_
  -- at 1016, locals [0, 1, 2, 3, 4, 5, 6, 8, 9, 10, 11]
  have hx2 := x_is h2
  have hlk : q_look S2 p 0 := by
    refine ⟨by rw [f5]; exact c2, q_b0 (by rw [f5, f12]; exact c3), Or.inl rfl⟩
  rcases h10 with h10 | h10
  · have hlo3 := x_look_n h2 hp hlk (fun y => y (by rw [f18, if_pos rfl]; exact h10))
    have hL3 : q_LI (ww_u2 S2 10 p (if (0 : Int32) = 0 then S2 10 p else 0)) w m wa := q_LI_u2 hL2 (by decide)
    have hng : ¬ (10 : Int32) ≤ sz := Int32.not_le.mpr h10
    refine ww_aload_n (i := 1) dL_law_1016 rfl rfl ?_
    refine ww_iload (i := 8) dL_law_1017 rfl ?_
    refine ww_iconst (v := 0) dL_law_1019 (by decide) ?_
    refine ww_callV (κ := 7) (r := (RX6, TX6, 4)) wk_L_98 dL_law_1020 (hlo3) rfl rfl (show ww_is _ _ 7 from hx2).1 (show ww_is _ _ 7 from hx2).2 rfl rfl (by omega) (by omega) (by omega) (by first | exact Nat.le_of_ble_eq_true rfl | (simp [ww_rf_cat, Value.category])) rfl (fun E M9 h9 => h9.elim) (fun v9 M9 h9 => ?_)
    obtain ⟨rfl, h3⟩ := h9
    refine ww_iload (i := 11) dL_law_1023 rfl ?_
    refine ww_bipush (v := 10) dL_law_1025 (by decide) ?_
    refine ww_icmp_ge_f (tgt := 1034) dL_law_1027 (by decide) hng ?_
    refine ww_iconst (v := 0) dL_law_1030 (by decide) ?_
    refine ww_goto (tgt := 1036) dL_law_1031 (by decide) ?_
    refine ww_icmp_ne_f (tgt := 1062) dL_law_1036 (by decide) rfl ?_
    refine ww_iload (i := 11) dL_law_1039 rfl ?_
    refine ww_bipush (v := 10) dL_law_1041 (by decide) ?_
    refine ww_icmp_lt_t (tgt := 1058) dL_law_1043 (by decide) h10 ?_
    refine ww_iconst (v := 1) dL_law_1058 (by decide) ?_
    refine ww_goto (tgt := 1063) dL_law_1059 (by decide) ?_
    refine ww_istore_n (i := 2) (lv2 := [(0, _), (1, _), (2, _), (3, _), (4, _), (5, _), (6, _), (8, _), (9, _), (10, _), (11, _)]) dL_law_1063 rfl (Nat.le_of_ble_eq_true rfl) rfl ?_
    refine ww_goto (tgt := 1575) dL_law_1064 (by decide) ?_
    -- at 1575, locals [0, 1, 2, 3, 4, 5, 6, 8, 9, 10, 11]
    exact ww_subk (ww_less (by omega) (by omega) (kk _ _ _ _ _ _ (by omega) h3 hL3)) ⟨rfl, rfl, rfl, rfl, rfl, rfl, rfl, rfl, trivial⟩
  · have hnl : ¬ sz < 10 := Int32.not_lt.mpr h10
    have hlo3 := x_look_h h2 hp hlk (by
      unfold q_lookV
      rw [f18, if_pos rfl]
      exact hnl)
    rw [f18] at hlo3
    have hL3 := q_LI_holds (p := p) hL2
    have f9 : q_holds S2 p 9 p = 1 := (ww_u2n (fun y => absurd y.1 (by decide))).trans ww_u2s
    generalize q_holds S2 p = S3 at hlo3 hL3 f9
    refine ww_aload_n (i := 1) dL_law_1016 rfl rfl ?_
    refine ww_iload (i := 8) dL_law_1017 rfl ?_
    refine ww_iconst (v := 0) dL_law_1019 (by decide) ?_
    refine ww_callV (κ := 7) (r := (RX6, TX6, 4)) wk_L_98 dL_law_1020 (hlo3) rfl rfl (show ww_is _ _ 7 from hx2).1 (show ww_is _ _ 7 from hx2).2 rfl rfl (by omega) (by omega) (by omega) (by first | exact Nat.le_of_ble_eq_true rfl | (simp [ww_rf_cat, Value.category])) rfl (fun E M9 h9 => h9.elim) (fun v9 M9 h9 => ?_)
    obtain ⟨rfl, h3⟩ := h9
    refine ww_iload (i := 11) dL_law_1023 rfl ?_
    refine ww_bipush (v := 10) dL_law_1025 (by decide) ?_
    refine ww_icmp_ge_t (tgt := 1034) dL_law_1027 (by decide) h10 ?_
    refine ww_iload (i := 11) dL_law_1034 rfl ?_
    refine ww_icmp_ne_f (tgt := 1062) dL_law_1036 (by decide) rfl ?_
    refine ww_iload (i := 11) dL_law_1039 rfl ?_
    refine ww_bipush (v := 10) dL_law_1041 (by decide) ?_
    refine ww_icmp_lt_f (tgt := 1058) dL_law_1043 (by decide) hnl ?_
    -- at 1046, locals [0, 1, 2, 3, 4, 5, 6, 8, 9, 10, 11]
    have hx3 := x_is h3
    have g9 := x_of6 h3 hp
    rw [f9] at g9
    refine ww_aload_n (i := 1) dL_law_1046 rfl rfl ?_
    refine ww_iload (i := 8) dL_law_1047 rfl ?_
    refine ww_bipush (v := 6) dL_law_1049 (by decide) ?_
    refine ww_callV (κ := 7) (r := (RX6, TX6, 4)) wk_L_22 dL_law_1051 (g9) rfl rfl (show ww_is _ _ 7 from hx3).1 (show ww_is _ _ 7 from hx3).2 rfl rfl (by omega) (by omega) (by omega) (by first | exact Nat.le_of_ble_eq_true rfl | (simp [ww_rf_cat, Value.category])) rfl (fun E M9 h9 => h9.elim) (fun v9 M9 h9 => ?_)
    obtain ⟨rfl, rfl⟩ := h9
    refine ww_iconst (v := 1) dL_law_1054 (by decide) ?_
    refine ww_icmp_ne_f (tgt := 1062) dL_law_1055 (by decide) rfl ?_
    refine ww_iconst (v := 1) dL_law_1058 (by decide) ?_
    refine ww_goto (tgt := 1063) dL_law_1059 (by decide) ?_
    refine ww_istore_n (i := 2) (lv2 := [(0, _), (1, _), (2, _), (3, _), (4, _), (5, _), (6, _), (8, _), (9, _), (10, _), (11, _)]) dL_law_1063 rfl (Nat.le_of_ble_eq_true rfl) rfl ?_
    refine ww_goto (tgt := 1575) dL_law_1064 (by decide) ?_
    -- at 1575, locals [0, 1, 2, 3, 4, 5, 6, 8, 9, 10, 11]
    exact ww_subk (ww_less (by omega) (by omega) (kk _ _ _ _ _ _ (by omega) h3 hL3)) ⟨rfl, rfl, rfl, rfl, rfl, rfl, rfl, rfl, trivial⟩
end WWN3
