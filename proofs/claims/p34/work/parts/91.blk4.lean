/-! ===== the law's blocks: recall, clear and look, examine and waive, roads ===== -/
section WWN4
variable {g : ww_G} {M : ww_M} {c : Nat → Nat} {b w m p d kc ks : Nat} {S : Nat → Nat → Int32} {mo wa ti v : Int32} {Q : Option Value → ww_M → Prop} {X : String → ww_M → Prop} {t : Nat}
set_option maxRecDepth 20000 in
set_option maxHeartbeats 4000000 in
theorem law_b9e (h : ww_mx g c b 23 w m S M) (hL : q_LI S w m wa) (hb : b ≤ 500) (hp : p < 23) (hd : 24 ≤ d) (hkc : 20 ≤ kc) (hks : 8000 ≤ ks) (kk : ∀ (M' : ww_M) (S' : Nat → Nat → Int32) (b' w' m' : Nat) (wa' : Int32), b' ≤ b + 4 → ww_mx g c b' 23 w' m' S' M' → q_LI S' w' m' wa' → ww_A g wy_L_law d (kc - 20) (ks - 8000) M' 1575 [(0, .ref (ww_gb g)), (1, .ref (c 0)), (2, .int 1), (3, .int mo), (4, .int wa'), (5, .int ti), (6, .int v), (8, .int (nI p))] [] Q X) : ww_A g wy_L_law d kc ks M 1144 [(0, .ref (ww_gb g)), (1, .ref (c 0)), (2, .int 1), (3, .int mo), (4, .int wa), (5, .int ti), (6, .int v), (8, .int (nI p)), (9, .int (S 5 p)), (10, .int (S 12 (q_hd (S 5) 5 p))), (11, .int (nI (q_cnt (q_hit S (nI (q_lw (v >>> (4 &&& 31)) 10))) 23))), (12, .int (23))] [] Q X := by
  have hx := x_is h
  have hlo := l_low (g := g) (M := M) (v := v >>> (8 &&& 31)) (k := 4) (by decide) (by decide)
  have hlo_ := q_lw_lt (v := v >>> (8 &&& 31)) (k := 4) (by decide)
  generalize q_lw (v >>> (8 &&& 31)) 4 = j at hlo hlo_
  have hl2 := l_low (g := g) (M := M) (v := v >>> (4 &&& 31)) (k := 10) (by decide) (by decide)
  have j2 := q_lw_lt (v := v >>> (4 &&& 31)) (k := 10) (by decide)
  generalize q_lw (v >>> (4 &&& 31)) 10 = e at hl2 j2 ⊢
  by_cases c1 : 0 < nI j
  · refine ww_iload (i := 6) dL_law_1144 rfl ?_
    refine ww_bipush (v := 8) dL_law_1146 (by decide) ?_
    refine ww_ishr dL_law_1148 ?_
    refine ww_iconst (v := 4) dL_law_1149 (by decide) ?_
    refine ww_callS wk_L_43 rfl dL_law_1150 (hlo) rfl rfl (by omega) (by omega) (by omega) (by first | exact Nat.le_of_ble_eq_true rfl | (simp [ww_rf_cat, Value.category])) rfl (fun E M9 h9 => h9.elim) (fun v9 M9 h9 => ?_)
    obtain ⟨rfl, rfl⟩ := h9
    refine ww_if_gt_t (tgt := 1174) dL_law_1153 (by decide) c1 ?_
    refine ww_iconst (v := 1) dL_law_1174 (by decide) ?_
    refine ww_goto (tgt := 1179) dL_law_1175 (by decide) ?_
    refine ww_istore_n (i := 2) (lv2 := [(0, _), (1, _), (2, _), (3, _), (4, _), (5, _), (6, _), (8, _), (9, _), (10, _), (11, _), (12, _)]) dL_law_1179 rfl (Nat.le_of_ble_eq_true rfl) rfl ?_
    refine ww_goto (tgt := 1575) dL_law_1180 (by decide) ?_
    -- at 1575, locals [0, 1, 2, 3, 4, 5, 6, 8, 9, 10, 11, 12]
    exact ww_subk (ww_less (by omega) (by omega) (kk _ _ _ _ _ _ (by omega) h hL)) ⟨rfl, rfl, rfl, rfl, rfl, rfl, rfl, rfl, trivial⟩
  have hme : q_rg 0 9 (nI e) := q_rgN (lo := 0) (hi := 9) (by omega) (by omega) (by decide)
  have hrc := x_recall h hme
  have hL1 := q_LI_recall (v := nI e) (n := 23) hL
  refine ww_iload (i := 6) dL_law_1144 rfl ?_
  refine ww_bipush (v := 8) dL_law_1146 (by decide) ?_
  refine ww_ishr dL_law_1148 ?_
  refine ww_iconst (v := 4) dL_law_1149 (by decide) ?_
  refine ww_callS wk_L_43 rfl dL_law_1150 (hlo) rfl rfl (by omega) (by omega) (by omega) (by first | exact Nat.le_of_ble_eq_true rfl | (simp [ww_rf_cat, Value.category])) rfl (fun E M9 h9 => h9.elim) (fun v9 M9 h9 => ?_)
  obtain ⟨rfl, rfl⟩ := h9
  refine ww_if_gt_f (tgt := 1174) dL_law_1153 (by decide) c1 ?_
  refine ww_aload_n (i := 1) dL_law_1156 rfl rfl ?_
  refine ww_iload (i := 6) dL_law_1157 rfl ?_
  refine ww_iconst (v := 4) dL_law_1159 (by decide) ?_
  refine ww_ishr dL_law_1160 ?_
  refine ww_bipush (v := 10) dL_law_1161 (by decide) ?_
  refine ww_callS wk_L_43 rfl dL_law_1163 (hl2) rfl rfl (by omega) (by omega) (by omega) (by first | exact Nat.le_of_ble_eq_true rfl | (simp [ww_rf_cat, Value.category])) rfl (fun E M9 h9 => h9.elim) (fun v9 M9 h9 => ?_)
  obtain ⟨rfl, rfl⟩ := h9
  refine ww_callV (κ := 7) (r := (RX6, TX6, 4)) wk_L_102 dL_law_1166 (hrc) rfl rfl (show ww_is _ _ 7 from hx).1 (show ww_is _ _ 7 from hx).2 rfl rfl (by omega) (by omega) (by omega) (by first | exact Nat.le_of_ble_eq_true rfl | (simp [ww_rf_cat, Value.category])) rfl (fun E M9 h9 => h9.elim) (fun v9 M9 h9 => ?_)
  obtain ⟨rfl, h1⟩ := h9
  refine ww_iload (i := 11) dL_law_1169 rfl ?_
  refine ww_icmp_ne_f (tgt := 1178) dL_law_1171 (by decide) rfl ?_
  refine ww_iconst (v := 1) dL_law_1174 (by decide) ?_
  refine ww_goto (tgt := 1179) dL_law_1175 (by decide) ?_
  refine ww_istore_n (i := 2) (lv2 := [(0, _), (1, _), (2, _), (3, _), (4, _), (5, _), (6, _), (8, _), (9, _), (10, _), (11, _), (12, _)]) dL_law_1179 rfl (Nat.le_of_ble_eq_true rfl) rfl ?_
  refine ww_goto (tgt := 1575) dL_law_1180 (by decide) ?_
  -- at 1575, locals [0, 1, 2, 3, 4, 5, 6, 8, 9, 10, 11, 12]
  exact ww_subk (ww_less (by omega) (by omega) (kk _ _ _ _ _ _ (by omega) h1 hL1)) ⟨rfl, rfl, rfl, rfl, rfl, rfl, rfl, rfl, trivial⟩
set_option maxRecDepth 20000 in
set_option maxHeartbeats 4000000 in
theorem law_b9l (h : ww_mx g c b 23 w m S M) (hL : q_LI S w m wa) (hb : b ≤ 500) (hp : p < 23) (hd : 24 ≤ d) (hkc : 20 ≤ kc) (hks : 8000 ≤ ks) (kk : ∀ (M' : ww_M) (S' : Nat → Nat → Int32) (b' w' m' : Nat) (wa' : Int32), b' ≤ b + 4 → ww_mx g c b' 23 w' m' S' M' → q_LI S' w' m' wa' → ww_A g wy_L_law d (kc - 20) (ks - 8000) M' 1575 [(0, .ref (ww_gb g)), (1, .ref (c 0)), (2, .int 1), (3, .int mo), (4, .int wa'), (5, .int ti), (6, .int v), (8, .int (nI p))] [] Q X) : ∀ r i, i + r = 23 → ww_A g wy_L_law d kc ks M 1080 [(0, .ref (ww_gb g)), (1, .ref (c 0)), (2, .int 1), (3, .int mo), (4, .int wa), (5, .int ti), (6, .int v), (8, .int (nI p)), (9, .int (S 5 p)), (10, .int (S 12 (q_hd (S 5) 5 p))), (11, .int (nI (q_cnt (q_hit S (nI (q_lw (v >>> (4 &&& 31)) 10))) i))), (12, .int (nI i))] [] Q X
  | 0, i, hi => by
    have e0 : i = 23 := by omega
    subst e0
    refine ww_iload (i := 12) dL_law_1080 rfl ?_
    refine ww_bipush (v := 23) dL_law_1082 (by decide) ?_
    refine ww_icmp_ge_t (tgt := 1144) dL_law_1084 (by decide) (by decide) ?_
    -- at 1144, locals [0, 1, 2, 3, 4, 5, 6, 8, 9, 10, 11, 12]
    exact law_b9e h hL hb hp hd hkc hks kk
  | r + 1, i, hi => by
    have hx := x_is h
    have hi' : i < 23 := by omega
    have ih := law_b9l h hL hb hp hd hkc hks kk r (i + 1) (by omega)
    have e23 : ¬ (23 : Int32) ≤ nI i := nI_ge (b := 23) hi' (by decide)
    have hl2 := l_low (g := g) (M := M) (v := v >>> (4 &&& 31)) (k := 10) (by decide) (by decide)
    generalize q_lw (v >>> (4 &&& 31)) 10 = e at hl2 ih ⊢
    have o1 := x_of1 h hi'
    have o7 := x_of7 h hi'
    have oh := x_host h hi'
    have no : ¬ q_hit S (nI e) i → nI (q_cnt (q_hit S (nI e)) i) + 0 = nI (q_cnt (q_hit S (nI e)) (i + 1)) := fun y => by
      rw [q_cnt_n y]
      exact Int32.add_zero _
    by_cases c1 : ¬ S 3 i = nI e
    · refine ww_iload (i := 12) dL_law_1080 rfl ?_
      refine ww_bipush (v := 23) dL_law_1082 (by decide) ?_
      refine ww_icmp_ge_f (tgt := 1144) dL_law_1084 (by decide) e23 ?_
      refine ww_iload (i := 11) dL_law_1087 rfl ?_
      refine ww_aload_n (i := 1) dL_law_1089 rfl rfl ?_
      refine ww_iload (i := 12) dL_law_1090 rfl ?_
      refine ww_iconst (v := 1) dL_law_1092 (by decide) ?_
      refine ww_callV (κ := 7) (r := (RX6, TX6, 4)) wk_L_22 dL_law_1093 (o1) rfl rfl (show ww_is _ _ 7 from hx).1 (show ww_is _ _ 7 from hx).2 rfl rfl (by omega) (by omega) (by omega) (by first | exact Nat.le_of_ble_eq_true rfl | (simp [ww_rf_cat, Value.category])) rfl (fun E M9 h9 => h9.elim) (fun v9 M9 h9 => ?_)
      obtain ⟨rfl, rfl⟩ := h9
      refine ww_iload (i := 6) dL_law_1096 rfl ?_
      refine ww_iconst (v := 4) dL_law_1098 (by decide) ?_
      refine ww_ishr dL_law_1099 ?_
      refine ww_bipush (v := 10) dL_law_1100 (by decide) ?_
      refine ww_callS wk_L_43 rfl dL_law_1102 (hl2) rfl rfl (by omega) (by omega) (by omega) (by first | exact Nat.le_of_ble_eq_true rfl | (simp [ww_rf_cat, Value.category])) rfl (fun E M9 h9 => h9.elim) (fun v9 M9 h9 => ?_)
      obtain ⟨rfl, rfl⟩ := h9
      refine ww_icmp_ne_t (tgt := 1134) dL_law_1105 (by decide) c1 ?_
      refine ww_iconst (v := 0) dL_law_1134 (by decide) ?_
      refine ww_iadd dL_law_1135 ?_
      -- at 1136, locals [0, 1, 2, 3, 4, 5, 6, 8, 9, 10, 11, 12]
      refine ww_top _ (no (fun y => c1 y.1)) ?_
      refine ww_istore (i := 11) (lv2 := [(0, _), (1, _), (2, _), (3, _), (4, _), (5, _), (6, _), (8, _), (9, _), (10, _), (11, _), (12, _)]) dL_law_1136 (Nat.le_of_ble_eq_true rfl) rfl ?_
      refine ww_iinc (i := 12) (v := _ + 1) (lv2 := [(0, _), (1, _), (2, _), (3, _), (4, _), (5, _), (6, _), (8, _), (9, _), (10, _), (11, _), (12, _)]) dL_law_1138 rfl (by rfl) (Nat.le_of_ble_eq_true rfl) rfl ?_
      refine ww_goto (tgt := 1080) dL_law_1141 (by decide) ?_
      -- at 1080, locals [0, 1, 2, 3, 4, 5, 6, 8, 9, 10, 11, 12]
      rw [nI_1 i]
      exact ih
    have c1 : S 3 i = nI e := Classical.not_not.mp c1
    by_cases c2 : ¬ S 10 i = 0
    · refine ww_iload (i := 12) dL_law_1080 rfl ?_
      refine ww_bipush (v := 23) dL_law_1082 (by decide) ?_
      refine ww_icmp_ge_f (tgt := 1144) dL_law_1084 (by decide) e23 ?_
      refine ww_iload (i := 11) dL_law_1087 rfl ?_
      refine ww_aload_n (i := 1) dL_law_1089 rfl rfl ?_
      refine ww_iload (i := 12) dL_law_1090 rfl ?_
      refine ww_iconst (v := 1) dL_law_1092 (by decide) ?_
      refine ww_callV (κ := 7) (r := (RX6, TX6, 4)) wk_L_22 dL_law_1093 (o1) rfl rfl (show ww_is _ _ 7 from hx).1 (show ww_is _ _ 7 from hx).2 rfl rfl (by omega) (by omega) (by omega) (by first | exact Nat.le_of_ble_eq_true rfl | (simp [ww_rf_cat, Value.category])) rfl (fun E M9 h9 => h9.elim) (fun v9 M9 h9 => ?_)
      obtain ⟨rfl, rfl⟩ := h9
      refine ww_iload (i := 6) dL_law_1096 rfl ?_
      refine ww_iconst (v := 4) dL_law_1098 (by decide) ?_
      refine ww_ishr dL_law_1099 ?_
      refine ww_bipush (v := 10) dL_law_1100 (by decide) ?_
      refine ww_callS wk_L_43 rfl dL_law_1102 (hl2) rfl rfl (by omega) (by omega) (by omega) (by first | exact Nat.le_of_ble_eq_true rfl | (simp [ww_rf_cat, Value.category])) rfl (fun E M9 h9 => h9.elim) (fun v9 M9 h9 => ?_)
      obtain ⟨rfl, rfl⟩ := h9
      refine ww_icmp_ne_f (tgt := 1134) dL_law_1105 (by decide) c1 ?_
      refine ww_aload_n (i := 1) dL_law_1108 rfl rfl ?_
      refine ww_iload (i := 12) dL_law_1109 rfl ?_
      refine ww_bipush (v := 7) dL_law_1111 (by decide) ?_
      refine ww_callV (κ := 7) (r := (RX6, TX6, 4)) wk_L_22 dL_law_1113 (o7) rfl rfl (show ww_is _ _ 7 from hx).1 (show ww_is _ _ 7 from hx).2 rfl rfl (by omega) (by omega) (by omega) (by first | exact Nat.le_of_ble_eq_true rfl | (simp [ww_rf_cat, Value.category])) rfl (fun E M9 h9 => h9.elim) (fun v9 M9 h9 => ?_)
      obtain ⟨rfl, rfl⟩ := h9
      refine ww_if_ne_t (tgt := 1134) dL_law_1116 (by decide) c2 ?_
      refine ww_iconst (v := 0) dL_law_1134 (by decide) ?_
      refine ww_iadd dL_law_1135 ?_
      -- at 1136, locals [0, 1, 2, 3, 4, 5, 6, 8, 9, 10, 11, 12]
      refine ww_top _ (no (fun y => c2 y.2.2)) ?_
      refine ww_istore (i := 11) (lv2 := [(0, _), (1, _), (2, _), (3, _), (4, _), (5, _), (6, _), (8, _), (9, _), (10, _), (11, _), (12, _)]) dL_law_1136 (Nat.le_of_ble_eq_true rfl) rfl ?_
      refine ww_iinc (i := 12) (v := _ + 1) (lv2 := [(0, _), (1, _), (2, _), (3, _), (4, _), (5, _), (6, _), (8, _), (9, _), (10, _), (11, _), (12, _)]) dL_law_1138 rfl (by rfl) (Nat.le_of_ble_eq_true rfl) rfl ?_
      refine ww_goto (tgt := 1080) dL_law_1141 (by decide) ?_
      -- at 1080, locals [0, 1, 2, 3, 4, 5, 6, 8, 9, 10, 11, 12]
      rw [nI_1 i]
      exact ih
    have c2 : S 10 i = 0 := Classical.not_not.mp c2
    by_cases c3 : S 5 i = -2
    · refine ww_iload (i := 12) dL_law_1080 rfl ?_
      refine ww_bipush (v := 23) dL_law_1082 (by decide) ?_
      refine ww_icmp_ge_f (tgt := 1144) dL_law_1084 (by decide) e23 ?_
      refine ww_iload (i := 11) dL_law_1087 rfl ?_
      refine ww_aload_n (i := 1) dL_law_1089 rfl rfl ?_
      refine ww_iload (i := 12) dL_law_1090 rfl ?_
      refine ww_iconst (v := 1) dL_law_1092 (by decide) ?_
      refine ww_callV (κ := 7) (r := (RX6, TX6, 4)) wk_L_22 dL_law_1093 (o1) rfl rfl (show ww_is _ _ 7 from hx).1 (show ww_is _ _ 7 from hx).2 rfl rfl (by omega) (by omega) (by omega) (by first | exact Nat.le_of_ble_eq_true rfl | (simp [ww_rf_cat, Value.category])) rfl (fun E M9 h9 => h9.elim) (fun v9 M9 h9 => ?_)
      obtain ⟨rfl, rfl⟩ := h9
      refine ww_iload (i := 6) dL_law_1096 rfl ?_
      refine ww_iconst (v := 4) dL_law_1098 (by decide) ?_
      refine ww_ishr dL_law_1099 ?_
      refine ww_bipush (v := 10) dL_law_1100 (by decide) ?_
      refine ww_callS wk_L_43 rfl dL_law_1102 (hl2) rfl rfl (by omega) (by omega) (by omega) (by first | exact Nat.le_of_ble_eq_true rfl | (simp [ww_rf_cat, Value.category])) rfl (fun E M9 h9 => h9.elim) (fun v9 M9 h9 => ?_)
      obtain ⟨rfl, rfl⟩ := h9
      refine ww_icmp_ne_f (tgt := 1134) dL_law_1105 (by decide) c1 ?_
      refine ww_aload_n (i := 1) dL_law_1108 rfl rfl ?_
      refine ww_iload (i := 12) dL_law_1109 rfl ?_
      refine ww_bipush (v := 7) dL_law_1111 (by decide) ?_
      refine ww_callV (κ := 7) (r := (RX6, TX6, 4)) wk_L_22 dL_law_1113 (o7) rfl rfl (show ww_is _ _ 7 from hx).1 (show ww_is _ _ 7 from hx).2 rfl rfl (by omega) (by omega) (by omega) (by first | exact Nat.le_of_ble_eq_true rfl | (simp [ww_rf_cat, Value.category])) rfl (fun E M9 h9 => h9.elim) (fun v9 M9 h9 => ?_)
      obtain ⟨rfl, rfl⟩ := h9
      refine ww_if_ne_f (tgt := 1134) dL_law_1116 (by decide) c2 ?_
      refine ww_aload_n (i := 1) dL_law_1119 rfl rfl ?_
      refine ww_iload (i := 12) dL_law_1120 rfl ?_
      refine ww_callV (κ := 7) (r := (RX6, TX6, 4)) wk_L_18 dL_law_1122 (oh) rfl rfl (show ww_is _ _ 7 from hx).1 (show ww_is _ _ 7 from hx).2 rfl rfl (by omega) (by omega) (by omega) (by first | exact Nat.le_of_ble_eq_true rfl | (simp [ww_rf_cat, Value.category])) rfl (fun E M9 h9 => h9.elim) (fun v9 M9 h9 => ?_)
      obtain ⟨rfl, rfl⟩ := h9
      refine ww_bipush (v := (-2)) dL_law_1125 (by decide) ?_
      refine ww_icmp_eq_t (tgt := 1134) dL_law_1127 (by decide) c3 ?_
      refine ww_iconst (v := 0) dL_law_1134 (by decide) ?_
      refine ww_iadd dL_law_1135 ?_
      -- at 1136, locals [0, 1, 2, 3, 4, 5, 6, 8, 9, 10, 11, 12]
      refine ww_top _ (no (fun y => y.2.1 c3)) ?_
      refine ww_istore (i := 11) (lv2 := [(0, _), (1, _), (2, _), (3, _), (4, _), (5, _), (6, _), (8, _), (9, _), (10, _), (11, _), (12, _)]) dL_law_1136 (Nat.le_of_ble_eq_true rfl) rfl ?_
      refine ww_iinc (i := 12) (v := _ + 1) (lv2 := [(0, _), (1, _), (2, _), (3, _), (4, _), (5, _), (6, _), (8, _), (9, _), (10, _), (11, _), (12, _)]) dL_law_1138 rfl (by rfl) (Nat.le_of_ble_eq_true rfl) rfl ?_
      refine ww_goto (tgt := 1080) dL_law_1141 (by decide) ?_
      -- at 1080, locals [0, 1, 2, 3, 4, 5, 6, 8, 9, 10, 11, 12]
      rw [nI_1 i]
      exact ih
    refine ww_iload (i := 12) dL_law_1080 rfl ?_
    refine ww_bipush (v := 23) dL_law_1082 (by decide) ?_
    refine ww_icmp_ge_f (tgt := 1144) dL_law_1084 (by decide) e23 ?_
    refine ww_iload (i := 11) dL_law_1087 rfl ?_
    refine ww_aload_n (i := 1) dL_law_1089 rfl rfl ?_
    refine ww_iload (i := 12) dL_law_1090 rfl ?_
    refine ww_iconst (v := 1) dL_law_1092 (by decide) ?_
    refine ww_callV (κ := 7) (r := (RX6, TX6, 4)) wk_L_22 dL_law_1093 (o1) rfl rfl (show ww_is _ _ 7 from hx).1 (show ww_is _ _ 7 from hx).2 rfl rfl (by omega) (by omega) (by omega) (by first | exact Nat.le_of_ble_eq_true rfl | (simp [ww_rf_cat, Value.category])) rfl (fun E M9 h9 => h9.elim) (fun v9 M9 h9 => ?_)
    obtain ⟨rfl, rfl⟩ := h9
    refine ww_iload (i := 6) dL_law_1096 rfl ?_
    refine ww_iconst (v := 4) dL_law_1098 (by decide) ?_
    refine ww_ishr dL_law_1099 ?_
    refine ww_bipush (v := 10) dL_law_1100 (by decide) ?_
    refine ww_callS wk_L_43 rfl dL_law_1102 (hl2) rfl rfl (by omega) (by omega) (by omega) (by first | exact Nat.le_of_ble_eq_true rfl | (simp [ww_rf_cat, Value.category])) rfl (fun E M9 h9 => h9.elim) (fun v9 M9 h9 => ?_)
    obtain ⟨rfl, rfl⟩ := h9
    refine ww_icmp_ne_f (tgt := 1134) dL_law_1105 (by decide) c1 ?_
    refine ww_aload_n (i := 1) dL_law_1108 rfl rfl ?_
    refine ww_iload (i := 12) dL_law_1109 rfl ?_
    refine ww_bipush (v := 7) dL_law_1111 (by decide) ?_
    refine ww_callV (κ := 7) (r := (RX6, TX6, 4)) wk_L_22 dL_law_1113 (o7) rfl rfl (show ww_is _ _ 7 from hx).1 (show ww_is _ _ 7 from hx).2 rfl rfl (by omega) (by omega) (by omega) (by first | exact Nat.le_of_ble_eq_true rfl | (simp [ww_rf_cat, Value.category])) rfl (fun E M9 h9 => h9.elim) (fun v9 M9 h9 => ?_)
    obtain ⟨rfl, rfl⟩ := h9
    refine ww_if_ne_f (tgt := 1134) dL_law_1116 (by decide) c2 ?_
    refine ww_aload_n (i := 1) dL_law_1119 rfl rfl ?_
    refine ww_iload (i := 12) dL_law_1120 rfl ?_
    refine ww_callV (κ := 7) (r := (RX6, TX6, 4)) wk_L_18 dL_law_1122 (oh) rfl rfl (show ww_is _ _ 7 from hx).1 (show ww_is _ _ 7 from hx).2 rfl rfl (by omega) (by omega) (by omega) (by first | exact Nat.le_of_ble_eq_true rfl | (simp [ww_rf_cat, Value.category])) rfl (fun E M9 h9 => h9.elim) (fun v9 M9 h9 => ?_)
    obtain ⟨rfl, rfl⟩ := h9
    refine ww_bipush (v := (-2)) dL_law_1125 (by decide) ?_
    refine ww_icmp_eq_f (tgt := 1134) dL_law_1127 (by decide) c3 ?_
    refine ww_iconst (v := 1) dL_law_1130 (by decide) ?_
    refine ww_goto (tgt := 1135) dL_law_1131 (by decide) ?_
    refine ww_iadd dL_law_1135 ?_
    -- at 1136, locals [0, 1, 2, 3, 4, 5, 6, 8, 9, 10, 11, 12]
    refine ww_top (nI (q_cnt (q_hit S (nI e)) (i + 1))) (by rw [q_cnt_s (P := q_hit S (nI e)) ⟨c1, c3, c2⟩, nI_1]) ?_
    refine ww_istore (i := 11) (lv2 := [(0, _), (1, _), (2, _), (3, _), (4, _), (5, _), (6, _), (8, _), (9, _), (10, _), (11, _), (12, _)]) dL_law_1136 (Nat.le_of_ble_eq_true rfl) rfl ?_
    refine ww_iinc (i := 12) (v := _ + 1) (lv2 := [(0, _), (1, _), (2, _), (3, _), (4, _), (5, _), (6, _), (8, _), (9, _), (10, _), (11, _), (12, _)]) dL_law_1138 rfl (by rfl) (Nat.le_of_ble_eq_true rfl) rfl ?_
    refine ww_goto (tgt := 1080) dL_law_1141 (by decide) ?_
    -- at 1080, locals [0, 1, 2, 3, 4, 5, 6, 8, 9, 10, 11, 12]
    rw [nI_1 i]
    exact ih
set_option maxRecDepth 20000 in
set_option maxHeartbeats 4000000 in
theorem law_b9 (h : ww_mx g c b 23 w m S M) (hL : q_LI S w m wa) (hb : b ≤ 500) (hp : p < 23) (hd : 24 ≤ d) (hkc : 20 ≤ kc) (hks : 8000 ≤ ks) (kk : ∀ (M' : ww_M) (S' : Nat → Nat → Int32) (b' w' m' : Nat) (wa' : Int32), b' ≤ b + 4 → ww_mx g c b' 23 w' m' S' M' → q_LI S' w' m' wa' → ww_A g wy_L_law d (kc - 20) (ks - 8000) M' 1575 [(0, .ref (ww_gb g)), (1, .ref (c 0)), (2, .int 1), (3, .int mo), (4, .int wa'), (5, .int ti), (6, .int v), (8, .int (nI p))] [] Q X) : ww_A g wy_L_law d kc ks M 1074 [(0, .ref (ww_gb g)), (1, .ref (c 0)), (2, .int 1), (3, .int mo), (4, .int wa), (5, .int ti), (6, .int v), (8, .int (nI p)), (9, .int (S 5 p)), (10, .int (S 12 (q_hd (S 5) 5 p)))] [] Q X := by
  have hx := x_is h
  refine ww_iconst (v := 0) dL_law_1074 (by decide) ?_
  refine ww_istore (i := 11) (lv2 := [(0, _), (1, _), (2, _), (3, _), (4, _), (5, _), (6, _), (8, _), (9, _), (10, _), (11, _)]) dL_law_1075 (Nat.le_of_ble_eq_true rfl) rfl ?_
  refine ww_iconst (v := 0) dL_law_1077 (by decide) ?_
  refine ww_istore (i := 12) (lv2 := [(0, _), (1, _), (2, _), (3, _), (4, _), (5, _), (6, _), (8, _), (9, _), (10, _), (11, _), (12, _)]) dL_law_1078 (Nat.le_of_ble_eq_true rfl) rfl ?_
  -- at 1080, locals [0, 1, 2, 3, 4, 5, 6, 8, 9, 10, 11, 12]
  exact law_b9l h hL hb hp hd hkc hks kk 23 0 (by decide)
set_option maxRecDepth 20000 in
set_option maxHeartbeats 4000000 in
theorem law_b10l (h : ww_mx g c b 23 w m S M) (hL : q_LI S w m wa) (hb : b ≤ 501) (hp : p < 23) (hd : 24 ≤ d) (hkc : 19 ≤ kc) (hks : 7000 ≤ ks) (kk : ∀ (M' : ww_M) (S' : Nat → Nat → Int32) (b' w' m' : Nat) (wa' : Int32), b' ≤ b + 3 → ww_mx g c b' 23 w' m' S' M' → q_LI S' w' m' wa' → ww_A g wy_L_law d (kc - 19) (ks - 7000) M' 1575 [(0, .ref (ww_gb g)), (1, .ref (c 0)), (2, .int 1), (3, .int mo), (4, .int wa'), (5, .int ti), (6, .int v), (8, .int (nI p))] [] Q X) : ww_A g wy_L_law d kc ks M 1231 [(0, .ref (ww_gb g)), (1, .ref (c 0)), (2, .int 1), (3, .int mo), (4, .int wa), (5, .int ti), (6, .int v), (8, .int (nI p)), (9, .int (S 5 p)), (10, .int (S 12 (q_hd (S 5) 5 p)))] [] Q X := by
  have hx := x_is h
  by_cases c1 : ¬ S 5 p = -1
  · refine ww_iload (i := 9) dL_law_1231 rfl ?_
    refine ww_iconst (v := (-1)) dL_law_1233 (by decide) ?_
    refine ww_icmp_ne_t (tgt := 1575) dL_law_1234 (by decide) c1 ?_
    -- at 1575, locals [0, 1, 2, 3, 4, 5, 6, 8, 9, 10]
    exact ww_subk (ww_less (by omega) (by omega) (kk _ _ _ _ _ _ (by omega) h hL)) ⟨rfl, rfl, rfl, rfl, rfl, rfl, rfl, rfl, trivial⟩
  have c1 : S 5 p = -1 := Classical.not_not.mp c1
  by_cases c2 : ¬ S 12 (q_hd (S 5) 5 p) = 0
  · refine ww_iload (i := 9) dL_law_1231 rfl ?_
    refine ww_iconst (v := (-1)) dL_law_1233 (by decide) ?_
    refine ww_icmp_ne_f (tgt := 1575) dL_law_1234 (by decide) c1 ?_
    refine ww_iload (i := 10) dL_law_1237 rfl ?_
    refine ww_if_ne_t (tgt := 1575) dL_law_1239 (by decide) c2 ?_
    -- at 1575, locals [0, 1, 2, 3, 4, 5, 6, 8, 9, 10]
    exact ww_subk (ww_less (by omega) (by omega) (kk _ _ _ _ _ _ (by omega) h hL)) ⟨rfl, rfl, rfl, rfl, rfl, rfl, rfl, rfl, trivial⟩
  have c2 : S 12 (q_hd (S 5) 5 p) = 0 := Classical.not_not.mp c2
  have hlk : q_look S p 1 := ⟨by rw [c1]; decide, q_b0 c2, Or.inr c1⟩
  by_cases c3 : q_lookV S p 1
  · have hlo := x_look_h h hp hlk c3
    have hL1 := q_LI_holds (p := p) hL
    have f9 : q_holds S p 9 p = 1 := (ww_u2n (fun y => absurd y.1 (by decide))).trans ww_u2s
    generalize q_holds S p = S1 at hlo hL1 f9
    refine ww_iload (i := 9) dL_law_1231 rfl ?_
    refine ww_iconst (v := (-1)) dL_law_1233 (by decide) ?_
    refine ww_icmp_ne_f (tgt := 1575) dL_law_1234 (by decide) c1 ?_
    refine ww_iload (i := 10) dL_law_1237 rfl ?_
    refine ww_if_ne_f (tgt := 1575) dL_law_1239 (by decide) c2 ?_
    refine ww_aload_n (i := 1) dL_law_1242 rfl rfl ?_
    refine ww_iload (i := 8) dL_law_1243 rfl ?_
    refine ww_iconst (v := 1) dL_law_1245 (by decide) ?_
    refine ww_callV (κ := 7) (r := (RX6, TX6, 4)) wk_L_98 dL_law_1246 (hlo) rfl rfl (show ww_is _ _ 7 from hx).1 (show ww_is _ _ 7 from hx).2 rfl rfl (by omega) (by omega) (by omega) (by first | exact Nat.le_of_ble_eq_true rfl | (simp [ww_rf_cat, Value.category])) rfl (fun E M9 h9 => h9.elim) (fun v9 M9 h9 => ?_)
    obtain ⟨rfl, h1⟩ := h9
    -- at 1249, locals [0, 1, 2, 3, 4, 5, 6, 8, 9, 10]
    have hx1 := x_is h1
    have o7 := x_of7 h1 hp
    have o6 := x_of6 h1 hp
    rw [f9] at o6
    by_cases c4 : S1 10 p = 0
    · refine ww_pop dL_law_1249 (by first | rfl | exact ww_rf_cat _) ?_
      refine ww_iload_n (i := 2) dL_law_1250 rfl rfl ?_
      refine ww_if_eq_f (tgt := 1281) dL_law_1251 (by decide) (by decide) ?_
      refine ww_aload_n (i := 1) dL_law_1254 rfl rfl ?_
      refine ww_iload (i := 8) dL_law_1255 rfl ?_
      refine ww_bipush (v := 7) dL_law_1257 (by decide) ?_
      refine ww_callV (κ := 7) (r := (RX6, TX6, 4)) wk_L_22 dL_law_1259 (o7) rfl rfl (show ww_is _ _ 7 from hx1).1 (show ww_is _ _ 7 from hx1).2 rfl rfl (by omega) (by omega) (by omega) (by first | exact Nat.le_of_ble_eq_true rfl | (simp [ww_rf_cat, Value.category])) rfl (fun E M9 h9 => h9.elim) (fun v9 M9 h9 => ?_)
      obtain ⟨rfl, rfl⟩ := h9
      refine ww_if_eq_t (tgt := 1277) dL_law_1262 (by decide) c4 ?_
      refine ww_iconst (v := 1) dL_law_1277 (by decide) ?_
      refine ww_goto (tgt := 1282) dL_law_1278 (by decide) ?_
      refine ww_istore_n (i := 2) (lv2 := [(0, _), (1, _), (2, _), (3, _), (4, _), (5, _), (6, _), (8, _), (9, _), (10, _)]) dL_law_1282 rfl (Nat.le_of_ble_eq_true rfl) rfl ?_
      refine ww_goto (tgt := 1575) dL_law_1283 (by decide) ?_
      -- at 1575, locals [0, 1, 2, 3, 4, 5, 6, 8, 9, 10]
      exact ww_subk (ww_less (by omega) (by omega) (kk _ _ _ _ _ _ (by omega) h1 hL1)) ⟨rfl, rfl, rfl, rfl, rfl, rfl, rfl, rfl, trivial⟩
    · refine ww_pop dL_law_1249 (by first | rfl | exact ww_rf_cat _) ?_
      refine ww_iload_n (i := 2) dL_law_1250 rfl rfl ?_
      refine ww_if_eq_f (tgt := 1281) dL_law_1251 (by decide) (by decide) ?_
      refine ww_aload_n (i := 1) dL_law_1254 rfl rfl ?_
      refine ww_iload (i := 8) dL_law_1255 rfl ?_
      refine ww_bipush (v := 7) dL_law_1257 (by decide) ?_
      refine ww_callV (κ := 7) (r := (RX6, TX6, 4)) wk_L_22 dL_law_1259 (o7) rfl rfl (show ww_is _ _ 7 from hx1).1 (show ww_is _ _ 7 from hx1).2 rfl rfl (by omega) (by omega) (by omega) (by first | exact Nat.le_of_ble_eq_true rfl | (simp [ww_rf_cat, Value.category])) rfl (fun E M9 h9 => h9.elim) (fun v9 M9 h9 => ?_)
      obtain ⟨rfl, rfl⟩ := h9
      refine ww_if_eq_f (tgt := 1277) dL_law_1262 (by decide) c4 ?_
      refine ww_aload_n (i := 1) dL_law_1265 rfl rfl ?_
      refine ww_iload (i := 8) dL_law_1266 rfl ?_
      refine ww_bipush (v := 6) dL_law_1268 (by decide) ?_
      refine ww_callV (κ := 7) (r := (RX6, TX6, 4)) wk_L_22 dL_law_1270 (o6) rfl rfl (show ww_is _ _ 7 from hx1).1 (show ww_is _ _ 7 from hx1).2 rfl rfl (by omega) (by omega) (by omega) (by first | exact Nat.le_of_ble_eq_true rfl | (simp [ww_rf_cat, Value.category])) rfl (fun E M9 h9 => h9.elim) (fun v9 M9 h9 => ?_)
      obtain ⟨rfl, rfl⟩ := h9
      refine ww_iconst (v := 1) dL_law_1273 (by decide) ?_
      refine ww_icmp_ne_f (tgt := 1281) dL_law_1274 (by decide) rfl ?_
      refine ww_iconst (v := 1) dL_law_1277 (by decide) ?_
      refine ww_goto (tgt := 1282) dL_law_1278 (by decide) ?_
      refine ww_istore_n (i := 2) (lv2 := [(0, _), (1, _), (2, _), (3, _), (4, _), (5, _), (6, _), (8, _), (9, _), (10, _)]) dL_law_1282 rfl (Nat.le_of_ble_eq_true rfl) rfl ?_
      refine ww_goto (tgt := 1575) dL_law_1283 (by decide) ?_
      -- at 1575, locals [0, 1, 2, 3, 4, 5, 6, 8, 9, 10]
      exact ww_subk (ww_less (by omega) (by omega) (kk _ _ _ _ _ _ (by omega) h1 hL1)) ⟨rfl, rfl, rfl, rfl, rfl, rfl, rfl, rfl, trivial⟩
  · have hlo := x_look_n h hp hlk c3
    have hL1 : q_LI (ww_u2 S 10 p (if (1 : Int32) = 0 then S 10 p else 0)) w m wa := q_LI_u2 hL (by decide)
    have f10 : ww_u2 S 10 p (if (1 : Int32) = 0 then S 10 p else 0) 10 p = 0 := ww_u2s.trans (if_neg (by decide))
    generalize ww_u2 S 10 p (if (1 : Int32) = 0 then S 10 p else 0) = S1 at hlo hL1 f10
    refine ww_iload (i := 9) dL_law_1231 rfl ?_
    refine ww_iconst (v := (-1)) dL_law_1233 (by decide) ?_
    refine ww_icmp_ne_f (tgt := 1575) dL_law_1234 (by decide) c1 ?_
    refine ww_iload (i := 10) dL_law_1237 rfl ?_
    refine ww_if_ne_f (tgt := 1575) dL_law_1239 (by decide) c2 ?_
    refine ww_aload_n (i := 1) dL_law_1242 rfl rfl ?_
    refine ww_iload (i := 8) dL_law_1243 rfl ?_
    refine ww_iconst (v := 1) dL_law_1245 (by decide) ?_
    refine ww_callV (κ := 7) (r := (RX6, TX6, 4)) wk_L_98 dL_law_1246 (hlo) rfl rfl (show ww_is _ _ 7 from hx).1 (show ww_is _ _ 7 from hx).2 rfl rfl (by omega) (by omega) (by omega) (by first | exact Nat.le_of_ble_eq_true rfl | (simp [ww_rf_cat, Value.category])) rfl (fun E M9 h9 => h9.elim) (fun v9 M9 h9 => ?_)
    obtain ⟨rfl, h1⟩ := h9
    -- at 1249, locals [0, 1, 2, 3, 4, 5, 6, 8, 9, 10]
    have hx1 := x_is h1
    have o7 := x_of7 h1 hp
    rw [f10] at o7
    refine ww_pop dL_law_1249 (by first | rfl | exact ww_rf_cat _) ?_
    refine ww_iload_n (i := 2) dL_law_1250 rfl rfl ?_
    refine ww_if_eq_f (tgt := 1281) dL_law_1251 (by decide) (by decide) ?_
    refine ww_aload_n (i := 1) dL_law_1254 rfl rfl ?_
    refine ww_iload (i := 8) dL_law_1255 rfl ?_
    refine ww_bipush (v := 7) dL_law_1257 (by decide) ?_
    refine ww_callV (κ := 7) (r := (RX6, TX6, 4)) wk_L_22 dL_law_1259 (o7) rfl rfl (show ww_is _ _ 7 from hx1).1 (show ww_is _ _ 7 from hx1).2 rfl rfl (by omega) (by omega) (by omega) (by first | exact Nat.le_of_ble_eq_true rfl | (simp [ww_rf_cat, Value.category])) rfl (fun E M9 h9 => h9.elim) (fun v9 M9 h9 => ?_)
    obtain ⟨rfl, rfl⟩ := h9
    refine ww_if_eq_t (tgt := 1277) dL_law_1262 (by decide) rfl ?_
    refine ww_iconst (v := 1) dL_law_1277 (by decide) ?_
    refine ww_goto (tgt := 1282) dL_law_1278 (by decide) ?_
    refine ww_istore_n (i := 2) (lv2 := [(0, _), (1, _), (2, _), (3, _), (4, _), (5, _), (6, _), (8, _), (9, _), (10, _)]) dL_law_1282 rfl (Nat.le_of_ble_eq_true rfl) rfl ?_
    refine ww_goto (tgt := 1575) dL_law_1283 (by decide) ?_
    -- at 1575, locals [0, 1, 2, 3, 4, 5, 6, 8, 9, 10]
    exact ww_subk (ww_less (by omega) (by omega) (kk _ _ _ _ _ _ (by omega) h1 hL1)) ⟨rfl, rfl, rfl, rfl, rfl, rfl, rfl, rfl, trivial⟩
set_option maxRecDepth 20000 in
set_option maxHeartbeats 4000000 in
theorem law_b10 (h : ww_mx g c b 23 w m S M) (hL : q_LI S w m wa) (hb : b ≤ 500) (hp : p < 23) (hd : 24 ≤ d) (hkc : 20 ≤ kc) (hks : 8000 ≤ ks) (kk : ∀ (M' : ww_M) (S' : Nat → Nat → Int32) (b' w' m' : Nat) (wa' : Int32), b' ≤ b + 4 → ww_mx g c b' 23 w' m' S' M' → q_LI S' w' m' wa' → ww_A g wy_L_law d (kc - 20) (ks - 8000) M' 1575 [(0, .ref (ww_gb g)), (1, .ref (c 0)), (2, .int 1), (3, .int mo), (4, .int wa'), (5, .int ti), (6, .int v), (8, .int (nI p))] [] Q X) : ww_A g wy_L_law d kc ks M 1190 [(0, .ref (ww_gb g)), (1, .ref (c 0)), (2, .int 1), (3, .int mo), (4, .int wa), (5, .int ti), (6, .int v), (8, .int (nI p)), (9, .int (S 5 p)), (10, .int (S 12 (q_hd (S 5) 5 p)))] [] Q X := by
  have hx := x_is h
  have o6 := x_of6 h hp
  by_cases c1 : ¬ S 9 p = 1
  · refine ww_aload_n (i := 1) dL_law_1190 rfl rfl ?_
    refine ww_iload (i := 8) dL_law_1191 rfl ?_
    refine ww_bipush (v := 6) dL_law_1193 (by decide) ?_
    refine ww_callV (κ := 7) (r := (RX6, TX6, 4)) wk_L_22 dL_law_1195 (o6) rfl rfl (show ww_is _ _ 7 from hx).1 (show ww_is _ _ 7 from hx).2 rfl rfl (by omega) (by omega) (by omega) (by first | exact Nat.le_of_ble_eq_true rfl | (simp [ww_rf_cat, Value.category])) rfl (fun E M9 h9 => h9.elim) (fun v9 M9 h9 => ?_)
    obtain ⟨rfl, rfl⟩ := h9
    refine ww_iconst (v := 1) dL_law_1198 (by decide) ?_
    refine ww_icmp_ne_t (tgt := 1231) dL_law_1199 (by decide) c1 ?_
    -- at 1231, locals [0, 1, 2, 3, 4, 5, 6, 8, 9, 10]
    exact law_b10l (kc := kc) (ks := ks) h hL (by omega) hp hd (by omega) (by omega) (fun M' S' b' w' m' wa' hb' h' hL' => ww_less (by omega) (by omega) (kk M' S' b' w' m' wa' (by omega) h' hL'))
  have c1 : S 9 p = 1 := Classical.not_not.mp c1
  by_cases c2 : ¬ S 12 (q_hd (S 5) 5 p) = 0
  · refine ww_aload_n (i := 1) dL_law_1190 rfl rfl ?_
    refine ww_iload (i := 8) dL_law_1191 rfl ?_
    refine ww_bipush (v := 6) dL_law_1193 (by decide) ?_
    refine ww_callV (κ := 7) (r := (RX6, TX6, 4)) wk_L_22 dL_law_1195 (o6) rfl rfl (show ww_is _ _ 7 from hx).1 (show ww_is _ _ 7 from hx).2 rfl rfl (by omega) (by omega) (by omega) (by first | exact Nat.le_of_ble_eq_true rfl | (simp [ww_rf_cat, Value.category])) rfl (fun E M9 h9 => h9.elim) (fun v9 M9 h9 => ?_)
    obtain ⟨rfl, rfl⟩ := h9
    refine ww_iconst (v := 1) dL_law_1198 (by decide) ?_
    refine ww_icmp_ne_f (tgt := 1231) dL_law_1199 (by decide) c1 ?_
    refine ww_iload (i := 10) dL_law_1202 rfl ?_
    refine ww_if_ne_t (tgt := 1231) dL_law_1204 (by decide) c2 ?_
    -- at 1231, locals [0, 1, 2, 3, 4, 5, 6, 8, 9, 10]
    exact law_b10l (kc := kc) (ks := ks) h hL (by omega) hp hd (by omega) (by omega) (fun M' S' b' w' m' wa' hb' h' hL' => ww_less (by omega) (by omega) (kk M' S' b' w' m' wa' (by omega) h' hL'))
  have c2 : S 12 (q_hd (S 5) 5 p) = 0 := Classical.not_not.mp c2
  have hcl := x_clear h hp ⟨by rw [c1]; decide, q_b0 c2⟩
  have hL1 : q_LI (ww_u2 (ww_u2 S 18 p 0) 9 p 0) w m wa := q_LI_u2 (q_LI_u2 hL (by decide)) (by decide)
  have e5 : ww_u2 (ww_u2 S 18 p 0) 9 p 0 5 = S 5 := rfl
  have e12 : ww_u2 (ww_u2 S 18 p 0) 9 p 0 12 = S 12 := rfl
  have e9 : ww_u2 (ww_u2 S 18 p 0) 9 p 0 9 p = 0 := ww_u2s
  generalize ww_u2 (ww_u2 S 18 p 0) 9 p 0 = S1 at hcl hL1 e5 e12 e9
  refine ww_aload_n (i := 1) dL_law_1190 rfl rfl ?_
  refine ww_iload (i := 8) dL_law_1191 rfl ?_
  refine ww_bipush (v := 6) dL_law_1193 (by decide) ?_
  refine ww_callV (κ := 7) (r := (RX6, TX6, 4)) wk_L_22 dL_law_1195 (o6) rfl rfl (show ww_is _ _ 7 from hx).1 (show ww_is _ _ 7 from hx).2 rfl rfl (by omega) (by omega) (by omega) (by first | exact Nat.le_of_ble_eq_true rfl | (simp [ww_rf_cat, Value.category])) rfl (fun E M9 h9 => h9.elim) (fun v9 M9 h9 => ?_)
  obtain ⟨rfl, rfl⟩ := h9
  refine ww_iconst (v := 1) dL_law_1198 (by decide) ?_
  refine ww_icmp_ne_f (tgt := 1231) dL_law_1199 (by decide) c1 ?_
  refine ww_iload (i := 10) dL_law_1202 rfl ?_
  refine ww_if_ne_f (tgt := 1231) dL_law_1204 (by decide) c2 ?_
  refine ww_aload_n (i := 1) dL_law_1207 rfl rfl ?_
  refine ww_iload (i := 8) dL_law_1208 rfl ?_
  refine ww_callV (κ := 7) (r := (RX6, TX6, 4)) wk_L_105 dL_law_1210 (hcl) rfl rfl (show ww_is _ _ 7 from hx).1 (show ww_is _ _ 7 from hx).2 rfl rfl (by omega) (by omega) (by omega) (by first | exact Nat.le_of_ble_eq_true rfl | (simp [ww_rf_cat, Value.category])) rfl (fun E M9 h9 => h9.elim) (fun v9 M9 h9 => ?_)
  obtain ⟨rfl, h1⟩ := h9
  -- at 1213, locals [0, 1, 2, 3, 4, 5, 6, 8, 9, 10]
  have hx1 := x_is h1
  have p6 := x_of6 h1 hp
  rw [e9] at p6
  refine ww_pop dL_law_1213 (by first | rfl | exact ww_rf_cat _) ?_
  refine ww_aload_n (i := 1) dL_law_1214 rfl rfl ?_
  refine ww_iload (i := 8) dL_law_1215 rfl ?_
  refine ww_bipush (v := 6) dL_law_1217 (by decide) ?_
  refine ww_callV (κ := 7) (r := (RX6, TX6, 4)) wk_L_22 dL_law_1219 (p6) rfl rfl (show ww_is _ _ 7 from hx1).1 (show ww_is _ _ 7 from hx1).2 rfl rfl (by omega) (by omega) (by omega) (by first | exact Nat.le_of_ble_eq_true rfl | (simp [ww_rf_cat, Value.category])) rfl (fun E M9 h9 => h9.elim) (fun v9 M9 h9 => ?_)
  obtain ⟨rfl, rfl⟩ := h9
  refine ww_if_ne_f (tgt := 1229) dL_law_1222 (by decide) rfl ?_
  refine ww_iconst (v := 1) dL_law_1225 (by decide) ?_
  refine ww_goto (tgt := 1230) dL_law_1226 (by decide) ?_
  refine ww_istore_n (i := 2) (lv2 := [(0, _), (1, _), (2, _), (3, _), (4, _), (5, _), (6, _), (8, _), (9, _), (10, _)]) dL_law_1230 rfl (Nat.le_of_ble_eq_true rfl) rfl ?_
  -- at 1231, locals [0, 1, 2, 3, 4, 5, 6, 8, 9, 10]
  rw [← e5, ← e12]
  exact law_b10l h1 hL1 (by omega) hp hd (by omega) (by omega) (fun M' S' b' w' m' wa' hb' h' hL' => ww_less (by omega) (by omega) (kk M' S' b' w' m' wa' (by omega) h' hL'))
set_option maxRecDepth 20000 in
set_option maxHeartbeats 4000000 in
theorem law_b11w (h : ww_mx g c b 23 w m S M) (hL : q_LI S w m wa) (hb : b ≤ 500) (hp : p < 23) (hd : 24 ≤ d) (hkc : 20 ≤ kc) (hks : 8000 ≤ ks) (kk : ∀ (M' : ww_M) (S' : Nat → Nat → Int32) (b' w' m' : Nat) (wa' : Int32), b' ≤ b + 4 → ww_mx g c b' 23 w' m' S' M' → q_LI S' w' m' wa' → ww_A g wy_L_law d (kc - 20) (ks - 8000) M' 1575 [(0, .ref (ww_gb g)), (1, .ref (c 0)), (2, .int 1), (3, .int mo), (4, .int wa'), (5, .int ti), (6, .int v), (8, .int (nI p))] [] Q X) (ht : 7 ≤ t ∧ t < 15) : ww_A g wy_L_law d kc ks M 1388 [(0, .ref (ww_gb g)), (1, .ref (c 0)), (2, .int 1), (3, .int mo), (4, .int wa), (5, .int ti), (6, .int v), (8, .int (nI p)), (9, .int (S 5 p)), (10, .int (S 12 (q_hd (S 5) 5 p))), (11, .int (nI t)), (12, .int (S 7 t))] [] Q X := by
  have hx := x_is h
  have o5 := x_of5 h (p := t) (by omega)
  by_cases c1 : ¬ S 8 t = 0
  · refine ww_aload_n (i := 1) dL_law_1388 rfl rfl ?_
    refine ww_iload (i := 11) dL_law_1389 rfl ?_
    refine ww_iconst (v := 5) dL_law_1391 (by decide) ?_
    refine ww_callV (κ := 7) (r := (RX6, TX6, 4)) wk_L_22 dL_law_1392 (o5) rfl rfl (show ww_is _ _ 7 from hx).1 (show ww_is _ _ 7 from hx).2 rfl rfl (by omega) (by omega) (by omega) (by first | exact Nat.le_of_ble_eq_true rfl | (simp [ww_rf_cat, Value.category])) rfl (fun E M9 h9 => h9.elim) (fun v9 M9 h9 => ?_)
    obtain ⟨rfl, rfl⟩ := h9
    refine ww_if_ne_t (tgt := 1446) dL_law_1395 (by decide) c1 ?_
    refine ww_goto (tgt := 1575) dL_law_1446 (by decide) ?_
    -- at 1575, locals [0, 1, 2, 3, 4, 5, 6, 8, 9, 10, 11, 12]
    exact ww_subk (ww_less (by omega) (by omega) (kk _ _ _ _ _ _ (by omega) h hL)) ⟨rfl, rfl, rfl, rfl, rfl, rfl, rfl, rfl, trivial⟩
  have c1 : S 8 t = 0 := Classical.not_not.mp c1
  have ek : q_kd S t = 3 := by
    unfold q_kd
    rw [q_S23 hL ht.1 ht.2]
    rfl
  have hlo := l_low (g := g) (M := M) (v := v >>> (9 &&& 31)) (k := 999) (by decide) (by decide)
  have hlo_ := q_lw_lt (v := v >>> (9 &&& 31)) (k := 999) (by decide)
  generalize hjj : q_lw (v >>> (9 &&& 31)) 999 = j at hlo hlo_
  have er : (1 : Int32) + nI j = nI (1 + j) := nI_add 1 j
  have hv : q_rg 1 999 (1 + nI j) := by
    rw [er]
    exact q_rgN (lo := 1) (hi := 999) (by omega) (by omega) (by decide)
  have hwv := x_waive h (p := t) (by omega) hv ⟨by rw [ek, hL.2.2.1.1]; decide, by rw [c1]; decide⟩
  have hL1 : q_LI (ww_u2 S 8 t (1 + nI j)) w m wa := q_LI_u2 hL (by decide)
  have e8 : ww_u2 S 8 t (1 + nI j) 8 t = 1 + nI j := ww_u2s
  generalize ww_u2 S 8 t (1 + nI j) = S1 at hwv hL1 e8
  refine ww_aload_n (i := 1) dL_law_1388 rfl rfl ?_
  refine ww_iload (i := 11) dL_law_1389 rfl ?_
  refine ww_iconst (v := 5) dL_law_1391 (by decide) ?_
  refine ww_callV (κ := 7) (r := (RX6, TX6, 4)) wk_L_22 dL_law_1392 (o5) rfl rfl (show ww_is _ _ 7 from hx).1 (show ww_is _ _ 7 from hx).2 rfl rfl (by omega) (by omega) (by omega) (by first | exact Nat.le_of_ble_eq_true rfl | (simp [ww_rf_cat, Value.category])) rfl (fun E M9 h9 => h9.elim) (fun v9 M9 h9 => ?_)
  obtain ⟨rfl, rfl⟩ := h9
  refine ww_if_ne_f (tgt := 1446) dL_law_1395 (by decide) c1 ?_
  refine ww_aload_n (i := 1) dL_law_1398 rfl rfl ?_
  refine ww_iload (i := 11) dL_law_1399 rfl ?_
  refine ww_iconst (v := 1) dL_law_1401 (by decide) ?_
  refine ww_iload (i := 6) dL_law_1402 rfl ?_
  refine ww_bipush (v := 9) dL_law_1404 (by decide) ?_
  refine ww_ishr dL_law_1406 ?_
  refine ww_sipush (v := 999) dL_law_1407 (by decide) ?_
  refine ww_callS wk_L_43 rfl dL_law_1410 (hlo) rfl rfl (by omega) (by omega) (by omega) (by first | exact Nat.le_of_ble_eq_true rfl | (simp [ww_rf_cat, Value.category])) rfl (fun E M9 h9 => h9.elim) (fun v9 M9 h9 => ?_)
  obtain ⟨rfl, rfl⟩ := h9
  refine ww_iadd dL_law_1413 ?_
  refine ww_callV (κ := 7) (r := (RX6, TX6, 4)) wk_L_111 dL_law_1414 (hwv) rfl rfl (show ww_is _ _ 7 from hx).1 (show ww_is _ _ 7 from hx).2 rfl rfl (by omega) (by omega) (by omega) (by first | exact Nat.le_of_ble_eq_true rfl | (simp [ww_rf_cat, Value.category])) rfl (fun E M9 h9 => h9.elim) (fun v9 M9 h9 => ?_)
  obtain ⟨rfl, h1⟩ := h9
  -- at 1417, locals [0, 1, 2, 3, 4, 5, 6, 8, 9, 10, 11, 12]
  have hx1 := x_is h1
  have p5 := x_of5 h1 (p := t) (by omega)
  rw [e8] at p5
  have hlo1 : ww_C g wy_L_low 1 0 0 [.int (v >>> (9 &&& 31)), .int (nI 999)] M9 (ww_ret (some (.int (nI j))) M9) ww_no := by
    rw [← hjj]
    exact l_low (by decide) (by decide)
  refine ww_aload_n (i := 1) dL_law_1417 rfl rfl ?_
  refine ww_iload (i := 11) dL_law_1418 rfl ?_
  refine ww_iconst (v := 5) dL_law_1420 (by decide) ?_
  refine ww_callV (κ := 7) (r := (RX6, TX6, 4)) wk_L_22 dL_law_1421 (p5) rfl rfl (show ww_is _ _ 7 from hx1).1 (show ww_is _ _ 7 from hx1).2 rfl rfl (by omega) (by omega) (by omega) (by first | exact Nat.le_of_ble_eq_true rfl | (simp [ww_rf_cat, Value.category])) rfl (fun E M9 h9 => h9.elim) (fun v9 M9 h9 => ?_)
  obtain ⟨rfl, rfl⟩ := h9
  refine ww_iconst (v := 1) dL_law_1424 (by decide) ?_
  refine ww_iload (i := 6) dL_law_1425 rfl ?_
  refine ww_bipush (v := 9) dL_law_1427 (by decide) ?_
  refine ww_ishr dL_law_1429 ?_
  refine ww_sipush (v := 999) dL_law_1430 (by decide) ?_
  refine ww_callS wk_L_43 rfl dL_law_1433 (hlo1) rfl rfl (by omega) (by omega) (by omega) (by first | exact Nat.le_of_ble_eq_true rfl | (simp [ww_rf_cat, Value.category])) rfl (fun E M9 h9 => h9.elim) (fun v9 M9 h9 => ?_)
  obtain ⟨rfl, rfl⟩ := h9
  refine ww_iadd dL_law_1436 ?_
  refine ww_icmp_ne_f (tgt := 1444) dL_law_1437 (by decide) rfl ?_
  refine ww_iconst (v := 1) dL_law_1440 (by decide) ?_
  refine ww_goto (tgt := 1445) dL_law_1441 (by decide) ?_
  refine ww_istore_n (i := 2) (lv2 := [(0, _), (1, _), (2, _), (3, _), (4, _), (5, _), (6, _), (8, _), (9, _), (10, _), (11, _), (12, _)]) dL_law_1445 rfl (Nat.le_of_ble_eq_true rfl) rfl ?_
  refine ww_goto (tgt := 1575) dL_law_1446 (by decide) ?_
  -- at 1575, locals [0, 1, 2, 3, 4, 5, 6, 8, 9, 10, 11, 12]
  exact ww_subk (ww_less (by omega) (by omega) (kk _ _ _ _ _ _ (by omega) h1 hL1)) ⟨rfl, rfl, rfl, rfl, rfl, rfl, rfl, rfl, trivial⟩
set_option maxRecDepth 20000 in
set_option maxHeartbeats 4000000 in
theorem law_b11 (h : ww_mx g c b 23 w m S M) (hL : q_LI S w m wa) (hb : b ≤ 500) (hp : p < 23) (hd : 24 ≤ d) (hkc : 20 ≤ kc) (hks : 8000 ≤ ks) (kk : ∀ (M' : ww_M) (S' : Nat → Nat → Int32) (b' w' m' : Nat) (wa' : Int32), b' ≤ b + 4 → ww_mx g c b' 23 w' m' S' M' → q_LI S' w' m' wa' → ww_A g wy_L_law d (kc - 20) (ks - 8000) M' 1575 [(0, .ref (ww_gb g)), (1, .ref (c 0)), (2, .int 1), (3, .int mo), (4, .int wa'), (5, .int ti), (6, .int v), (8, .int (nI p))] [] Q X) : ww_A g wy_L_law d kc ks M 1293 [(0, .ref (ww_gb g)), (1, .ref (c 0)), (2, .int 1), (3, .int mo), (4, .int wa), (5, .int ti), (6, .int v), (8, .int (nI p)), (9, .int (S 5 p)), (10, .int (S 12 (q_hd (S 5) 5 p)))] [] Q X := by
  have hx := x_is h
  have hlo := l_low (g := g) (M := M) (v := v >>> (4 &&& 31)) (k := 8) (by decide) (by decide)
  have hlo_ := q_lw_lt (v := v >>> (4 &&& 31)) (k := 8) (by decide)
  generalize q_lw (v >>> (4 &&& 31)) 8 = j at hlo hlo_
  refine ww_bipush (v := 7) dL_law_1293 (by decide) ?_
  refine ww_iload (i := 6) dL_law_1295 rfl ?_
  refine ww_iconst (v := 4) dL_law_1297 (by decide) ?_
  refine ww_ishr dL_law_1298 ?_
  refine ww_bipush (v := 8) dL_law_1299 (by decide) ?_
  refine ww_callS wk_L_43 rfl dL_law_1301 (hlo) rfl rfl (by omega) (by omega) (by omega) (by first | exact Nat.le_of_ble_eq_true rfl | (simp [ww_rf_cat, Value.category])) rfl (fun E M9 h9 => h9.elim) (fun v9 M9 h9 => ?_)
  obtain ⟨rfl, rfl⟩ := h9
  refine ww_iadd dL_law_1304 ?_
  -- at 1305, locals [0, 1, 2, 3, 4, 5, 6, 8, 9, 10]
  refine ww_top (nI (7 + j)) (nI_add 7 j) ?_
  have ht : 7 ≤ 7 + j ∧ 7 + j < 15 := by omega
  generalize 7 + j = t at ht ⊢
  have o4 := x_of4 h (p := t) (by omega)
  have hhd := x_head h (p := t) (by omega)
  have hlt := q_hd_lt (x_G h).2.2.1 (by decide) 5 t (by omega)
  have hst := l_stands h hlt
  have hho := x_host h (p := t) (by omega)
  by_cases c1 : S 7 t < 1100
  · refine ww_istore (i := 11) (lv2 := [(0, _), (1, _), (2, _), (3, _), (4, _), (5, _), (6, _), (8, _), (9, _), (10, _), (11, _)]) dL_law_1305 (Nat.le_of_ble_eq_true rfl) rfl ?_
    refine ww_aload_n (i := 1) dL_law_1307 rfl rfl ?_
    refine ww_iload (i := 11) dL_law_1308 rfl ?_
    refine ww_iconst (v := 4) dL_law_1310 (by decide) ?_
    refine ww_callV (κ := 7) (r := (RX6, TX6, 4)) wk_L_22 dL_law_1311 (o4) rfl rfl (show ww_is _ _ 7 from hx).1 (show ww_is _ _ 7 from hx).2 rfl rfl (by omega) (by omega) (by omega) (by first | exact Nat.le_of_ble_eq_true rfl | (simp [ww_rf_cat, Value.category])) rfl (fun E M9 h9 => h9.elim) (fun v9 M9 h9 => ?_)
    obtain ⟨rfl, rfl⟩ := h9
    refine ww_istore (i := 12) (lv2 := [(0, _), (1, _), (2, _), (3, _), (4, _), (5, _), (6, _), (8, _), (9, _), (10, _), (11, _), (12, _)]) dL_law_1314 (Nat.le_of_ble_eq_true rfl) rfl ?_
    refine ww_iload (i := 12) dL_law_1316 rfl ?_
    refine ww_sipush (v := 1100) dL_law_1318 (by decide) ?_
    refine ww_icmp_lt_t (tgt := 1388) dL_law_1321 (by decide) c1 ?_
    -- at 1388, locals [0, 1, 2, 3, 4, 5, 6, 8, 9, 10, 11, 12]
    exact law_b11w h hL hb hp hd hkc hks kk ht
  by_cases c2 : ¬ S 12 (q_hd (S 5) 5 t) = 0
  · refine ww_istore (i := 11) (lv2 := [(0, _), (1, _), (2, _), (3, _), (4, _), (5, _), (6, _), (8, _), (9, _), (10, _), (11, _)]) dL_law_1305 (Nat.le_of_ble_eq_true rfl) rfl ?_
    refine ww_aload_n (i := 1) dL_law_1307 rfl rfl ?_
    refine ww_iload (i := 11) dL_law_1308 rfl ?_
    refine ww_iconst (v := 4) dL_law_1310 (by decide) ?_
    refine ww_callV (κ := 7) (r := (RX6, TX6, 4)) wk_L_22 dL_law_1311 (o4) rfl rfl (show ww_is _ _ 7 from hx).1 (show ww_is _ _ 7 from hx).2 rfl rfl (by omega) (by omega) (by omega) (by first | exact Nat.le_of_ble_eq_true rfl | (simp [ww_rf_cat, Value.category])) rfl (fun E M9 h9 => h9.elim) (fun v9 M9 h9 => ?_)
    obtain ⟨rfl, rfl⟩ := h9
    refine ww_istore (i := 12) (lv2 := [(0, _), (1, _), (2, _), (3, _), (4, _), (5, _), (6, _), (8, _), (9, _), (10, _), (11, _), (12, _)]) dL_law_1314 (Nat.le_of_ble_eq_true rfl) rfl ?_
    refine ww_iload (i := 12) dL_law_1316 rfl ?_
    refine ww_sipush (v := 1100) dL_law_1318 (by decide) ?_
    refine ww_icmp_lt_f (tgt := 1388) dL_law_1321 (by decide) c1 ?_
    refine ww_aload_n (i := 1) dL_law_1324 rfl rfl ?_
    refine ww_aload_n (i := 1) dL_law_1325 rfl rfl ?_
    refine ww_iload (i := 11) dL_law_1326 rfl ?_
    refine ww_callV (κ := 7) (r := (RX6, TX6, 4)) wk_L_46 dL_law_1328 (hhd) rfl rfl (show ww_is _ _ 7 from hx).1 (show ww_is _ _ 7 from hx).2 rfl rfl (by omega) (by omega) (by omega) (by first | exact Nat.le_of_ble_eq_true rfl | (simp [ww_rf_cat, Value.category])) rfl (fun E M9 h9 => h9.elim) (fun v9 M9 h9 => ?_)
    obtain ⟨rfl, rfl⟩ := h9
    refine ww_callS wk_L_49 rfl dL_law_1331 (hst) rfl rfl (by omega) (by omega) (by omega) (by first | exact Nat.le_of_ble_eq_true rfl | (simp [ww_rf_cat, Value.category])) rfl (fun E M9 h9 => h9.elim) (fun v9 M9 h9 => ?_)
    obtain ⟨rfl, rfl⟩ := h9
    refine ww_if_ne_t (tgt := 1388) dL_law_1334 (by decide) c2 ?_
    -- at 1388, locals [0, 1, 2, 3, 4, 5, 6, 8, 9, 10, 11, 12]
    exact law_b11w h hL hb hp hd hkc hks kk ht
  have c2 : S 12 (q_hd (S 5) 5 t) = 0 := Classical.not_not.mp c2
  by_cases c3 : S 5 t = -2
  · refine ww_istore (i := 11) (lv2 := [(0, _), (1, _), (2, _), (3, _), (4, _), (5, _), (6, _), (8, _), (9, _), (10, _), (11, _)]) dL_law_1305 (Nat.le_of_ble_eq_true rfl) rfl ?_
    refine ww_aload_n (i := 1) dL_law_1307 rfl rfl ?_
    refine ww_iload (i := 11) dL_law_1308 rfl ?_
    refine ww_iconst (v := 4) dL_law_1310 (by decide) ?_
    refine ww_callV (κ := 7) (r := (RX6, TX6, 4)) wk_L_22 dL_law_1311 (o4) rfl rfl (show ww_is _ _ 7 from hx).1 (show ww_is _ _ 7 from hx).2 rfl rfl (by omega) (by omega) (by omega) (by first | exact Nat.le_of_ble_eq_true rfl | (simp [ww_rf_cat, Value.category])) rfl (fun E M9 h9 => h9.elim) (fun v9 M9 h9 => ?_)
    obtain ⟨rfl, rfl⟩ := h9
    refine ww_istore (i := 12) (lv2 := [(0, _), (1, _), (2, _), (3, _), (4, _), (5, _), (6, _), (8, _), (9, _), (10, _), (11, _), (12, _)]) dL_law_1314 (Nat.le_of_ble_eq_true rfl) rfl ?_
    refine ww_iload (i := 12) dL_law_1316 rfl ?_
    refine ww_sipush (v := 1100) dL_law_1318 (by decide) ?_
    refine ww_icmp_lt_f (tgt := 1388) dL_law_1321 (by decide) c1 ?_
    refine ww_aload_n (i := 1) dL_law_1324 rfl rfl ?_
    refine ww_aload_n (i := 1) dL_law_1325 rfl rfl ?_
    refine ww_iload (i := 11) dL_law_1326 rfl ?_
    refine ww_callV (κ := 7) (r := (RX6, TX6, 4)) wk_L_46 dL_law_1328 (hhd) rfl rfl (show ww_is _ _ 7 from hx).1 (show ww_is _ _ 7 from hx).2 rfl rfl (by omega) (by omega) (by omega) (by first | exact Nat.le_of_ble_eq_true rfl | (simp [ww_rf_cat, Value.category])) rfl (fun E M9 h9 => h9.elim) (fun v9 M9 h9 => ?_)
    obtain ⟨rfl, rfl⟩ := h9
    refine ww_callS wk_L_49 rfl dL_law_1331 (hst) rfl rfl (by omega) (by omega) (by omega) (by first | exact Nat.le_of_ble_eq_true rfl | (simp [ww_rf_cat, Value.category])) rfl (fun E M9 h9 => h9.elim) (fun v9 M9 h9 => ?_)
    obtain ⟨rfl, rfl⟩ := h9
    refine ww_if_ne_f (tgt := 1388) dL_law_1334 (by decide) c2 ?_
    refine ww_aload_n (i := 1) dL_law_1337 rfl rfl ?_
    refine ww_iload (i := 11) dL_law_1338 rfl ?_
    refine ww_callV (κ := 7) (r := (RX6, TX6, 4)) wk_L_18 dL_law_1340 (hho) rfl rfl (show ww_is _ _ 7 from hx).1 (show ww_is _ _ 7 from hx).2 rfl rfl (by omega) (by omega) (by omega) (by first | exact Nat.le_of_ble_eq_true rfl | (simp [ww_rf_cat, Value.category])) rfl (fun E M9 h9 => h9.elim) (fun v9 M9 h9 => ?_)
    obtain ⟨rfl, rfl⟩ := h9
    refine ww_bipush (v := (-2)) dL_law_1343 (by decide) ?_
    refine ww_icmp_eq_t (tgt := 1388) dL_law_1345 (by decide) c3 ?_
    -- at 1388, locals [0, 1, 2, 3, 4, 5, 6, 8, 9, 10, 11, 12]
    exact law_b11w h hL hb hp hd hkc hks kk ht
  have ek : q_kd S t = 3 := by
    unfold q_kd
    rw [q_S23 hL ht.1 ht.2]
    rfl
  have hex := x_examine h (p := t) (by omega) ⟨by rw [ek, hL.2.2.1.1]; decide, by rw [ek, hL.2.2.1.1, hL.2.2.1.2]; exact c1, c3, q_b0 c2⟩
  have hL1 : q_LI (ww_u2 (ww_u2 S 7 t 0) 8 t 0) w m wa := q_LI_u2 (q_LI_u2 hL (by decide)) (by decide)
  have e7 : ww_u2 (ww_u2 S 7 t 0) 8 t 0 7 t = 0 := (ww_u2n (fun y => absurd y.1 (by decide))).trans ww_u2s
  have e8 : ww_u2 (ww_u2 S 7 t 0) 8 t 0 8 t = 0 := ww_u2s
  generalize ww_u2 (ww_u2 S 7 t 0) 8 t 0 = S1 at hex hL1 e7 e8
  refine ww_istore (i := 11) (lv2 := [(0, _), (1, _), (2, _), (3, _), (4, _), (5, _), (6, _), (8, _), (9, _), (10, _), (11, _)]) dL_law_1305 (Nat.le_of_ble_eq_true rfl) rfl ?_
  refine ww_aload_n (i := 1) dL_law_1307 rfl rfl ?_
  refine ww_iload (i := 11) dL_law_1308 rfl ?_
  refine ww_iconst (v := 4) dL_law_1310 (by decide) ?_
  refine ww_callV (κ := 7) (r := (RX6, TX6, 4)) wk_L_22 dL_law_1311 (o4) rfl rfl (show ww_is _ _ 7 from hx).1 (show ww_is _ _ 7 from hx).2 rfl rfl (by omega) (by omega) (by omega) (by first | exact Nat.le_of_ble_eq_true rfl | (simp [ww_rf_cat, Value.category])) rfl (fun E M9 h9 => h9.elim) (fun v9 M9 h9 => ?_)
  obtain ⟨rfl, rfl⟩ := h9
  refine ww_istore (i := 12) (lv2 := [(0, _), (1, _), (2, _), (3, _), (4, _), (5, _), (6, _), (8, _), (9, _), (10, _), (11, _), (12, _)]) dL_law_1314 (Nat.le_of_ble_eq_true rfl) rfl ?_
  refine ww_iload (i := 12) dL_law_1316 rfl ?_
  refine ww_sipush (v := 1100) dL_law_1318 (by decide) ?_
  refine ww_icmp_lt_f (tgt := 1388) dL_law_1321 (by decide) c1 ?_
  refine ww_aload_n (i := 1) dL_law_1324 rfl rfl ?_
  refine ww_aload_n (i := 1) dL_law_1325 rfl rfl ?_
  refine ww_iload (i := 11) dL_law_1326 rfl ?_
  refine ww_callV (κ := 7) (r := (RX6, TX6, 4)) wk_L_46 dL_law_1328 (hhd) rfl rfl (show ww_is _ _ 7 from hx).1 (show ww_is _ _ 7 from hx).2 rfl rfl (by omega) (by omega) (by omega) (by first | exact Nat.le_of_ble_eq_true rfl | (simp [ww_rf_cat, Value.category])) rfl (fun E M9 h9 => h9.elim) (fun v9 M9 h9 => ?_)
  obtain ⟨rfl, rfl⟩ := h9
  refine ww_callS wk_L_49 rfl dL_law_1331 (hst) rfl rfl (by omega) (by omega) (by omega) (by first | exact Nat.le_of_ble_eq_true rfl | (simp [ww_rf_cat, Value.category])) rfl (fun E M9 h9 => h9.elim) (fun v9 M9 h9 => ?_)
  obtain ⟨rfl, rfl⟩ := h9
  refine ww_if_ne_f (tgt := 1388) dL_law_1334 (by decide) c2 ?_
  refine ww_aload_n (i := 1) dL_law_1337 rfl rfl ?_
  refine ww_iload (i := 11) dL_law_1338 rfl ?_
  refine ww_callV (κ := 7) (r := (RX6, TX6, 4)) wk_L_18 dL_law_1340 (hho) rfl rfl (show ww_is _ _ 7 from hx).1 (show ww_is _ _ 7 from hx).2 rfl rfl (by omega) (by omega) (by omega) (by first | exact Nat.le_of_ble_eq_true rfl | (simp [ww_rf_cat, Value.category])) rfl (fun E M9 h9 => h9.elim) (fun v9 M9 h9 => ?_)
  obtain ⟨rfl, rfl⟩ := h9
  refine ww_bipush (v := (-2)) dL_law_1343 (by decide) ?_
  refine ww_icmp_eq_f (tgt := 1388) dL_law_1345 (by decide) c3 ?_
  refine ww_aload_n (i := 1) dL_law_1348 rfl rfl ?_
  refine ww_iload (i := 11) dL_law_1349 rfl ?_
  refine ww_callV (κ := 7) (r := (RX6, TX6, 4)) wk_L_108 dL_law_1351 (hex) rfl rfl (show ww_is _ _ 7 from hx).1 (show ww_is _ _ 7 from hx).2 rfl rfl (by omega) (by omega) (by omega) (by first | exact Nat.le_of_ble_eq_true rfl | (simp [ww_rf_cat, Value.category])) rfl (fun E M9 h9 => h9.elim) (fun v9 M9 h9 => ?_)
  obtain ⟨rfl, h1⟩ := h9
  -- at 1354, locals [0, 1, 2, 3, 4, 5, 6, 8, 9, 10, 11, 12]
  have hx1 := x_is h1
  have p4 := x_of4 h1 (p := t) (by omega)
  have p5 := x_of5 h1 (p := t) (by omega)
  rw [e7] at p4
  rw [e8] at p5
  refine ww_iload (i := 12) dL_law_1354 rfl ?_
  refine ww_icmp_ne_f (tgt := 1383) dL_law_1356 (by decide) rfl ?_
  refine ww_aload_n (i := 1) dL_law_1359 rfl rfl ?_
  refine ww_iload (i := 11) dL_law_1360 rfl ?_
  refine ww_iconst (v := 4) dL_law_1362 (by decide) ?_
  refine ww_callV (κ := 7) (r := (RX6, TX6, 4)) wk_L_22 dL_law_1363 (p4) rfl rfl (show ww_is _ _ 7 from hx1).1 (show ww_is _ _ 7 from hx1).2 rfl rfl (by omega) (by omega) (by omega) (by first | exact Nat.le_of_ble_eq_true rfl | (simp [ww_rf_cat, Value.category])) rfl (fun E M9 h9 => h9.elim) (fun v9 M9 h9 => ?_)
  obtain ⟨rfl, rfl⟩ := h9
  refine ww_if_ne_f (tgt := 1383) dL_law_1366 (by decide) rfl ?_
  refine ww_aload_n (i := 1) dL_law_1369 rfl rfl ?_
  refine ww_iload (i := 11) dL_law_1370 rfl ?_
  refine ww_iconst (v := 5) dL_law_1372 (by decide) ?_
  refine ww_callV (κ := 7) (r := (RX6, TX6, 4)) wk_L_22 dL_law_1373 (p5) rfl rfl (show ww_is _ _ 7 from hx1).1 (show ww_is _ _ 7 from hx1).2 rfl rfl (by omega) (by omega) (by omega) (by first | exact Nat.le_of_ble_eq_true rfl | (simp [ww_rf_cat, Value.category])) rfl (fun E M9 h9 => h9.elim) (fun v9 M9 h9 => ?_)
  obtain ⟨rfl, rfl⟩ := h9
  refine ww_if_ne_f (tgt := 1383) dL_law_1376 (by decide) rfl ?_
  refine ww_iconst (v := 1) dL_law_1379 (by decide) ?_
  refine ww_goto (tgt := 1384) dL_law_1380 (by decide) ?_
  refine ww_istore_n (i := 2) (lv2 := [(0, _), (1, _), (2, _), (3, _), (4, _), (5, _), (6, _), (8, _), (9, _), (10, _), (11, _), (12, _)]) dL_law_1384 rfl (Nat.le_of_ble_eq_true rfl) rfl ?_
  refine ww_goto (tgt := 1446) dL_law_1385 (by decide) ?_
  refine ww_goto (tgt := 1575) dL_law_1446 (by decide) ?_
  -- at 1575, locals [0, 1, 2, 3, 4, 5, 6, 8, 9, 10, 11, 12]
  exact ww_subk (ww_less (by omega) (by omega) (kk _ _ _ _ _ _ (by omega) h1 hL1)) ⟨rfl, rfl, rfl, rfl, rfl, rfl, rfl, rfl, trivial⟩
set_option maxRecDepth 20000 in
set_option maxHeartbeats 4000000 in
theorem law_b12o (h : ww_mx g c b 23 w m S M) (hL : q_LI S w m wa) (hb : b ≤ 500) (hp : p < 23) (hd : 24 ≤ d) (hkc : 20 ≤ kc) (hks : 8000 ≤ ks) (kk : ∀ (M' : ww_M) (S' : Nat → Nat → Int32) (b' w' m' : Nat) (wa' : Int32), b' ≤ b + 4 → ww_mx g c b' 23 w' m' S' M' → q_LI S' w' m' wa' → ww_A g wy_L_law d (kc - 20) (ks - 8000) M' 1575 [(0, .ref (ww_gb g)), (1, .ref (c 0)), (2, .int 1), (3, .int mo), (4, .int wa'), (5, .int ti), (6, .int v), (8, .int (nI p))] [] Q X) (hm : 0 < m) : ww_A g wy_L_law d kc ks M 1484 [(0, .ref (ww_gb g)), (1, .ref (c 0)), (2, .int 1), (3, .int mo), (4, .int wa), (5, .int ti), (6, .int v), (8, .int (nI p)), (9, .int (S 5 p)), (10, .int (S 12 (q_hd (S 5) 5 p))), (11, .int (nI t))] [.int 1] Q X := by
  have hx := x_is h
  obtain ⟨rfl, rfl⟩ := q_LI_any hL hm
  have hou := x_out h hm
  refine ww_istore (i := 12) (lv2 := [(0, _), (1, _), (2, _), (3, _), (4, _), (5, _), (6, _), (8, _), (9, _), (10, _), (11, _), (12, _)]) dL_law_1484 (Nat.le_of_ble_eq_true rfl) rfl ?_
  refine ww_iload (i := 12) dL_law_1486 rfl ?_
  refine ww_if_eq_f (tgt := 1507) dL_law_1488 (by decide) (by decide) ?_
  refine ww_aload_n (i := 1) dL_law_1491 rfl rfl ?_
  refine ww_callV (κ := 7) (r := (RX6, TX6, 4)) wk_L_115 dL_law_1492 (hou) rfl rfl (show ww_is _ _ 7 from hx).1 (show ww_is _ _ 7 from hx).2 rfl rfl (by omega) (by omega) (by omega) (by first | exact Nat.le_of_ble_eq_true rfl | (simp [ww_rf_cat, Value.category])) rfl (fun E M9 h9 => h9.elim) (fun v9 M9 h9 => ?_)
  obtain ⟨j, q, S1, hj8, rfl, us, h1⟩ := h9
  -- at 1495, locals [0, 1, 2, 3, 4, 5, 6, 8, 9, 10, 11, 12]
  have hL1 := q_LI_out hL us
  refine ww_if_lt_f (tgt := 1502) dL_law_1495 (by decide) (nI_pos (by omega)) ?_
  refine ww_iconst (v := 1) dL_law_1498 (by decide) ?_
  refine ww_goto (tgt := 1503) dL_law_1499 (by decide) ?_
  refine ww_istore_n (i := 2) (lv2 := [(0, _), (1, _), (2, _), (3, _), (4, _), (5, _), (6, _), (8, _), (9, _), (10, _), (11, _), (12, _)]) dL_law_1503 rfl (Nat.le_of_ble_eq_true rfl) rfl ?_
  refine ww_goto (tgt := 1575) dL_law_1504 (by decide) ?_
  -- at 1575, locals [0, 1, 2, 3, 4, 5, 6, 8, 9, 10, 11, 12]
  exact ww_subk (ww_less (by omega) (by omega) (kk _ _ _ _ _ _ (by omega) h1 hL1)) ⟨rfl, rfl, rfl, rfl, rfl, rfl, rfl, rfl, trivial⟩
set_option maxRecDepth 20000 in
set_option maxHeartbeats 4000000 in
theorem law_b12i (h : ww_mx g c b 23 w m S M) (hL : q_LI S w m wa) (hb : b ≤ 500) (hp : p < 23) (hd : 24 ≤ d) (hkc : 20 ≤ kc) (hks : 8000 ≤ ks) (kk : ∀ (M' : ww_M) (S' : Nat → Nat → Int32) (b' w' m' : Nat) (wa' : Int32), b' ≤ b + 4 → ww_mx g c b' 23 w' m' S' M' → q_LI S' w' m' wa' → ww_A g wy_L_law d (kc - 20) (ks - 8000) M' 1575 [(0, .ref (ww_gb g)), (1, .ref (c 0)), (2, .int 1), (3, .int mo), (4, .int wa'), (5, .int ti), (6, .int v), (8, .int (nI p))] [] Q X) (ht : t = 0 ∨ t = 19) (hm : m = 0) (h12 : S 12 t = 0) : ww_A g wy_L_law d kc ks M 1484 [(0, .ref (ww_gb g)), (1, .ref (c 0)), (2, .int 1), (3, .int mo), (4, .int wa), (5, .int ti), (6, .int v), (8, .int (nI p)), (9, .int (S 5 p)), (10, .int (S 12 (q_hd (S 5) 5 p))), (11, .int (nI t))] [.int 0] Q X := by
  have hx := x_is h
  subst hm
  by_cases c1 : wa = 0
  · subst c1
    have hw0 := q_LI_w0 hL
    subst hw0
    have hk : S 2 t = 0 := by rcases ht with rfl | rfl <;> exact (hL.1 _ (by decide)).trans (by decide)
    have h5 : S 5 t = -1 := by
      rcases ht with rfl | rfl
      · exact hL.2.1.1
      · exact hL.2.1.2
    have ht23 : t < 23 := by omega
    have hlo := l_low (g := g) (M := M) (v := v >>> (5 &&& 31)) (k := 50) (by decide) (by decide)
    have hlo_ := q_lw_lt (v := v >>> (5 &&& 31)) (k := 50) (by decide)
    generalize q_lw (v >>> (5 &&& 31)) 50 = j at hlo hlo_
    have hv : q_rg 0 99 (nI j) := q_rgN (lo := 0) (hi := 99) (by omega) (by omega) (by decide)
    have hco := x_comes h ht23 hk hv ⟨⟨by decide, fun ⟨k, hk, _⟩ => by omega, h12, by rw [h5]; decide⟩, fun k hk => by omega⟩
    have hL1 := q_LI_comes (v := nI j) hL ht
    generalize q_comes (q_us S 0 0) 0 t (nI j) = S1 at hco hL1
    refine ww_istore (i := 12) (lv2 := [(0, _), (1, _), (2, _), (3, _), (4, _), (5, _), (6, _), (8, _), (9, _), (10, _), (11, _), (12, _)]) dL_law_1484 (Nat.le_of_ble_eq_true rfl) rfl ?_
    refine ww_iload (i := 12) dL_law_1486 rfl ?_
    refine ww_if_eq_t (tgt := 1507) dL_law_1488 (by decide) (by decide) ?_
    refine ww_iload (i := 4) dL_law_1507 rfl ?_
    refine ww_if_ne_f (tgt := 1543) dL_law_1509 (by decide) rfl ?_
    refine ww_aload_n (i := 1) dL_law_1512 rfl rfl ?_
    refine ww_iload (i := 11) dL_law_1513 rfl ?_
    refine ww_iload (i := 6) dL_law_1515 rfl ?_
    refine ww_iconst (v := 5) dL_law_1517 (by decide) ?_
    refine ww_ishr dL_law_1518 ?_
    refine ww_bipush (v := 50) dL_law_1519 (by decide) ?_
    refine ww_callS wk_L_43 rfl dL_law_1521 (hlo) rfl rfl (by omega) (by omega) (by omega) (by first | exact Nat.le_of_ble_eq_true rfl | (simp [ww_rf_cat, Value.category])) rfl (fun E M9 h9 => h9.elim) (fun v9 M9 h9 => ?_)
    obtain ⟨rfl, rfl⟩ := h9
    refine ww_callV (κ := 7) (r := (RX6, TX6, 4)) wk_L_119 dL_law_1524 (hco) rfl rfl (show ww_is _ _ 7 from hx).1 (show ww_is _ _ 7 from hx).2 rfl rfl (by omega) (by omega) (by omega) (by first | exact Nat.le_of_ble_eq_true rfl | (simp [ww_rf_cat, Value.category])) rfl (fun E M9 h9 => h9.elim) (fun v9 M9 h9 => ?_)
    obtain ⟨rfl, h1⟩ := h9
    refine ww_iconst (v := 1) dL_law_1527 (by decide) ?_
    refine ww_icmp_ne_f (tgt := 1535) dL_law_1528 (by decide) rfl ?_
    refine ww_iconst (v := 1) dL_law_1531 (by decide) ?_
    refine ww_goto (tgt := 1536) dL_law_1532 (by decide) ?_
    refine ww_istore_n (i := 2) (lv2 := [(0, _), (1, _), (2, _), (3, _), (4, _), (5, _), (6, _), (8, _), (9, _), (10, _), (11, _), (12, _)]) dL_law_1536 rfl (Nat.le_of_ble_eq_true rfl) rfl ?_
    refine ww_iconst (v := 1) dL_law_1537 (by decide) ?_
    refine ww_istore (i := 4) (lv2 := [(0, _), (1, _), (2, _), (3, _), (4, _), (5, _), (6, _), (8, _), (9, _), (10, _), (11, _), (12, _)]) dL_law_1538 (Nat.le_of_ble_eq_true rfl) rfl ?_
    refine ww_goto (tgt := 1575) dL_law_1540 (by decide) ?_
    -- at 1575, locals [0, 1, 2, 3, 4, 5, 6, 8, 9, 10, 11, 12]
    exact ww_subk (ww_less (by omega) (by omega) (kk _ _ _ _ _ _ (by omega) h1 hL1)) ⟨rfl, rfl, rfl, rfl, rfl, rfl, rfl, rfl, trivial⟩
  · obtain ⟨rfl, rfl, -⟩ := q_LI_1 hL c1
    obtain ⟨best, b1, k1, k2, k5, k6⟩ := q_bp (w := 1) S (by decide)
    obtain ⟨e0, -⟩ := k1 rfl
    subst e0
    have hpl := x_plan (best := 0) (fun bl p0 hbl => ⟨(k5 bl p0 hbl).1, (k5 bl p0 hbl).2.1⟩) h
    refine ww_istore (i := 12) (lv2 := [(0, _), (1, _), (2, _), (3, _), (4, _), (5, _), (6, _), (8, _), (9, _), (10, _), (11, _), (12, _)]) dL_law_1484 (Nat.le_of_ble_eq_true rfl) rfl ?_
    refine ww_iload (i := 12) dL_law_1486 rfl ?_
    refine ww_if_eq_t (tgt := 1507) dL_law_1488 (by decide) (by decide) ?_
    refine ww_iload (i := 4) dL_law_1507 rfl ?_
    refine ww_if_ne_t (tgt := 1543) dL_law_1509 (by decide) c1 ?_
    refine ww_aload_n (i := 1) dL_law_1543 rfl rfl ?_
    refine ww_callV (κ := 7) (r := (RX6, TX6, 4)) wk_L_122 dL_law_1544 (hpl) rfl rfl (show ww_is _ _ 7 from hx).1 (show ww_is _ _ 7 from hx).2 rfl rfl (by omega) (by omega) (by omega) (by first | exact Nat.le_of_ble_eq_true rfl | (simp [ww_rf_cat, Value.category])) rfl (fun E M9 h9 => h9.elim) (fun v9 M9 h9 => ?_)
    obtain ⟨rfl, h1⟩ := h9
    -- at 1547, locals [0, 1, 2, 3, 4, 5, 6, 8, 9, 10, 11, 12]
    have hx1 := x_is h1
    have hni := x_night h1
    refine ww_if_ne_f (tgt := 1570) dL_law_1547 (by decide) rfl ?_
    refine ww_aload_n (i := 1) dL_law_1550 rfl rfl ?_
    refine ww_callV (κ := 7) (r := (RX6, TX6, 4)) wk_L_125 dL_law_1551 (hni) rfl rfl (show ww_is _ _ 7 from hx1).1 (show ww_is _ _ 7 from hx1).2 rfl rfl (by omega) (by omega) (by omega) (by first | exact Nat.le_of_ble_eq_true rfl | (simp [ww_rf_cat, Value.category])) rfl (fun E M9 h9 => h9.elim) (fun v9 M9 h9 => ?_)
    obtain ⟨rfl, S2, us, hrn, h2⟩ := h9
    -- at 1554, locals [0, 1, 2, 3, 4, 5, 6, 8, 9, 10, 11, 12]
    have hx2 := x_is h2
    have hL2 := q_LI_night hL us
    have hro := x_road h2 (r := 0) (k := 0) (by decide) (by decide)
    have hq := ((x_Rd h2) 0 (by decide)).2.2 0 hrn
    rw [if_pos hrn, hq.2] at hro
    refine ww_if_ne_f (tgt := 1570) dL_law_1554 (by decide) rfl ?_
    refine ww_aload_n (i := 1) dL_law_1557 rfl rfl ?_
    refine ww_iconst (v := 0) dL_law_1558 (by decide) ?_
    refine ww_iconst (v := 0) dL_law_1559 (by decide) ?_
    refine ww_callV (κ := 7) (r := (RX6, TX6, 4)) wk_L_25 dL_law_1560 (hro) rfl rfl (show ww_is _ _ 7 from hx2).1 (show ww_is _ _ 7 from hx2).2 rfl rfl (by omega) (by omega) (by omega) (by first | exact Nat.le_of_ble_eq_true rfl | (simp [ww_rf_cat, Value.category])) rfl (fun E M9 h9 => h9.elim) (fun v9 M9 h9 => ?_)
    obtain ⟨rfl, rfl⟩ := h9
    refine ww_if_lt_f (tgt := 1570) dL_law_1563 (by decide) (nI_pos (by omega)) ?_
    refine ww_iconst (v := 1) dL_law_1566 (by decide) ?_
    refine ww_goto (tgt := 1571) dL_law_1567 (by decide) ?_
    refine ww_istore_n (i := 2) (lv2 := [(0, _), (1, _), (2, _), (3, _), (4, _), (5, _), (6, _), (8, _), (9, _), (10, _), (11, _), (12, _)]) dL_law_1571 rfl (Nat.le_of_ble_eq_true rfl) rfl ?_
    refine ww_iconst (v := 0) dL_law_1572 (by decide) ?_
    refine ww_istore (i := 4) (lv2 := [(0, _), (1, _), (2, _), (3, _), (4, _), (5, _), (6, _), (8, _), (9, _), (10, _), (11, _), (12, _)]) dL_law_1573 (Nat.le_of_ble_eq_true rfl) rfl ?_
    -- at 1575, locals [0, 1, 2, 3, 4, 5, 6, 8, 9, 10, 11, 12]
    exact ww_subk (ww_less (by omega) (by omega) (kk _ _ _ _ _ _ (by omega) h2 hL2)) ⟨rfl, rfl, rfl, rfl, rfl, rfl, rfl, rfl, trivial⟩
set_option maxRecDepth 20000 in
set_option maxHeartbeats 4000000 in
theorem law_b12 (h : ww_mx g c b 23 w m S M) (hL : q_LI S w m wa) (hb : b ≤ 500) (hp : p < 23) (hd : 24 ≤ d) (hkc : 20 ≤ kc) (hks : 8000 ≤ ks) (kk : ∀ (M' : ww_M) (S' : Nat → Nat → Int32) (b' w' m' : Nat) (wa' : Int32), b' ≤ b + 4 → ww_mx g c b' 23 w' m' S' M' → q_LI S' w' m' wa' → ww_A g wy_L_law d (kc - 20) (ks - 8000) M' 1575 [(0, .ref (ww_gb g)), (1, .ref (c 0)), (2, .int 1), (3, .int mo), (4, .int wa'), (5, .int ti), (6, .int v), (8, .int (nI p))] [] Q X) : ww_A g wy_L_law d kc ks M 1449 [(0, .ref (ww_gb g)), (1, .ref (c 0)), (2, .int 1), (3, .int mo), (4, .int wa), (5, .int ti), (6, .int v), (8, .int (nI p)), (9, .int (S 5 p)), (10, .int (S 12 (q_hd (S 5) 5 p)))] [] Q X := by
  have hx := x_is h
  have hlo := l_low (g := g) (M := M) (v := v >>> (4 &&& 31)) (k := 2) (by decide) (by decide)
  have hlo_ := q_lw_lt (v := v >>> (4 &&& 31)) (k := 2) (by decide)
  generalize q_lw (v >>> (4 &&& 31)) 2 = j at hlo hlo_
  refine ww_iload (i := 6) dL_law_1449 rfl ?_
  refine ww_iconst (v := 4) dL_law_1451 (by decide) ?_
  refine ww_ishr dL_law_1452 ?_
  refine ww_iconst (v := 2) dL_law_1453 (by decide) ?_
  refine ww_callS wk_L_43 rfl dL_law_1454 (hlo) rfl rfl (by omega) (by omega) (by omega) (by first | exact Nat.le_of_ble_eq_true rfl | (simp [ww_rf_cat, Value.category])) rfl (fun E M9 h9 => h9.elim) (fun v9 M9 h9 => ?_)
  obtain ⟨rfl, rfl⟩ := h9
  refine ww_bipush (v := 19) dL_law_1457 (by decide) ?_
  refine ww_imul dL_law_1459 ?_
  -- at 1460, locals [0, 1, 2, 3, 4, 5, 6, 8, 9, 10]
  refine ww_top (nI (j * 19)) (q_mulN j 19) ?_
  have ht : j * 19 = 0 ∨ j * 19 = 19 := by omega
  generalize j * 19 = t at ht ⊢
  have s0 := l_stands h (t := 0) (by decide)
  have s19 := l_stands h (t := 19) (by decide)
  have h01 := (x_G h).2.2.2.2.2.2.1
  by_cases c1 : ¬ S 12 0 = 0
  · have hm := x_m0 h (p := 0) (by decide) ((h01 0).elim (fun y => absurd y c1) id)
    refine ww_istore (i := 11) (lv2 := [(0, _), (1, _), (2, _), (3, _), (4, _), (5, _), (6, _), (8, _), (9, _), (10, _), (11, _)]) dL_law_1460 (Nat.le_of_ble_eq_true rfl) rfl ?_
    refine ww_aload_n (i := 1) dL_law_1462 rfl rfl ?_
    refine ww_iconst (v := 0) dL_law_1463 (by decide) ?_
    refine ww_callS wk_L_49 rfl dL_law_1464 (s0) rfl rfl (by omega) (by omega) (by omega) (by first | exact Nat.le_of_ble_eq_true rfl | (simp [ww_rf_cat, Value.category])) rfl (fun E M9 h9 => h9.elim) (fun v9 M9 h9 => ?_)
    obtain ⟨rfl, rfl⟩ := h9
    refine ww_if_ne_t (tgt := 1479) dL_law_1467 (by decide) c1 ?_
    refine ww_iconst (v := 1) dL_law_1479 (by decide) ?_
    refine ww_goto (tgt := 1484) dL_law_1480 (by decide) ?_
    -- at 1484, locals [0, 1, 2, 3, 4, 5, 6, 8, 9, 10, 11]
    exact law_b12o h hL hb hp hd hkc hks kk hm
  have c1 : S 12 0 = 0 := Classical.not_not.mp c1
  by_cases c2 : ¬ S 12 19 = 0
  · have hm := x_m0 h (p := 19) (by decide) ((h01 19).elim (fun y => absurd y c2) id)
    refine ww_istore (i := 11) (lv2 := [(0, _), (1, _), (2, _), (3, _), (4, _), (5, _), (6, _), (8, _), (9, _), (10, _), (11, _)]) dL_law_1460 (Nat.le_of_ble_eq_true rfl) rfl ?_
    refine ww_aload_n (i := 1) dL_law_1462 rfl rfl ?_
    refine ww_iconst (v := 0) dL_law_1463 (by decide) ?_
    refine ww_callS wk_L_49 rfl dL_law_1464 (s0) rfl rfl (by omega) (by omega) (by omega) (by first | exact Nat.le_of_ble_eq_true rfl | (simp [ww_rf_cat, Value.category])) rfl (fun E M9 h9 => h9.elim) (fun v9 M9 h9 => ?_)
    obtain ⟨rfl, rfl⟩ := h9
    refine ww_if_ne_f (tgt := 1479) dL_law_1467 (by decide) c1 ?_
    refine ww_aload_n (i := 1) dL_law_1470 rfl rfl ?_
    refine ww_bipush (v := 19) dL_law_1471 (by decide) ?_
    refine ww_callS wk_L_49 rfl dL_law_1473 (s19) rfl rfl (by omega) (by omega) (by omega) (by first | exact Nat.le_of_ble_eq_true rfl | (simp [ww_rf_cat, Value.category])) rfl (fun E M9 h9 => h9.elim) (fun v9 M9 h9 => ?_)
    obtain ⟨rfl, rfl⟩ := h9
    refine ww_if_eq_f (tgt := 1483) dL_law_1476 (by decide) c2 ?_
    refine ww_iconst (v := 1) dL_law_1479 (by decide) ?_
    refine ww_goto (tgt := 1484) dL_law_1480 (by decide) ?_
    -- at 1484, locals [0, 1, 2, 3, 4, 5, 6, 8, 9, 10, 11]
    exact law_b12o h hL hb hp hd hkc hks kk hm
  have c2 : S 12 19 = 0 := Classical.not_not.mp c2
  have hm : m = 0 := Classical.byContradiction fun y => by
    obtain ⟨i, hi, e⟩ := x_R0 h (by omega)
    rcases hL.2.2.2.1 i hi e with rfl | rfl
    · rw [c1] at e; exact absurd e (by decide)
    · rw [c2] at e; exact absurd e (by decide)
  refine ww_istore (i := 11) (lv2 := [(0, _), (1, _), (2, _), (3, _), (4, _), (5, _), (6, _), (8, _), (9, _), (10, _), (11, _)]) dL_law_1460 (Nat.le_of_ble_eq_true rfl) rfl ?_
  refine ww_aload_n (i := 1) dL_law_1462 rfl rfl ?_
  refine ww_iconst (v := 0) dL_law_1463 (by decide) ?_
  refine ww_callS wk_L_49 rfl dL_law_1464 (s0) rfl rfl (by omega) (by omega) (by omega) (by first | exact Nat.le_of_ble_eq_true rfl | (simp [ww_rf_cat, Value.category])) rfl (fun E M9 h9 => h9.elim) (fun v9 M9 h9 => ?_)
  obtain ⟨rfl, rfl⟩ := h9
  refine ww_if_ne_f (tgt := 1479) dL_law_1467 (by decide) c1 ?_
  refine ww_aload_n (i := 1) dL_law_1470 rfl rfl ?_
  refine ww_bipush (v := 19) dL_law_1471 (by decide) ?_
  refine ww_callS wk_L_49 rfl dL_law_1473 (s19) rfl rfl (by omega) (by omega) (by omega) (by first | exact Nat.le_of_ble_eq_true rfl | (simp [ww_rf_cat, Value.category])) rfl (fun E M9 h9 => h9.elim) (fun v9 M9 h9 => ?_)
  obtain ⟨rfl, rfl⟩ := h9
  refine ww_if_eq_t (tgt := 1483) dL_law_1476 (by decide) c2 ?_
  refine ww_iconst (v := 0) dL_law_1483 (by decide) ?_
  -- at 1484, locals [0, 1, 2, 3, 4, 5, 6, 8, 9, 10, 11]
  exact law_b12i h hL hb hp hd hkc hks kk ht hm (by rcases ht with rfl | rfl; exact c1; exact c2)
end WWN4
