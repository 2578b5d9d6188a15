/-! ===== java/lang/Math, by its library contracts ===== -/
theorem wm_math : Cond.initialized "java/lang/Math" ∈ ww_GW := ww_gw (List.mem_of_getElem? (i := 40) (by decide +kernel)) rfl
section WWM
variable {g : ww_G} {Y : ww_Yd} {d kc ks : Nat} {M : ww_M} {pc : Nat} {lv : List (Nat × Value)} {st : List Value} {Q : Option Value → ww_M → Prop} {X : String → ww_M → Prop}
theorem ww_mmax {idx : Nat} {x y : Int32} (hw : ww_sta Y.1.cls idx wy_J9_max_7cf53 2) (hd : decode Y.2.1 pc = .ok (.invokestatic idx, 3)) (hd1 : 1 ≤ d) (hst : (st.map fun v => v.category).sum ≤ 8) (kk : ww_A g Y d kc ks M (pc + 3) lv (.int (if x < y then y else x) :: st) Q X) : ww_A g Y d kc ks M pc lv (.int y :: .int x :: st) Q X := by
  intro p l e R s m args below meth c H locs cells slots mc ms ls C B hl hH hS
  obtain ⟨hx, hb, hml, hret, htb, hown, hts, htr, hF, hfr, hlo⟩ := id C
  exact va_mmax (rest := st) hx hb (hml.trans hl.1.1.symm) hown (hts _ hw.2.1) (hts _ hw.2.2) (hts _ wm_math) (hts _ hw.1.1) (by omega) (by omega) (by omega) (by omega) hd (kk p l e R s m args below meth c H locs cells slots mc ms ls C B hl hH hS)
theorem ww_mmin {idx : Nat} {x y : Int32} (hw : ww_sta Y.1.cls idx wy_J9_min_7cf53 2) (hd : decode Y.2.1 pc = .ok (.invokestatic idx, 3)) (hd1 : 1 ≤ d) (hst : (st.map fun v => v.category).sum ≤ 8) (kk : ww_A g Y d kc ks M (pc + 3) lv (.int (if y < x then y else x) :: st) Q X) : ww_A g Y d kc ks M pc lv (.int y :: .int x :: st) Q X := by
  intro p l e R s m args below meth c H locs cells slots mc ms ls C B hl hH hS
  obtain ⟨hx, hb, hml, hret, htb, hown, hts, htr, hF, hfr, hlo⟩ := id C
  exact va_mmin (rest := st) hx hb (hml.trans hl.1.1.symm) hown (hts _ hw.2.1) (hts _ hw.2.2) (hts _ wm_math) (hts _ hw.1.1) (by omega) (by omega) (by omega) (by omega) hd (kk p l e R s m args below meth c H locs cells slots mc ms ls C B hl hH hS)
theorem ww_mabs {idx : Nat} {x : Int32} (hw : ww_sta Y.1.cls idx wy_J9_abs_0f7a4 1) (hd : decode Y.2.1 pc = .ok (.invokestatic idx, 3)) (hd1 : 1 ≤ d) (hst : (st.map fun v => v.category).sum ≤ 8) (kk : ww_A g Y d kc ks M (pc + 3) lv (.int (if 0 ≤ x then x else 0 - x) :: st) Q X) : ww_A g Y d kc ks M pc lv (.int x :: st) Q X := by
  intro p l e R s m args below meth c H locs cells slots mc ms ls C B hl hH hS
  obtain ⟨hx, hb, hml, hret, htb, hown, hts, htr, hF, hfr, hlo⟩ := id C
  exact va_mabs (rest := st) hx hb (hml.trans hl.1.1.symm) hown (hts _ hw.2.1) (hts _ hw.2.2) (hts _ wm_math) (hts _ hw.1.1) (by omega) (by omega) (by omega) (by omega) hd (kk p l e R s m args below meth c H locs cells slots mc ms ls C B hl hH hS)
end WWM
/-! ===== the lists ===== -/
section WWJ
variable {g : ww_G} {M : ww_M} {a e n : Nat}
set_option maxRecDepth 20000 in
theorem j_check3 {i n : Nat} (h : i < n) (hn : n < 2 ^ 31) : ww_C g wy_J3_checkIndex_8e157 1 0 0 [.int (nI i), .int (nI n), .null] M (ww_ret (some (.int (nI i))) M) ww_no := by
  refine ww_ent (by decide +kernel) (Nat.le_of_ble_eq_true rfl) ⟨rfl, rfl, rfl, trivial⟩ ?_
  refine ww_iload_n (i := 0) dJ3_checkIndex_8e157_0 rfl rfl ?_
  refine ww_if_lt_f (tgt := 9) dJ3_checkIndex_8e157_1 (by decide) (nI_pos (by omega)) ?_
  refine ww_iload_n (i := 0) dJ3_checkIndex_8e157_4 rfl rfl ?_
  refine ww_iload_n (i := 1) dJ3_checkIndex_8e157_5 rfl rfl ?_
  refine ww_icmp_lt_t (tgt := 16) dJ3_checkIndex_8e157_6 (by decide) (nI_lt h hn) ?_
  refine ww_iload_n (i := 0) dJ3_checkIndex_8e157_16 rfl rfl ?_
  exact ww_ireturn dJ3_checkIndex_8e157_17 rfl (by first | rfl | exact ww_b_nar) ⟨rfl, rfl⟩
set_option maxRecDepth 20000 in
theorem j_check {i n : Nat} (h : i < n) (hn : n < 2 ^ 31) : ww_C g wy_J15_checkIndex_7cf53 2 0 0 [.int (nI i), .int (nI n)] M (ww_ret (some (.int (nI i))) M) ww_no := by
  refine ww_ent (by decide +kernel) (Nat.le_of_ble_eq_true rfl) ⟨rfl, rfl, trivial⟩ ?_
  refine ww_iload_n (i := 0) dJ15_checkIndex_7cf53_0 rfl rfl ?_
  refine ww_iload_n (i := 1) dJ15_checkIndex_7cf53_1 rfl rfl ?_
  refine ww_null dJ15_checkIndex_7cf53_2 ?_
  refine ww_callS wk_J15_105 rfl dJ15_checkIndex_7cf53_3 (j_check3 h hn) rfl rfl (by omega) (by omega) (by omega) (by first | exact Nat.le_of_ble_eq_true rfl | (simp [ww_rf_cat, Value.category])) rfl (fun E M9 h9 => h9.elim) (fun v9 M9 h9 => ?_)
  obtain ⟨rfl, rfl⟩ := h9
  exact ww_ireturn dJ15_checkIndex_7cf53_6 rfl (by first | rfl | exact ww_b_nar) ⟨rfl, rfl⟩
set_option maxRecDepth 20000 in
theorem j_size (ha : ww_is M.1 a 0) : ww_C g wy_Jx4a65c_size_8abf5 1 0 0 [.ref a] M (ww_ret (some (.int (ww_I M 2 a))) M) ww_no := by
  refine ww_ent (by decide +kernel) (Nat.le_of_ble_eq_true rfl) ⟨rfl, trivial⟩ ?_
  refine ww_aload_n (i := 0) dJx4a65c_size_8abf5_0 rfl rfl ?_
  refine ww_getI (f := 2) wf_Jx4a65c_48 dJx4a65c_size_8abf5_1 rfl rfl (show ww_is _ _ 0 from ha).1 (show ww_is _ _ 0 from ha).2 ?_
  exact ww_ireturn dJx4a65c_size_8abf5_4 rfl (by first | rfl | exact ww_b_nar) ⟨rfl, rfl⟩
set_option maxRecDepth 20000 in
theorem j_isEmpty (ha : ww_is M.1 a 0) (hn : ww_I M 2 a = nI n) (h5 : n < 2 ^ 31) : ww_C g wy_Jx4a65c_isEmpty_aae02 1 0 0 [.ref a] M (ww_ret (some (.int (if n = 0 then 1 else 0))) M) ww_no := by
  refine ww_ent (by decide +kernel) (Nat.le_of_ble_eq_true rfl) ⟨rfl, trivial⟩ ?_
  by_cases h1 : n = 0
  · rw [if_pos h1]
    subst h1
    refine ww_aload_n (i := 0) dJx4a65c_isEmpty_aae02_0 rfl rfl ?_
    refine ww_getI (f := 2) wf_Jx4a65c_48 dJx4a65c_isEmpty_aae02_1 rfl rfl (show ww_is _ _ 0 from ha).1 (show ww_is _ _ 0 from ha).2 ?_
    refine ww_if_ne_f (tgt := 11) dJx4a65c_isEmpty_aae02_4 (by decide) hn ?_
    refine ww_iconst (v := 1) dJx4a65c_isEmpty_aae02_7 (by decide) ?_
    refine ww_goto (tgt := 12) dJx4a65c_isEmpty_aae02_8 (by decide) ?_
    exact ww_ireturn dJx4a65c_isEmpty_aae02_12 rfl (by first | rfl | exact ww_b_nar) ⟨rfl, rfl⟩
  · rw [if_neg h1]
    refine ww_aload_n (i := 0) dJx4a65c_isEmpty_aae02_0 rfl rfl ?_
    refine ww_getI (f := 2) wf_Jx4a65c_48 dJx4a65c_isEmpty_aae02_1 rfl rfl (show ww_is _ _ 0 from ha).1 (show ww_is _ _ 0 from ha).2 ?_
    refine ww_if_ne_t (tgt := 11) dJx4a65c_isEmpty_aae02_4 (by decide) (by rw [hn]; exact nI_ne0 (by omega) h5) ?_
    refine ww_iconst (v := 0) dJx4a65c_isEmpty_aae02_11 (by decide) ?_
    exact ww_ireturn dJx4a65c_isEmpty_aae02_12 rfl (by first | rfl | exact ww_b_nar) ⟨rfl, rfl⟩
set_option maxRecDepth 20000 in
theorem j_elem (ha : ww_is M.1 a 0) (he : ww_R M 1 a = some e) (hk : ww_is M.1 e 12) (hN : ww_N M e < 2 ^ 31) {i : Nat} (hi : i < ww_N M e) : ww_C g wy_Jx4a65c_elementData_915e3 1 0 0 [.ref a, .int (nI i)] M (ww_ret (some (va_rf (ww_Y M e i))) M) ww_no := by
  refine ww_ent (by decide +kernel) (Nat.le_of_ble_eq_true rfl) ⟨rfl, rfl, trivial⟩ ?_
  refine ww_aload_n (i := 0) dJx4a65c_elementData_915e3_0 rfl rfl ?_
  refine ww_getR (f := 1) wf_Jx4a65c_9 dJx4a65c_elementData_915e3_1 rfl rfl (show ww_is _ _ 0 from ha).1 (show ww_is _ _ 0 from ha).2 he ?_
  refine ww_iload_n (i := 1) dJx4a65c_elementData_915e3_4 rfl rfl ?_
  -- at 5, locals [0, 1]
  refine ww_aald dJx4a65c_elementData_915e3_5 hk.1 (Or.inr hk.2) rfl hi hN ?_
  exact ww_areturn dJx4a65c_elementData_915e3_6 rfl (by first | exact Or.inl ⟨_, rfl⟩ | exact Or.inr ⟨_, rfl⟩) (r := ww_Y M e i) rfl ⟨rfl, rfl⟩
set_option maxRecDepth 20000 in
theorem j_get (ha : ww_is M.1 a 0) (he : ww_R M 1 a = some e) (hk : ww_is M.1 e 12) (hN : ww_N M e < 2 ^ 31) (hn : ww_I M 2 a = nI n) (hle : n ≤ ww_N M e) {i y : Nat} (hi : i < n) (hy : ww_Y M e i = some y) : ww_C g wy_Jx4a65c_get_915e3 3 0 0 [.ref a, .int (nI i)] M (ww_ret (some (.ref y)) M) ww_no := by
  refine ww_ent (by decide +kernel) (Nat.le_of_ble_eq_true rfl) ⟨rfl, rfl, trivial⟩ ?_
  have hc := j_check (g := g) (M := M) hi (by omega)
  rw [← hn] at hc
  have hg := j_elem (g := g) ha he hk hN (i := i) (by omega)
  rw [hy] at hg
  refine ww_iload_n (i := 1) dJx4a65c_get_915e3_0 rfl rfl ?_
  refine ww_aload_n (i := 0) dJx4a65c_get_915e3_1 rfl rfl ?_
  refine ww_getI (f := 2) wf_Jx4a65c_48 dJx4a65c_get_915e3_2 rfl rfl (show ww_is _ _ 0 from ha).1 (show ww_is _ _ 0 from ha).2 ?_
  refine ww_callS wk_Jx4a65c_118 rfl dJx4a65c_get_915e3_5 (hc) rfl rfl (by omega) (by omega) (by omega) (by first | exact Nat.le_of_ble_eq_true rfl | (simp [ww_rf_cat, Value.category])) rfl (fun E M9 h9 => h9.elim) (fun v9 M9 h9 => ?_)
  obtain ⟨rfl, rfl⟩ := h9
  refine ww_pop dJx4a65c_get_915e3_8 (by first | rfl | exact ww_rf_cat _) ?_
  refine ww_aload_n (i := 0) dJx4a65c_get_915e3_9 rfl rfl ?_
  refine ww_iload_n (i := 1) dJx4a65c_get_915e3_10 rfl rfl ?_
  refine ww_callV (κ := 0) (r := (RJx4a65c, TJx4a65c, 3)) wk_Jx4a65c_123 dJx4a65c_get_915e3_11 (hg) rfl rfl (show ww_is _ _ 0 from ha).1 (show ww_is _ _ 0 from ha).2 rfl rfl (by omega) (by omega) (by omega) (by first | exact Nat.le_of_ble_eq_true rfl | (simp [ww_rf_cat, Value.category])) rfl (fun E M9 h9 => h9.elim) (fun v9 M9 h9 => ?_)
  obtain ⟨rfl, rfl⟩ := h9
  exact ww_areturn dJx4a65c_get_915e3_14 rfl (by first | exact Or.inl ⟨_, rfl⟩ | exact Or.inr ⟨_, rfl⟩) (r := some _) rfl ⟨rfl, rfl⟩
/-- the bits of a byte that are set -/
def q_pop (i : Nat) : Nat := i % 2 + i / 2 % 2 + i / 4 % 2 + i / 8 % 2 + i / 16 % 2 + i / 32 % 2 + i / 64 % 2 + i / 128 % 2
def q_us5 (v : Int32) (k : Int32) : Int32 := (v.toUInt32 >>> (k.toUInt32 &&& Int32.toUInt32 31)).toInt32
def q_pc1 (v : Int32) : Int32 := v - (q_us5 v 1 &&& 1431655765)
def q_pc2 (v : Int32) : Int32 := (v &&& 858993459) + (q_us5 v 2 &&& 858993459)
def q_pc3 (v : Int32) : Int32 := v + q_us5 v 4 &&& 252645135
def q_pc4 (v : Int32) : Int32 := v + q_us5 v 8
def q_pc5 (v : Int32) : Int32 := v + q_us5 v 16 &&& 63
theorem j_pop (i : Nat) (h : i < 256) : nI (q_pop i) = q_pc5 (q_pc4 (q_pc3 (q_pc2 (q_pc1 (nI i))))) := by
  have e : ∀ j : Fin 256, nI (q_pop j.val) = q_pc5 (q_pc4 (q_pc3 (q_pc2 (q_pc1 (nI j.val))))) := by decide +kernel
  exact e ⟨i, h⟩
set_option maxRecDepth 20000 in
theorem j_bitCount {i : Nat} (h : i < 256) : ww_C g wy_J6_bitCount_0f7a4 1 0 0 [.int (nI i)] M (ww_ret (some (.int (nI (q_pop i)))) M) ww_no := by
  refine ww_ent (by decide +kernel) (Nat.le_of_ble_eq_true rfl) ⟨rfl, trivial⟩ ?_
  refine ww_iload_n (i := 0) dJ6_bitCount_0f7a4_0 rfl rfl ?_
  refine ww_iload_n (i := 0) dJ6_bitCount_0f7a4_1 rfl rfl ?_
  refine ww_iconst (v := 1) dJ6_bitCount_0f7a4_2 (by decide) ?_
  refine ww_iushr dJ6_bitCount_0f7a4_3 rfl ?_
  refine ww_ldc_w (v := 1431655765) dJ6_bitCount_0f7a4_4 wm_716 ?_
  refine ww_iand dJ6_bitCount_0f7a4_7 ?_
  refine ww_isub dJ6_bitCount_0f7a4_8 ?_
  refine ww_istore_n (i := 0) (lv2 := [(0, _)]) dJ6_bitCount_0f7a4_9 rfl (Nat.le_of_ble_eq_true rfl) rfl ?_
  refine ww_iload_n (i := 0) dJ6_bitCount_0f7a4_10 rfl rfl ?_
  refine ww_ldc_w (v := 858993459) dJ6_bitCount_0f7a4_11 wm_717 ?_
  refine ww_iand dJ6_bitCount_0f7a4_14 ?_
  refine ww_iload_n (i := 0) dJ6_bitCount_0f7a4_15 rfl rfl ?_
  refine ww_iconst (v := 2) dJ6_bitCount_0f7a4_16 (by decide) ?_
  refine ww_iushr dJ6_bitCount_0f7a4_17 rfl ?_
  refine ww_ldc_w (v := 858993459) dJ6_bitCount_0f7a4_18 wm_717 ?_
  refine ww_iand dJ6_bitCount_0f7a4_21 ?_
  refine ww_iadd dJ6_bitCount_0f7a4_22 ?_
  refine ww_istore_n (i := 0) (lv2 := [(0, _)]) dJ6_bitCount_0f7a4_23 rfl (Nat.le_of_ble_eq_true rfl) rfl ?_
  refine ww_iload_n (i := 0) dJ6_bitCount_0f7a4_24 rfl rfl ?_
  refine ww_iload_n (i := 0) dJ6_bitCount_0f7a4_25 rfl rfl ?_
  refine ww_iconst (v := 4) dJ6_bitCount_0f7a4_26 (by decide) ?_
  refine ww_iushr dJ6_bitCount_0f7a4_27 rfl ?_
  refine ww_iadd dJ6_bitCount_0f7a4_28 ?_
  refine ww_ldc_w (v := 252645135) dJ6_bitCount_0f7a4_29 wm_718 ?_
  refine ww_iand dJ6_bitCount_0f7a4_32 ?_
  refine ww_istore_n (i := 0) (lv2 := [(0, _)]) dJ6_bitCount_0f7a4_33 rfl (Nat.le_of_ble_eq_true rfl) rfl ?_
  refine ww_iload_n (i := 0) dJ6_bitCount_0f7a4_34 rfl rfl ?_
  refine ww_iload_n (i := 0) dJ6_bitCount_0f7a4_35 rfl rfl ?_
  refine ww_bipush (v := 8) dJ6_bitCount_0f7a4_36 (by decide) ?_
  refine ww_iushr dJ6_bitCount_0f7a4_38 rfl ?_
  refine ww_iadd dJ6_bitCount_0f7a4_39 ?_
  refine ww_istore_n (i := 0) (lv2 := [(0, _)]) dJ6_bitCount_0f7a4_40 rfl (Nat.le_of_ble_eq_true rfl) rfl ?_
  refine ww_iload_n (i := 0) dJ6_bitCount_0f7a4_41 rfl rfl ?_
  refine ww_iload_n (i := 0) dJ6_bitCount_0f7a4_42 rfl rfl ?_
  refine ww_bipush (v := 16) dJ6_bitCount_0f7a4_43 (by decide) ?_
  refine ww_iushr dJ6_bitCount_0f7a4_45 rfl ?_
  refine ww_iadd dJ6_bitCount_0f7a4_46 ?_
  refine ww_istore_n (i := 0) (lv2 := [(0, _)]) dJ6_bitCount_0f7a4_47 rfl (Nat.le_of_ble_eq_true rfl) rfl ?_
  refine ww_iload_n (i := 0) dJ6_bitCount_0f7a4_48 rfl rfl ?_
  refine ww_bipush (v := 63) dJ6_bitCount_0f7a4_49 (by decide) ?_
  refine ww_iand dJ6_bitCount_0f7a4_51 ?_
  exact ww_ireturn dJ6_bitCount_0f7a4_52 rfl (by first | rfl | exact ww_b_nar) ⟨congrArg (fun z => some (Value.int z)) (j_pop i h).symm, rfl⟩
/-! making one -/
set_option maxRecDepth 20000 in
theorem j_init1 (ha : ww_is M.1 a 0) : ww_C g wy_Jxa1e45_init_da8c8 1 0 0 [.ref a] M (ww_ret none M) ww_no := by
  refine ww_ent (by decide +kernel) (Nat.le_of_ble_eq_true rfl) ⟨rfl, trivial⟩ ?_
  refine ww_aload_n (i := 0) dJxa1e45_init_da8c8_0 rfl rfl ?_
  refine ww_objInit dJxa1e45_init_da8c8_1 wm_67 wm_54 wm_55 (by omega) (by first | exact Nat.le_of_ble_eq_true rfl | (simp [ww_rf_cat, Value.category])) ?_
  exact ww_vreturn dJxa1e45_init_da8c8_4 rfl ⟨rfl, rfl⟩
set_option maxRecDepth 20000 in
theorem j_init2 (ha : ww_is M.1 a 0) : ww_C g wy_Jxc12de_init_da8c8 2 0 0 [.ref a] M (ww_ret none (ww_sI M 0 a 0)) ww_no := by
  refine ww_ent (by decide +kernel) (Nat.le_of_ble_eq_true rfl) ⟨rfl, trivial⟩ ?_
  refine ww_aload_n (i := 0) dJxc12de_init_da8c8_0 rfl rfl ?_
  refine ww_callI wk_Jxc12de_1 rfl dJxc12de_init_da8c8_1 (j_init1 ha) rfl rfl (by omega) (by omega) (by omega) (by first | exact Nat.le_of_ble_eq_true rfl | (simp [ww_rf_cat, Value.category])) (fun v9 M9 h9 => ?_)
  obtain ⟨rfl, rfl⟩ := h9
  refine ww_aload_n (i := 0) dJxc12de_init_da8c8_4 rfl rfl ?_
  refine ww_iconst (v := 0) dJxc12de_init_da8c8_5 (by decide) ?_
  refine ww_putI (f := 0) wf_Jxc12de_7 wt_0_0 dJxc12de_init_da8c8_6 rfl rfl (show ww_is _ _ 0 from ha).1 (show ww_is _ _ 0 from ha).2 rfl rfl ?_
  exact ww_vreturn dJxc12de_init_da8c8_9 rfl ⟨rfl, rfl⟩
set_option maxRecDepth 20000 in
theorem j_init (ha : ww_is M.1 a 0) : ww_C g wy_Jx4a65c_init_da8c8 3 0 0 [.ref a] M (ww_ret none (ww_sR (ww_sI M 0 a 0) 1 a (some (ww_ge g)))) ww_no := by
  refine ww_ent (by decide +kernel) (Nat.le_of_ble_eq_true rfl) ⟨rfl, trivial⟩ ?_
  refine ww_aload_n (i := 0) dJx4a65c_init_da8c8_0 rfl rfl ?_
  refine ww_callI wk_Jx4a65c_1 rfl dJx4a65c_init_da8c8_1 (j_init2 ha) rfl rfl (by omega) (by omega) (by omega) (by first | exact Nat.le_of_ble_eq_true rfl | (simp [ww_rf_cat, Value.category])) (fun v9 M9 h9 => ?_)
  obtain ⟨rfl, rfl⟩ := h9
  refine ww_aload_n (i := 0) dJx4a65c_init_da8c8_4 rfl rfl ?_
  refine ww_getE dJx4a65c_init_da8c8_5 wm_68 ?_
  refine ww_putQ (f := 1) wf_Jx4a65c_9 wt_0_1 dJx4a65c_init_da8c8_8 rfl rfl (show ww_is _ _ 0 from ha).1 (show ww_is _ _ 0 from ha).2 (r := some _) rfl rfl rfl ?_
  exact ww_vreturn dJx4a65c_init_da8c8_11 rfl ⟨rfl, rfl⟩
/-! a longer array -/
theorem q_grown {m : Nat} (h : m < 30000) : nI m + (if 1 < nI m >>> ((1 : Int32) &&& 31) then nI m >>> ((1 : Int32) &&& 31) else 1) = nI (m + (if 1 < m / 2 then m / 2 else 1)) := by
  rw [pk_shrN (by omega) ((1 : Int32) &&& 31) 1 (by decide), Nat.pow_one]
  by_cases h1 : 1 < m / 2
  · rw [if_pos h1, if_pos (show (1 : Int32) < nI (m / 2) from nI_lt (a := 1) h1 (by omega)), nI_add]
  · rw [if_neg h1, if_neg (show ¬ (1 : Int32) < nI (m / 2) from nI_nlt (a := 1) (b := m / 2) (by omega) (by decide)), nI_1]
set_option maxRecDepth 20000 in
theorem j_newLength {m : Nat} (h : m < 30000) : ww_C g wy_J8_newLength_cabcc 1 0 0 [.int (nI m), .int 1, .int (nI m >>> ((1 : Int32) &&& 31))] M (ww_ret (some (.int (nI (m + (if 1 < m / 2 then m / 2 else 1))))) M) ww_no := by
  refine ww_ent (by decide +kernel) (Nat.le_of_ble_eq_true rfl) ⟨rfl, rfl, rfl, trivial⟩ ?_
  have hb : (if 1 < m / 2 then m / 2 else 1) ≤ m + 1 := by split <;> omega
  have h0 : 0 < m + (if 1 < m / 2 then m / 2 else 1) := by split <;> omega
  refine ww_iload_n (i := 0) dJ8_newLength_cabcc_0 rfl rfl ?_
  refine ww_iload_n (i := 1) dJ8_newLength_cabcc_1 rfl rfl ?_
  refine ww_iload_n (i := 2) dJ8_newLength_cabcc_2 rfl rfl ?_
  refine ww_mmax wk_J8_194 dJ8_newLength_cabcc_3 (by omega) (by first | exact Nat.le_of_ble_eq_true rfl | (simp [ww_rf_cat, Value.category])) ?_
  refine ww_iadd dJ8_newLength_cabcc_6 ?_
  -- at 7, locals [0, 1, 2]
  rw [q_grown h]
  refine ww_istore_n (i := 3) (lv2 := [(0, _), (1, _), (2, _), (3, _)]) dJ8_newLength_cabcc_7 rfl (Nat.le_of_ble_eq_true rfl) rfl ?_
  refine ww_iconst (v := 0) dJ8_newLength_cabcc_8 (by decide) ?_
  refine ww_iload_n (i := 3) dJ8_newLength_cabcc_9 rfl rfl ?_
  refine ww_icmp_ge_f (tgt := 21) dJ8_newLength_cabcc_10 (by decide) (nI_ge (a := 0) h0 (by omega)) ?_
  refine ww_iload_n (i := 3) dJ8_newLength_cabcc_13 rfl rfl ?_
  refine ww_ldc (v := 2147483639) dJ8_newLength_cabcc_14 wm_377 ?_
  refine ww_icmp_gt_f (tgt := 21) dJ8_newLength_cabcc_16 (by decide) (nI_nlt (a := 2147483639) (by omega) (by decide)) ?_
  refine ww_iload_n (i := 3) dJ8_newLength_cabcc_19 rfl rfl ?_
  exact ww_ireturn dJ8_newLength_cabcc_20 rfl (by first | rfl | exact ww_b_nar) ⟨rfl, rfl⟩
/-- all that e holds is of one class -/
def ww_el (M : ww_M) (e κ : Nat) : Prop := ∀ i y, i < ww_N M e → ww_Y M e i = some y → y ∈ ww_L M ∧ ww_K M y = κ
/-- q is a copy of e, L long -/
def ww_cpM (M : ww_M) (e q m L : Nat) : ww_M := ww_cY (ww_nw M q 12 L) q (va_cpy (ww_Y (ww_nw M q 12 L) e) (ww_Y (ww_nw M q 12 L) q) 0 0 m)
def ww_cpQ (M : ww_M) (e m L : Nat) : Option Value → ww_M → Prop := fun v M' => ∃ q, q ∉ ww_L M ∧ v = some (.ref q) ∧ ww_cpM M e q m L = M'
theorem ww_nw_in {q κ n y : Nat} (h : y ∈ ww_L M) (hq : q ∉ ww_L M) : y ∈ ww_L (ww_nw M q κ n) ∧ ww_K (ww_nw M q κ n) y = ww_K M y ∧ ww_N (ww_nw M q κ n) y = ww_N M y := by
  have hne : y ≠ q := fun z => hq (z ▸ h)
  exact ⟨List.mem_append_left _ h, if_neg hne, if_neg hne⟩
theorem ww_nw_q {q κ n : Nat} : q ∈ ww_L (ww_nw M q κ n) ∧ ww_K (ww_nw M q κ n) q = κ ∧ ww_N (ww_nw M q κ n) q = n := ⟨List.mem_append_right _ (List.mem_singleton.mpr rfl), if_pos rfl, if_pos rfl⟩
set_option maxRecDepth 20000 in
theorem j_copyOf3 {κ : Nat} {r : vw_C} (hk : ww_is M.1 e 12) {L : Nat} (hL : ww_N M e ≤ L) (hL2 : L < 65000) (hr : vwCl[κ]? = some r) (hca : (r.1, "java/lang/Object") ∈ ww_ca) (hel : ww_el M e κ) : ww_C g wy_J7_copyOf_6403c 2 1 L [.ref e, .int (nI L), .ref (ww_gm g)] M (ww_cpQ M e (ww_N M e) L) ww_no := by
  refine ww_ent (by decide +kernel) (Nat.le_of_ble_eq_true rfl) ⟨rfl, rfl, rfl, trivial⟩ ?_
  first | refine ww_aload_n (i := 2) dJ7_copyOf_6403c_0 rfl rfl ?_ | refine ww_aload_nQ (i := 2) dJ7_copyOf_6403c_0 rfl rfl ?_
  refine ww_ldcM dJ7_copyOf_6403c_1 wm_402 ?_
  -- at 3, locals [0, 1, 2]
  refine ww_acmp_ne (tgt := 13) (rx := some (ww_gm g)) (ry := some (ww_gm g)) rfl rfl dJ7_copyOf_6403c_3 (by decide) (fun z => absurd rfl z) (fun _ => ?_)
  refine ww_iload_n (i := 1) dJ7_copyOf_6403c_6 rfl rfl ?_
  -- at 7, locals [0, 1, 2]
  refine ww_newQ (κ := 12) (C0 := "java/lang/Object") dJ7_copyOf_6403c_7 (Or.inr ⟨rfl, rfl⟩) wm_404 rfl (by omega) (by omega) (by omega) (fun q hq => ?_)
  obtain ⟨e1, e2, e3⟩ := ww_nw_in (κ := 12) (n := L) hk.1 hq
  obtain ⟨q1, q2, q3⟩ := ww_nw_q (M := M) (q := q) (κ := 12) (n := L)
  have hk12 : ww_K M e = 12 := hk.2
  refine ww_goto (tgt := 24) dJ7_copyOf_6403c_10 (by decide) ?_
  first | refine ww_astore_n (i := 3) (lv2 := [(0, _), (1, _), (2, _), (3, _)]) dJ7_copyOf_6403c_24 rfl (Nat.le_of_ble_eq_true rfl) rfl ?_ | refine ww_astore_nQ (i := 3) (lv2 := [(0, _), (1, _), (2, _), (3, _)]) dJ7_copyOf_6403c_24 rfl (Nat.le_of_ble_eq_true rfl) rfl ?_
  first | refine ww_aload_n (i := 0) dJ7_copyOf_6403c_25 rfl rfl ?_ | refine ww_aload_nQ (i := 0) dJ7_copyOf_6403c_25 rfl rfl ?_
  refine ww_iconst (v := 0) dJ7_copyOf_6403c_26 (by decide) ?_
  first | refine ww_aload_n (i := 3) dJ7_copyOf_6403c_27 rfl rfl ?_ | refine ww_aload_nQ (i := 3) dJ7_copyOf_6403c_27 rfl rfl ?_
  refine ww_iconst (v := 0) dJ7_copyOf_6403c_28 (by decide) ?_
  first | refine ww_aload_n (i := 0) dJ7_copyOf_6403c_29 rfl rfl ?_ | refine ww_aload_nQ (i := 0) dJ7_copyOf_6403c_29 rfl rfl ?_
  -- at 30, locals [0, 1, 2, 3]
  refine ww_alen dJ7_copyOf_6403c_30 e1 (by rw [e2, hk12]; decide) (by rw [e2, hk12]; decide) ?_
  rw [e3]
  refine ww_iload_n (i := 1) dJ7_copyOf_6403c_31 rfl rfl ?_
  refine ww_mmin wk_J7_304 dJ7_copyOf_6403c_32 (by omega) (by first | exact Nat.le_of_ble_eq_true rfl | (simp [ww_rf_cat, Value.category])) ?_
  -- at 35, locals [0, 1, 2, 3]
  rw [show (if nI L < nI (ww_N M e) then nI L else nI (ww_N M e)) = nI (ww_N M e) from if_neg (nI_nlt hL (by omega))]
  refine ww_copy (κ := κ) (n0 := 0) (n1 := 0) dJ7_copyOf_6403c_35 wm_408 wm_410 wm_409 wm_42 e1 (e2.trans hk12) q1 q2 rfl rfl rfl (by rw [e3]; omega) (by rw [q3]; omega) (by rw [e3]; omega) (by rw [q3]; omega) hr hca (fun i hi y hy => ?_) (by omega) (by simp [Value.category]) ?_
  · rw [Nat.zero_add] at hy
    have hne : e ≠ q := fun z => hq (z ▸ hk.1)
    obtain ⟨y1, y2⟩ := hel i y hi ((show ww_Y (ww_nw M q 12 L) e i = ww_Y M e i from if_neg hne).symm.trans hy)
    obtain ⟨z1, z2, _⟩ := ww_nw_in (κ := 12) (n := L) y1 hq
    exact ⟨z1, z2.trans y2⟩
  · first | refine ww_aload_n (i := 3) dJ7_copyOf_6403c_38 rfl rfl ?_ | refine ww_aload_nQ (i := 3) dJ7_copyOf_6403c_38 rfl rfl ?_
    exact ww_areturn dJ7_copyOf_6403c_39 rfl (by first | exact Or.inl ⟨_, rfl⟩ | exact Or.inr ⟨_, rfl⟩) (r := some _) rfl ⟨q, hq, rfl, rfl⟩
set_option maxRecDepth 20000 in
theorem j_copyOf {κ : Nat} {r : vw_C} (hk : ww_is M.1 e 12) {L : Nat} (hL : ww_N M e ≤ L) (hL2 : L < 65000) (hr : vwCl[κ]? = some r) (hca : (r.1, "java/lang/Object") ∈ ww_ca) (hel : ww_el M e κ) : ww_C g wy_J7_copyOf_1904c 3 1 L [.ref e, .int (nI L)] M (ww_cpQ M e (ww_N M e) L) ww_no := by
  refine ww_ent (by decide +kernel) (Nat.le_of_ble_eq_true rfl) ⟨rfl, rfl, trivial⟩ ?_
  first | refine ww_aload_n (i := 0) dJ7_copyOf_1904c_0 rfl rfl ?_ | refine ww_aload_nQ (i := 0) dJ7_copyOf_1904c_0 rfl rfl ?_
  refine ww_iload_n (i := 1) dJ7_copyOf_1904c_1 rfl rfl ?_
  first | refine ww_aload_n (i := 0) dJ7_copyOf_1904c_2 rfl rfl ?_ | refine ww_aload_nQ (i := 0) dJ7_copyOf_1904c_2 rfl rfl ?_
  -- at 3, locals [0, 1]
  refine ww_getC dJ7_copyOf_1904c_3 hk.1 hk.2 wm_384 (by decide) wm_879 wm_385 wm_398 (by omega) (by simp [Value.category]) ?_
  refine ww_callS wk_J7_300 rfl dJ7_copyOf_1904c_6 (j_copyOf3 hk hL hL2 hr hca hel) rfl rfl (by omega) (by omega) (by omega) (by first | exact Nat.le_of_ble_eq_true rfl | (simp [ww_rf_cat, Value.category])) rfl (fun E M9 h9 => h9.elim) (fun v9 M9 h9 => ?_)
  obtain ⟨q, hq, rfl, rfl⟩ := h9
  exact ww_areturn dJ7_copyOf_1904c_9 rfl (by first | exact Or.inl ⟨_, rfl⟩ | exact Or.inr ⟨_, rfl⟩) (r := some _) rfl ⟨q, hq, rfl, rfl⟩
end WWJ
