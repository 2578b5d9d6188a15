section WWS3
variable {g : ww_G} {M M1 : ww_M} {lg ll le lh u : Nat} {f : Nat → Nat} {E : Nat → Nat → Int32} {v : Int32} {F : Nat → Int32}
/-- the end of the replay -/
def ww_cxQ (M : ww_M) (lh : Nat) (v0 : Option Value) : Option Value → ww_M → Prop := fun v M' => v = v0 ∧ ∃ F, ww_cX M lh F = M'
set_option maxRecDepth 20000 in
set_option maxHeartbeats 4000000 in
theorem c_lifeOf_l (ho : ww_lo g M lg ll le lh u f E) (hE : q_okE E u) {p : Nat} (hp : p < 60) : ∀ m i F, i + m = u → (∀ j, j < 60 → F j = q_rH E i j) → ww_A g wy_X2_lifeOf 4 0 0 (ww_cX M lh F) 28 [(0, .ref lg), (1, .int (nI p)), (2, .int (q_rL E p i)), (3, .int (nI i))] [] (ww_cxQ M lh (some (.int (q_rL E p u)))) ww_no
  | 0, i, F, hm, hF => by
    have e0 : i = u := by omega
    subst e0
    have hl := ho.2.2.2.2.2.2.1
    have h8 := ho.2.2.2.2.2.1
    have hl' : ww_ls g (ww_cX M lh F) 1 ll le i f := hl
    refine ww_iload_n (i := 3) dX2_lifeOf_28 rfl rfl ?_
    refine ww_aload_n (i := 0) dX2_lifeOf_29 rfl rfl ?_
    refine ww_getR (f := 120) wf_X2_12 dX2_lifeOf_30 rfl rfl (show ww_is _ _ 3 from ho.1).1 (show ww_is _ _ 3 from ho.1).2 ho.2.1 ?_
    refine ww_callV (κ := 0) (r := (RJx4a65c, TJx4a65c, 3)) wk_X2_31 dX2_lifeOf_33 (l_size hl') rfl rfl (show ww_is _ _ 0 from hl.1).1 (show ww_is _ _ 0 from hl.1).2 rfl rfl (by omega) (by omega) (by omega) (by first | exact Nat.le_of_ble_eq_true rfl | (simp [ww_rf_cat, Value.category])) rfl (fun E M9 h9 => h9.elim) (fun v9 M9 h9 => ?_)
    obtain ⟨rfl, rfl⟩ := h9
    refine ww_icmp_ge_t (tgt := 121) dX2_lifeOf_36 (by decide) (nI_le (Nat.le_refl _) (by omega)) ?_
    refine ww_iload_n (i := 2) dX2_lifeOf_121 rfl rfl ?_
    exact ww_ireturn dX2_lifeOf_122 rfl (by first | rfl | exact ww_b_nar) ⟨rfl, F, rfl⟩
  | m + 1, i, F, hm, hF => by
    have hl := ho.2.2.2.2.2.2.1
    have h8 := ho.2.2.2.2.2.1
    have hl' : ww_ls g (ww_cX M lh F) 1 ll le u f := hl
    have ho' : ww_lo g (ww_cX M lh F) lg ll le lh u f E := ho
    have he1 := ww_ls_el hl (i := i) (by omega)
    obtain ⟨k40, k41, k42⟩ := ho.2.2.2.2.2.2.2 i (by omega)
    have k40' : ww_I (ww_cX M lh F) 40 (f i) = E 0 i := k40
    have k41' : ww_I (ww_cX M lh F) 41 (f i) = E 1 i := k41
    have k42' : ww_I (ww_cX M lh F) 42 (f i) = E 2 i := k42
    by_cases c : 0 < E 2 i
    · have c' : ¬ ww_I (ww_cX M lh F) 42 (f i) ≤ 0 := by rw [k42', ww_le']; rw [ww_lt] at c; omega
      have hF2 : ∀ j, j < 60 → F j = q_rH E (i + 1) j := fun j hj => (hF j hj).trans (congrFun (show q_rH E (i + 1) = q_rH E i from if_pos c) j).symm
      have hcl := c_lifeOf_l ho hE hp m (i + 1) F (by omega) hF2
      have hX : ∀ j, j < 60 → ww_X (ww_cX M lh F) lh j = q_rH E i j := fun j hj => ww_cX_X.trans (hF j hj)
      have htt := c_topThen (g := g) ho' hX (q_rH_ok hE i (by omega)) hp
      by_cases c2 : nI (q_hd (q_rH E i) 5 p) = E 0 i
      · rw [show q_rL E p (i + 1) = q_rL E p i + E 2 i from (if_pos c).trans (if_pos c2)] at hcl
        refine ww_iload_n (i := 3) dX2_lifeOf_28 rfl rfl ?_
        refine ww_aload_n (i := 0) dX2_lifeOf_29 rfl rfl ?_
        refine ww_getR (f := 120) wf_X2_12 dX2_lifeOf_30 rfl rfl (show ww_is _ _ 3 from ho.1).1 (show ww_is _ _ 3 from ho.1).2 ho.2.1 ?_
        refine ww_callV (κ := 0) (r := (RJx4a65c, TJx4a65c, 3)) wk_X2_31 dX2_lifeOf_33 (l_size hl') rfl rfl (show ww_is _ _ 0 from hl.1).1 (show ww_is _ _ 0 from hl.1).2 rfl rfl (by omega) (by omega) (by omega) (by first | exact Nat.le_of_ble_eq_true rfl | (simp [ww_rf_cat, Value.category])) rfl (fun E M9 h9 => h9.elim) (fun v9 M9 h9 => ?_)
        obtain ⟨rfl, rfl⟩ := h9
        refine ww_icmp_ge_f (tgt := 121) dX2_lifeOf_36 (by decide) (nI_ge (by omega) (by omega)) ?_
        refine ww_aload_n (i := 0) dX2_lifeOf_39 rfl rfl ?_
        refine ww_getR (f := 120) wf_X2_12 dX2_lifeOf_40 rfl rfl (show ww_is _ _ 3 from ho.1).1 (show ww_is _ _ 3 from ho.1).2 ho.2.1 ?_
        refine ww_iload_n (i := 3) dX2_lifeOf_43 rfl rfl ?_
        refine ww_callV (κ := 0) (r := (RJx4a65c, TJx4a65c, 3)) wk_X2_38 dX2_lifeOf_44 (l_get hl' (by omega)) rfl rfl (show ww_is _ _ 0 from hl.1).1 (show ww_is _ _ 0 from hl.1).2 rfl rfl (by omega) (by omega) (by omega) (by first | exact Nat.le_of_ble_eq_true rfl | (simp [ww_rf_cat, Value.category])) rfl (fun E M9 h9 => h9.elim) (fun v9 M9 h9 => ?_)
        obtain ⟨rfl, rfl⟩ := h9
        refine ww_cast (nm := "") (κ := 1) (r := (RX0, TX0, 3)) dX2_lifeOf_47 (show ww_is _ _ 1 from he1).1 (show ww_is _ _ 1 from he1).2 rfl wm_487 ?_
        first | refine ww_astore (i := 4) (lv2 := [(0, _), (1, _), (2, _), (3, _), (4, _)]) dX2_lifeOf_50 (Nat.le_of_ble_eq_true rfl) rfl ?_ | refine ww_astoreQ (i := 4) (lv2 := [(0, _), (1, _), (2, _), (3, _), (4, _)]) dX2_lifeOf_50 (Nat.le_of_ble_eq_true rfl) rfl ?_
        refine ww_aload (i := 4) dX2_lifeOf_52 rfl ?_
        refine ww_getI (f := 42) wf_X2_50 dX2_lifeOf_54 rfl rfl (show ww_is _ _ 1 from he1).1 (show ww_is _ _ 1 from he1).2 ?_
        refine ww_if_le_f (tgt := 88) dX2_lifeOf_57 (by decide) c' ?_
        refine ww_iload_n (i := 2) dX2_lifeOf_60 rfl rfl ?_
        refine ww_aload_n (i := 0) dX2_lifeOf_61 rfl rfl ?_
        refine ww_iload_n (i := 1) dX2_lifeOf_62 rfl rfl ?_
        refine ww_callV (κ := 3) (r := (RX2, TX2, 2)) wk_X2_53 dX2_lifeOf_63 (htt) rfl rfl (show ww_is _ _ 3 from ho.1).1 (show ww_is _ _ 3 from ho.1).2 rfl rfl (by omega) (by omega) (by omega) (by first | exact Nat.le_of_ble_eq_true rfl | (simp [ww_rf_cat, Value.category])) rfl (fun E M9 h9 => h9.elim) (fun v9 M9 h9 => ?_)
        obtain ⟨rfl, rfl⟩ := h9
        refine ww_aload (i := 4) dX2_lifeOf_66 rfl ?_
        refine ww_getI (f := 40) wf_X2_46 dX2_lifeOf_68 rfl rfl (show ww_is _ _ 1 from he1).1 (show ww_is _ _ 1 from he1).2 ?_
        refine ww_icmp_ne_f (tgt := 82) dX2_lifeOf_71 (by decide) (c2.trans k40'.symm) ?_
        refine ww_aload (i := 4) dX2_lifeOf_74 rfl ?_
        refine ww_getI (f := 42) wf_X2_50 dX2_lifeOf_76 rfl rfl (show ww_is _ _ 1 from he1).1 (show ww_is _ _ 1 from he1).2 ?_
        refine ww_goto (tgt := 83) dX2_lifeOf_79 (by decide) ?_
        -- at 83, locals [0, 1, 2, 3, 4]
        rw [k42']
        refine ww_iadd dX2_lifeOf_83 ?_
        refine ww_istore_n (i := 2) (lv2 := [(0, _), (1, _), (2, _), (3, _), (4, _)]) dX2_lifeOf_84 rfl (Nat.le_of_ble_eq_true rfl) rfl ?_
        refine ww_goto (tgt := 115) dX2_lifeOf_85 (by decide) ?_
        refine ww_iinc (i := 3) (v := _ + 1) (lv2 := [(0, _), (1, _), (2, _), (3, _), (4, _)]) dX2_lifeOf_115 rfl (by rfl) (Nat.le_of_ble_eq_true rfl) rfl ?_
        refine ww_goto (tgt := 28) dX2_lifeOf_118 (by decide) ?_
        -- at 28, locals [0, 1, 2, 3, 4]
        rw [nI_1]
        exact ww_subk hcl ⟨rfl, rfl, rfl, rfl, trivial⟩
      · rw [show q_rL E p (i + 1) = q_rL E p i from (if_pos c).trans (if_neg c2)] at hcl
        refine ww_iload_n (i := 3) dX2_lifeOf_28 rfl rfl ?_
        refine ww_aload_n (i := 0) dX2_lifeOf_29 rfl rfl ?_
        refine ww_getR (f := 120) wf_X2_12 dX2_lifeOf_30 rfl rfl (show ww_is _ _ 3 from ho.1).1 (show ww_is _ _ 3 from ho.1).2 ho.2.1 ?_
        refine ww_callV (κ := 0) (r := (RJx4a65c, TJx4a65c, 3)) wk_X2_31 dX2_lifeOf_33 (l_size hl') rfl rfl (show ww_is _ _ 0 from hl.1).1 (show ww_is _ _ 0 from hl.1).2 rfl rfl (by omega) (by omega) (by omega) (by first | exact Nat.le_of_ble_eq_true rfl | (simp [ww_rf_cat, Value.category])) rfl (fun E M9 h9 => h9.elim) (fun v9 M9 h9 => ?_)
        obtain ⟨rfl, rfl⟩ := h9
        refine ww_icmp_ge_f (tgt := 121) dX2_lifeOf_36 (by decide) (nI_ge (by omega) (by omega)) ?_
        refine ww_aload_n (i := 0) dX2_lifeOf_39 rfl rfl ?_
        refine ww_getR (f := 120) wf_X2_12 dX2_lifeOf_40 rfl rfl (show ww_is _ _ 3 from ho.1).1 (show ww_is _ _ 3 from ho.1).2 ho.2.1 ?_
        refine ww_iload_n (i := 3) dX2_lifeOf_43 rfl rfl ?_
        refine ww_callV (κ := 0) (r := (RJx4a65c, TJx4a65c, 3)) wk_X2_38 dX2_lifeOf_44 (l_get hl' (by omega)) rfl rfl (show ww_is _ _ 0 from hl.1).1 (show ww_is _ _ 0 from hl.1).2 rfl rfl (by omega) (by omega) (by omega) (by first | exact Nat.le_of_ble_eq_true rfl | (simp [ww_rf_cat, Value.category])) rfl (fun E M9 h9 => h9.elim) (fun v9 M9 h9 => ?_)
        obtain ⟨rfl, rfl⟩ := h9
        refine ww_cast (nm := "") (κ := 1) (r := (RX0, TX0, 3)) dX2_lifeOf_47 (show ww_is _ _ 1 from he1).1 (show ww_is _ _ 1 from he1).2 rfl wm_487 ?_
        first | refine ww_astore (i := 4) (lv2 := [(0, _), (1, _), (2, _), (3, _), (4, _)]) dX2_lifeOf_50 (Nat.le_of_ble_eq_true rfl) rfl ?_ | refine ww_astoreQ (i := 4) (lv2 := [(0, _), (1, _), (2, _), (3, _), (4, _)]) dX2_lifeOf_50 (Nat.le_of_ble_eq_true rfl) rfl ?_
        refine ww_aload (i := 4) dX2_lifeOf_52 rfl ?_
        refine ww_getI (f := 42) wf_X2_50 dX2_lifeOf_54 rfl rfl (show ww_is _ _ 1 from he1).1 (show ww_is _ _ 1 from he1).2 ?_
        refine ww_if_le_f (tgt := 88) dX2_lifeOf_57 (by decide) c' ?_
        refine ww_iload_n (i := 2) dX2_lifeOf_60 rfl rfl ?_
        refine ww_aload_n (i := 0) dX2_lifeOf_61 rfl rfl ?_
        refine ww_iload_n (i := 1) dX2_lifeOf_62 rfl rfl ?_
        refine ww_callV (κ := 3) (r := (RX2, TX2, 2)) wk_X2_53 dX2_lifeOf_63 (htt) rfl rfl (show ww_is _ _ 3 from ho.1).1 (show ww_is _ _ 3 from ho.1).2 rfl rfl (by omega) (by omega) (by omega) (by first | exact Nat.le_of_ble_eq_true rfl | (simp [ww_rf_cat, Value.category])) rfl (fun E M9 h9 => h9.elim) (fun v9 M9 h9 => ?_)
        obtain ⟨rfl, rfl⟩ := h9
        refine ww_aload (i := 4) dX2_lifeOf_66 rfl ?_
        refine ww_getI (f := 40) wf_X2_46 dX2_lifeOf_68 rfl rfl (show ww_is _ _ 1 from he1).1 (show ww_is _ _ 1 from he1).2 ?_
        refine ww_icmp_ne_t (tgt := 82) dX2_lifeOf_71 (by decide) (fun z => c2 (z.trans k40')) ?_
        refine ww_iconst (v := 0) dX2_lifeOf_82 (by decide) ?_
        -- at 83, locals [0, 1, 2, 3, 4]
        refine ww_iadd dX2_lifeOf_83 ?_
        rw [Int32.add_zero]
        refine ww_istore_n (i := 2) (lv2 := [(0, _), (1, _), (2, _), (3, _), (4, _)]) dX2_lifeOf_84 rfl (Nat.le_of_ble_eq_true rfl) rfl ?_
        refine ww_goto (tgt := 115) dX2_lifeOf_85 (by decide) ?_
        refine ww_iinc (i := 3) (v := _ + 1) (lv2 := [(0, _), (1, _), (2, _), (3, _), (4, _)]) dX2_lifeOf_115 rfl (by rfl) (Nat.le_of_ble_eq_true rfl) rfl ?_
        refine ww_goto (tgt := 28) dX2_lifeOf_118 (by decide) ?_
        -- at 28, locals [0, 1, 2, 3, 4]
        rw [nI_1]
        exact ww_subk hcl ⟨rfl, rfl, rfl, rfl, trivial⟩
    · have c' : ww_I (ww_cX M lh F) 42 (f i) ≤ 0 := by rw [k42', ww_le']; rw [ww_lt] at c; omega
      obtain ⟨⟨q, hq, e⟩, hto⟩ := hE i (by omega)
      have hF2 : ∀ j, j < 60 → q_up1 F q (E 1 i) j = q_rH E (i + 1) j := fun j hj => by
        rw [show q_rH E (i + 1) = q_up1 (q_rH E i) (E 0 i).toNatClampNeg (E 1 i) from if_neg c, e, nI_clamp (by omega)]
        unfold q_up1
        by_cases c3 : j = q
        · rw [if_pos c3, if_pos c3]
        · rw [if_neg c3, if_neg c3]; exact hF j hj
      have hcl := c_lifeOf_l ho hE hp m (i + 1) (q_up1 F q (E 1 i)) (by omega) hF2
      rw [show q_rL E p (i + 1) = q_rL E p i from if_neg c] at hcl
      have hip := c_lisPart (g := g) ho' hq
      rw [← e, ← k40'] at hip
      have h9 := ho.2.2.2.1
      have e60 : ww_N M lh = 60 := ho.2.2.2.2.1
      refine ww_iload_n (i := 3) dX2_lifeOf_28 rfl rfl ?_
      refine ww_aload_n (i := 0) dX2_lifeOf_29 rfl rfl ?_
      refine ww_getR (f := 120) wf_X2_12 dX2_lifeOf_30 rfl rfl (show ww_is _ _ 3 from ho.1).1 (show ww_is _ _ 3 from ho.1).2 ho.2.1 ?_
      refine ww_callV (κ := 0) (r := (RJx4a65c, TJx4a65c, 3)) wk_X2_31 dX2_lifeOf_33 (l_size hl') rfl rfl (show ww_is _ _ 0 from hl.1).1 (show ww_is _ _ 0 from hl.1).2 rfl rfl (by omega) (by omega) (by omega) (by first | exact Nat.le_of_ble_eq_true rfl | (simp [ww_rf_cat, Value.category])) rfl (fun E M9 h9 => h9.elim) (fun v9 M9 h9 => ?_)
      obtain ⟨rfl, rfl⟩ := h9
      refine ww_icmp_ge_f (tgt := 121) dX2_lifeOf_36 (by decide) (nI_ge (by omega) (by omega)) ?_
      refine ww_aload_n (i := 0) dX2_lifeOf_39 rfl rfl ?_
      refine ww_getR (f := 120) wf_X2_12 dX2_lifeOf_40 rfl rfl (show ww_is _ _ 3 from ho.1).1 (show ww_is _ _ 3 from ho.1).2 ho.2.1 ?_
      refine ww_iload_n (i := 3) dX2_lifeOf_43 rfl rfl ?_
      refine ww_callV (κ := 0) (r := (RJx4a65c, TJx4a65c, 3)) wk_X2_38 dX2_lifeOf_44 (l_get hl' (by omega)) rfl rfl (show ww_is _ _ 0 from hl.1).1 (show ww_is _ _ 0 from hl.1).2 rfl rfl (by omega) (by omega) (by omega) (by first | exact Nat.le_of_ble_eq_true rfl | (simp [ww_rf_cat, Value.category])) rfl (fun E M9 h9 => h9.elim) (fun v9 M9 h9 => ?_)
      obtain ⟨rfl, rfl⟩ := h9
      refine ww_cast (nm := "") (κ := 1) (r := (RX0, TX0, 3)) dX2_lifeOf_47 (show ww_is _ _ 1 from he1).1 (show ww_is _ _ 1 from he1).2 rfl wm_487 ?_
      first | refine ww_astore (i := 4) (lv2 := [(0, _), (1, _), (2, _), (3, _), (4, _)]) dX2_lifeOf_50 (Nat.le_of_ble_eq_true rfl) rfl ?_ | refine ww_astoreQ (i := 4) (lv2 := [(0, _), (1, _), (2, _), (3, _), (4, _)]) dX2_lifeOf_50 (Nat.le_of_ble_eq_true rfl) rfl ?_
      refine ww_aload (i := 4) dX2_lifeOf_52 rfl ?_
      refine ww_getI (f := 42) wf_X2_50 dX2_lifeOf_54 rfl rfl (show ww_is _ _ 1 from he1).1 (show ww_is _ _ 1 from he1).2 ?_
      refine ww_if_le_t (tgt := 88) dX2_lifeOf_57 (by decide) c' ?_
      refine ww_aload_n (i := 0) dX2_lifeOf_88 rfl rfl ?_
      refine ww_aload (i := 4) dX2_lifeOf_89 rfl ?_
      refine ww_getI (f := 40) wf_X2_46 dX2_lifeOf_91 rfl rfl (show ww_is _ _ 1 from he1).1 (show ww_is _ _ 1 from he1).2 ?_
      refine ww_callV (κ := 3) (r := (RX2, TX2, 2)) wk_X2_57 dX2_lifeOf_94 (hip) rfl rfl (show ww_is _ _ 3 from ho.1).1 (show ww_is _ _ 3 from ho.1).2 rfl rfl (by omega) (by omega) (by omega) (by first | exact Nat.le_of_ble_eq_true rfl | (simp [ww_rf_cat, Value.category])) rfl (fun E M9 h9 => h9.elim) (fun v9 M9 h9 => ?_)
      obtain ⟨rfl, rfl⟩ := h9
      refine ww_if_eq_f (tgt := 115) dX2_lifeOf_97 (by decide) (by decide) ?_
      refine ww_aload_n (i := 0) dX2_lifeOf_100 rfl rfl ?_
      refine ww_getR (f := 121) wf_X2_18 dX2_lifeOf_101 rfl rfl (show ww_is _ _ 3 from ho.1).1 (show ww_is _ _ 3 from ho.1).2 ho.2.2.1 ?_
      refine ww_aload (i := 4) dX2_lifeOf_104 rfl ?_
      refine ww_getI (f := 40) wf_X2_46 dX2_lifeOf_106 rfl rfl (show ww_is _ _ 1 from he1).1 (show ww_is _ _ 1 from he1).2 ?_
      refine ww_aload (i := 4) dX2_lifeOf_109 rfl ?_
      refine ww_getI (f := 41) wf_X2_61 dX2_lifeOf_111 rfl rfl (show ww_is _ _ 1 from he1).1 (show ww_is _ _ 1 from he1).2 ?_
      -- at 114, locals [0, 1, 2, 3, 4]
      refine ww_iast (j := q) dX2_lifeOf_114 h9.1 h9.2 (k40'.trans e) (by show q < ww_N M lh; rw [e60]; exact hq) (by show ww_N M lh < _; rw [e60]; decide) ?_
      rw [k41', ww_cX_s]
      refine ww_iinc (i := 3) (v := _ + 1) (lv2 := [(0, _), (1, _), (2, _), (3, _), (4, _)]) dX2_lifeOf_115 rfl (by rfl) (Nat.le_of_ble_eq_true rfl) rfl ?_
      refine ww_goto (tgt := 28) dX2_lifeOf_118 (by decide) ?_
      -- at 28, locals [0, 1, 2, 3, 4]
      rw [nI_1]
      exact ww_subk hcl ⟨rfl, rfl, rfl, rfl, trivial⟩
set_option maxRecDepth 20000 in
set_option maxHeartbeats 4000000 in
theorem c_lifeOf_0 (ho : ww_lo g M lg ll le lh u f E) (hE : q_okE E u) {p : Nat} (hp : p < 60) : ∀ m i F, i + m = 60 → (∀ j, j < i → F j = -1) → ww_A g wy_X2_lifeOf 4 0 0 (ww_cX M lh F) 2 [(0, .ref lg), (1, .int (nI p)), (2, .int (nI i))] [] (ww_cxQ M lh (some (.int (q_rL E p u)))) ww_no
  | 0, i, F, hm, hF => by
    have e0 : i = 60 := by omega
    subst e0
    have h9 := ho.2.2.2.1
    have h9k : ww_K (ww_cX M lh F) lh = 9 := h9.2
    have e60 : ww_N (ww_cX M lh F) lh = 60 := ho.2.2.2.2.1
    have hcl := c_lifeOf_l (g := g) ho hE hp u 0 F (by omega) hF
    rw [nI_0] at hcl
    refine ww_iload_n (i := 2) dX2_lifeOf_2 rfl rfl ?_
    refine ww_aload_n (i := 0) dX2_lifeOf_3 rfl rfl ?_
    refine ww_getR (f := 121) wf_X2_18 dX2_lifeOf_4 rfl rfl (show ww_is _ _ 3 from ho.1).1 (show ww_is _ _ 3 from ho.1).2 ho.2.2.1 ?_
    -- at 7, locals [0, 1, 2]
    refine ww_alen dX2_lifeOf_7 h9.1 (by rw [h9k]; decide) (by rw [h9k]; decide) ?_
    rw [e60]
    refine ww_icmp_ge_t (tgt := 24) dX2_lifeOf_8 (by decide) (by decide) ?_
    refine ww_iconst (v := 0) dX2_lifeOf_24 (by decide) ?_
    refine ww_istore_n (i := 2) (lv2 := [(0, _), (1, _), (2, _)]) dX2_lifeOf_25 rfl (Nat.le_of_ble_eq_true rfl) rfl ?_
    refine ww_iconst (v := 0) dX2_lifeOf_26 (by decide) ?_
    refine ww_istore_n (i := 3) (lv2 := [(0, _), (1, _), (2, _), (3, _)]) dX2_lifeOf_27 rfl (Nat.le_of_ble_eq_true rfl) rfl ?_
    -- at 28, locals [0, 1, 2, 3]
    exact ww_subk hcl ⟨rfl, rfl, rfl, rfl, trivial⟩
  | m + 1, i, F, hm, hF => by
    have h9 := ho.2.2.2.1
    have h9k : ww_K (ww_cX M lh F) lh = 9 := h9.2
    have e60 : ww_N (ww_cX M lh F) lh = 60 := ho.2.2.2.2.1
    have hcl := c_lifeOf_0 ho hE hp m (i + 1) (q_up1 F i (-1)) (by omega) (fun j hj => by
      unfold q_up1
      by_cases c : j = i
      · rw [if_pos c]
      · rw [if_neg c]; exact hF j (by omega))
    refine ww_iload_n (i := 2) dX2_lifeOf_2 rfl rfl ?_
    refine ww_aload_n (i := 0) dX2_lifeOf_3 rfl rfl ?_
    refine ww_getR (f := 121) wf_X2_18 dX2_lifeOf_4 rfl rfl (show ww_is _ _ 3 from ho.1).1 (show ww_is _ _ 3 from ho.1).2 ho.2.2.1 ?_
    -- at 7, locals [0, 1, 2]
    refine ww_alen dX2_lifeOf_7 h9.1 (by rw [h9k]; decide) (by rw [h9k]; decide) ?_
    rw [e60]
    refine ww_icmp_ge_f (tgt := 24) dX2_lifeOf_8 (by decide) (nI_ge (by omega) (by decide)) ?_
    refine ww_aload_n (i := 0) dX2_lifeOf_11 rfl rfl ?_
    refine ww_getR (f := 121) wf_X2_18 dX2_lifeOf_12 rfl rfl (show ww_is _ _ 3 from ho.1).1 (show ww_is _ _ 3 from ho.1).2 ho.2.2.1 ?_
    refine ww_iload_n (i := 2) dX2_lifeOf_15 rfl rfl ?_
    refine ww_iconst (v := (-1)) dX2_lifeOf_16 (by decide) ?_
    -- at 17, locals [0, 1, 2]
    refine ww_iast (j := i) dX2_lifeOf_17 h9.1 h9.2 rfl (by rw [e60]; omega) (by rw [e60]; decide) ?_
    rw [ww_cX_s]
    refine ww_iinc (i := 2) (v := _ + 1) (lv2 := [(0, _), (1, _), (2, _)]) dX2_lifeOf_18 rfl (by rfl) (Nat.le_of_ble_eq_true rfl) rfl ?_
    refine ww_goto (tgt := 2) dX2_lifeOf_21 (by decide) ?_
    -- at 2, locals [0, 1, 2]
    rw [nI_1]
    exact hcl
set_option maxRecDepth 20000 in
theorem c_lifeOf (ho : ww_lo g M lg ll le lh u f E) (hE : q_okE E u) {p : Nat} (hp : p < 60) : ww_C g wy_X2_lifeOf 4 0 0 [.ref lg, .int (nI p)] M (ww_cxQ M lh (some (.int (q_rL E p u)))) ww_no := by
  refine ww_ent (by decide +kernel) (Nat.le_of_ble_eq_true rfl) ⟨rfl, rfl, trivial⟩ ?_
  have hcl := c_lifeOf_0 (g := g) ho hE hp 60 0 (ww_X M lh) (by omega) (fun j hj => by omega)
  rw [nI_0, ww_cX_id] at hcl
  refine ww_iconst (v := 0) dX2_lifeOf_0 (by decide) ?_
  refine ww_istore_n (i := 2) (lv2 := [(0, _), (1, _), (2, _)]) dX2_lifeOf_1 rfl (Nat.le_of_ble_eq_true rfl) rfl ?_
  -- at 2, locals [0, 1, 2]
  exact hcl
end WWS3
