/-! ===== the works: its parts ===== -/
/-- the int fields of parts, wheels and limits -/
def ww_wf (f : Nat) : Bool := (160 ≤ f && f ≤ 175) || (177 ≤ f && f ≤ 177) || (200 ≤ f && f ≤ 203) || (80 ≤ f && f ≤ 82)
/-- since M0 nothing but such fields was written -/
def ww_kp (M0 M : ww_M) : Prop := M.1 = M0.1 ∧ (∀ f a, ww_wf f = false → ww_I M f a = ww_I M0 f a) ∧ M.2.2 = M0.2.2
theorem ww_kp_rf {M : ww_M} : ww_kp M M := ⟨rfl, fun _ _ _ => rfl, rfl⟩
theorem ww_kp_I {M0 M : ww_M} {f a : Nat} {v : Int32} (h : ww_kp M0 M) (hf : ww_wf f = true) : ww_kp M0 (ww_sI M f a v) := ⟨h.1, fun f' a' h' => (show ww_u2 (ww_I M) f a v f' a' = ww_I M f' a' from ww_u2n (fun z => by rw [z.1, hf] at h'; cases h')).trans (h.2.1 f' a' h'), h.2.2⟩
def ww_wo (g : ww_G) (M0 M : ww_M) (x pl pe n : Nat) (P : Nat → Nat) : Prop := ww_is M.1 x 7 ∧ ww_R M 280 x = some pl ∧ ww_ls g M 4 pl pe n P ∧ n ≤ 60 ∧ ww_kp M0 M
section WWE1
variable {g : ww_G} {M0 M M1 : ww_M} {a x pl pe n : Nat} {P : Nat → Nat} {kd ho : Nat → Int32}
theorem ww_hs_eq (hh : ww_hs M P n ho) (hg : q_gh n kd ho) (h6 : n ≤ 60) (hP : ∀ i j, i < n → j < n → P i = P j → i = j) {j p : Nat} (hj : j < n) (hp : p < n) : ww_R M 166 (P j) = some (P p) ↔ ho j = nI p := by
  constructor
  · intro h
    rcases q_gh_cases hg h6 hj with h1 | ⟨q, hq, e, hl⟩
    · rw [ww_hs_0 hh hj h1] at h; cases h
    · rw [ww_hs_1 hh h6 hj e hq] at h
      rw [e, hP q p hq hp (Option.some.inj h)]
  · intro h
    exact ww_hs_1 hh h6 hj h hp
set_option maxRecDepth 20000 in
set_option maxHeartbeats 4000000 in
theorem c_inside_l (hw : ww_wo g M0 M x pl pe n P) (hh : ww_hs M P n ho) (hg : q_gh n kd ho) (hk : ∀ i, i < n → ww_I M 161 (P i) = kd i) (hP : ∀ i j, i < n → j < n → P i = P j → i = j) {p : Nat} (hp : p < n) (k : Int32) : ∀ m i, i + m = n → ww_A g wy_X6_inside 4 0 0 M 5 [(0, .ref x), (1, .ref (P p)), (2, .int k), (3, .int (nI (q_cnt (fun j => ho j = nI p ∧ kd j = k) i))), (4, .int (nI i))] [] (ww_ret (some (.int (nI (q_cnt (fun j => ho j = nI p ∧ kd j = k) n)))) M) ww_no
  | 0, i, hm => by
    have e0 : i = n := by omega
    subst e0
    have h6 := hw.2.2.2.1
    have hsz := l_size (g := g) hw.2.2.1
    refine ww_iload (i := 4) dX6_inside_5 rfl ?_
    refine ww_aload_n (i := 0) dX6_inside_7 rfl rfl ?_
    refine ww_getR (f := 280) wf_X6_10 dX6_inside_8 rfl rfl (show ww_is _ _ 7 from hw.1).1 (show ww_is _ _ 7 from hw.1).2 hw.2.1 ?_
    refine ww_callV (κ := 0) (r := (RJx4a65c, TJx4a65c, 3)) wk_X6_52 dX6_inside_11 (hsz) rfl rfl (show ww_is _ _ 0 from hw.2.2.1.1).1 (show ww_is _ _ 0 from hw.2.2.1.1).2 rfl rfl (by omega) (by omega) (by omega) (by first | exact Nat.le_of_ble_eq_true rfl | (simp [ww_rf_cat, Value.category])) rfl (fun E M9 h9 => h9.elim) (fun v9 M9 h9 => ?_)
    obtain ⟨rfl, rfl⟩ := h9
    refine ww_icmp_ge_t (tgt := 58) dX6_inside_14 (by decide) (nI_le (Nat.le_refl _) (by omega)) ?_
    refine ww_iload_n (i := 3) dX6_inside_58 rfl rfl ?_
    exact ww_ireturn dX6_inside_59 rfl (by first | rfl | exact ww_b_nar) ⟨rfl, rfl⟩
  | m + 1, i, hm => by
    have h6 := hw.2.2.2.1
    have hsz := l_size (g := g) hw.2.2.1
    have hgt := l_get (g := g) hw.2.2.1 (i := i) (by omega)
    have hj := ww_ls_el hw.2.2.1 (i := i) (by omega)
    have hcl := c_inside_l hw hh hg hk hP hp k m (i + 1) (by omega)
    have heq := ww_hs_eq hh hg h6 hP (j := i) (p := p) (by omega) hp
    refine ww_iload (i := 4) dX6_inside_5 rfl ?_
    refine ww_aload_n (i := 0) dX6_inside_7 rfl rfl ?_
    refine ww_getR (f := 280) wf_X6_10 dX6_inside_8 rfl rfl (show ww_is _ _ 7 from hw.1).1 (show ww_is _ _ 7 from hw.1).2 hw.2.1 ?_
    refine ww_callV (κ := 0) (r := (RJx4a65c, TJx4a65c, 3)) wk_X6_52 dX6_inside_11 (hsz) rfl rfl (show ww_is _ _ 0 from hw.2.2.1.1).1 (show ww_is _ _ 0 from hw.2.2.1.1).2 rfl rfl (by omega) (by omega) (by omega) (by first | exact Nat.le_of_ble_eq_true rfl | (simp [ww_rf_cat, Value.category])) rfl (fun E M9 h9 => h9.elim) (fun v9 M9 h9 => ?_)
    obtain ⟨rfl, rfl⟩ := h9
    refine ww_icmp_ge_f (tgt := 58) dX6_inside_14 (by decide) (nI_ge (by omega) (by omega)) ?_
    refine ww_aload_n (i := 0) dX6_inside_17 rfl rfl ?_
    refine ww_getR (f := 280) wf_X6_10 dX6_inside_18 rfl rfl (show ww_is _ _ 7 from hw.1).1 (show ww_is _ _ 7 from hw.1).2 hw.2.1 ?_
    refine ww_iload (i := 4) dX6_inside_21 rfl ?_
    refine ww_callV (κ := 0) (r := (RJx4a65c, TJx4a65c, 3)) wk_X6_171 dX6_inside_23 (hgt) rfl rfl (show ww_is _ _ 0 from hw.2.2.1.1).1 (show ww_is _ _ 0 from hw.2.2.1.1).2 rfl rfl (by omega) (by omega) (by omega) (by first | exact Nat.le_of_ble_eq_true rfl | (simp [ww_rf_cat, Value.category])) rfl (fun E M9 h9 => h9.elim) (fun v9 M9 h9 => ?_)
    obtain ⟨rfl, rfl⟩ := h9
    refine ww_cast (nm := "") (κ := 4) (r := (RX3, TX3, 18)) dX6_inside_26 (show ww_is _ _ 4 from hj).1 (show ww_is _ _ 4 from hj).2 rfl wm_256 ?_
    first | refine ww_astore (i := 5) (lv2 := [(0, _), (1, _), (2, _), (3, _), (4, _), (5, _)]) dX6_inside_29 (Nat.le_of_ble_eq_true rfl) rfl ?_ | refine ww_astoreQ (i := 5) (lv2 := [(0, _), (1, _), (2, _), (3, _), (4, _), (5, _)]) dX6_inside_29 (Nat.le_of_ble_eq_true rfl) rfl ?_
    refine ww_aload (i := 5) dX6_inside_31 rfl ?_
    refine ww_getQ (f := 166) wf_X6_129 dX6_inside_33 rfl rfl (show ww_is _ _ 4 from hj).1 (show ww_is _ _ 4 from hj).2 ?_
    first | refine ww_aload_n (i := 1) dX6_inside_36 rfl rfl ?_ | refine ww_aload_nQ (i := 1) dX6_inside_36 rfl rfl ?_
    -- at 37, locals [0, 1, 2, 3, 4, 5]
    refine ww_acmp_ne (tgt := 52) (rx := ww_R M 166 (P i)) (ry := some (P p)) rfl rfl dX6_inside_37 (by decide) (fun z => ?_) (fun z => ?_)
    · rw [q_cnt_n (P := fun j => ho j = nI p ∧ kd j = k) (fun y => z (heq.mpr y.1))] at hcl
      refine ww_iinc (i := 4) (v := _ + 1) (lv2 := [(0, _), (1, _), (2, _), (3, _), (4, _), (5, _)]) dX6_inside_52 rfl (by rfl) (Nat.le_of_ble_eq_true rfl) rfl ?_
      refine ww_goto (tgt := 5) dX6_inside_55 (by decide) ?_
      -- at 5, locals [0, 1, 2, 3, 4, 5]
      rw [nI_1]
      exact ww_subk hcl ⟨rfl, rfl, rfl, rfl, rfl, trivial⟩
    · have e1 := heq.mp z
      by_cases c : kd i = k
      · rw [q_cnt_s (P := fun j => ho j = nI p ∧ kd j = k) ⟨e1, c⟩, ← nI_1 (q_cnt _ i)] at hcl
        refine ww_aload (i := 5) dX6_inside_40 rfl ?_
        refine ww_getI (f := 161) wf_X6_87 dX6_inside_42 rfl rfl (show ww_is _ _ 4 from hj).1 (show ww_is _ _ 4 from hj).2 ?_
        refine ww_iload_n (i := 2) dX6_inside_45 rfl rfl ?_
        refine ww_icmp_ne_f (tgt := 52) dX6_inside_46 (by decide) ((hk i (by omega)).trans c) ?_
        refine ww_iinc (i := 3) (v := _ + 1) (lv2 := [(0, _), (1, _), (2, _), (3, _), (4, _), (5, _)]) dX6_inside_49 rfl (by rfl) (Nat.le_of_ble_eq_true rfl) rfl ?_
        refine ww_iinc (i := 4) (v := _ + 1) (lv2 := [(0, _), (1, _), (2, _), (3, _), (4, _), (5, _)]) dX6_inside_52 rfl (by rfl) (Nat.le_of_ble_eq_true rfl) rfl ?_
        refine ww_goto (tgt := 5) dX6_inside_55 (by decide) ?_
        -- at 5, locals [0, 1, 2, 3, 4, 5]
        rw [nI_1 i]
        exact ww_subk hcl ⟨rfl, rfl, rfl, rfl, rfl, trivial⟩
      · rw [q_cnt_n (P := fun j => ho j = nI p ∧ kd j = k) (fun y => c y.2)] at hcl
        refine ww_aload (i := 5) dX6_inside_40 rfl ?_
        refine ww_getI (f := 161) wf_X6_87 dX6_inside_42 rfl rfl (show ww_is _ _ 4 from hj).1 (show ww_is _ _ 4 from hj).2 ?_
        refine ww_iload_n (i := 2) dX6_inside_45 rfl rfl ?_
        refine ww_icmp_ne_t (tgt := 52) dX6_inside_46 (by decide) (fun y => c ((hk i (by omega)).symm.trans y)) ?_
        refine ww_iinc (i := 4) (v := _ + 1) (lv2 := [(0, _), (1, _), (2, _), (3, _), (4, _), (5, _)]) dX6_inside_52 rfl (by rfl) (Nat.le_of_ble_eq_true rfl) rfl ?_
        refine ww_goto (tgt := 5) dX6_inside_55 (by decide) ?_
        -- at 5, locals [0, 1, 2, 3, 4, 5]
        rw [nI_1]
        exact ww_subk hcl ⟨rfl, rfl, rfl, rfl, rfl, trivial⟩
set_option maxRecDepth 20000 in
theorem c_inside (hw : ww_wo g M0 M x pl pe n P) (hh : ww_hs M P n ho) (hg : q_gh n kd ho) (hk : ∀ i, i < n → ww_I M 161 (P i) = kd i) (hP : ∀ i j, i < n → j < n → P i = P j → i = j) {p : Nat} (hp : p < n) (k : Int32) : ww_C g wy_X6_inside 4 0 0 [.ref x, .ref (P p), .int k] M (ww_ret (some (.int (nI (q_cnt (fun j => ho j = nI p ∧ kd j = k) n)))) M) ww_no := by
  refine ww_ent (by decide +kernel) (Nat.le_of_ble_eq_true rfl) ⟨rfl, rfl, rfl, trivial⟩ ?_
  have hl := c_inside_l (g := g) hw hh hg hk hP hp k n 0 (by omega)
  rw [show q_cnt (fun j => ho j = nI p ∧ kd j = k) 0 = 0 from rfl, nI_0] at hl
  refine ww_iconst (v := 0) dX6_inside_0 (by decide) ?_
  refine ww_istore_n (i := 3) (lv2 := [(0, _), (1, _), (2, _), (3, _)]) dX6_inside_1 rfl (Nat.le_of_ble_eq_true rfl) rfl ?_
  refine ww_iconst (v := 0) dX6_inside_2 (by decide) ?_
  refine ww_istore (i := 4) (lv2 := [(0, _), (1, _), (2, _), (3, _), (4, _)]) dX6_inside_3 (Nat.le_of_ble_eq_true rfl) rfl ?_
  -- at 5, locals [0, 1, 2, 3, 4]
  exact hl
/-- parts in p, of kinds below k -/
noncomputable def q_inB (kd ho : Nat → Int32) (n p : Nat) : Nat → Nat
  | 0 => 0
  | k + 1 => q_inB kd ho n p k + q_cnt (fun j => ho j = nI p ∧ kd j = nI k) n
theorem q_inB_eq {kd ho : Nat → Int32} {n p : Nat} : ∀ {k : Nat}, k ≤ 1000 → q_inB kd ho n p k = q_cnt (fun j => ho j = nI p ∧ ∃ i, i < k ∧ kd j = nI i) n
  | 0, _ => by
    have e : ∀ m, q_cnt (fun j => ho j = nI p ∧ ∃ i, i < 0 ∧ kd j = nI i) m = 0 := by
      intro m
      induction m with
      | zero => rfl
      | succ m ih => rw [q_cnt_n (fun z => by obtain ⟨_, i, hi, _⟩ := z; omega)]; exact ih
    rw [e]
    rfl
  | k + 1, hk => by
    have add : ∀ m, q_cnt (fun j => ho j = nI p ∧ ∃ i, i < k + 1 ∧ kd j = nI i) m = q_cnt (fun j => ho j = nI p ∧ ∃ i, i < k ∧ kd j = nI i) m + q_cnt (fun j => ho j = nI p ∧ kd j = nI k) m := by
      intro m
      induction m with
      | zero => rfl
      | succ m ih =>
        by_cases c1 : ho m = nI p
        · by_cases c2 : kd m = nI k
          · have c3 : ¬ ∃ i, i < k ∧ kd m = nI i := fun ⟨i, hi, e⟩ => by
              have := (nI_eq (by omega) (by omega)).mp (c2.symm.trans e)
              omega
            rw [q_cnt_s (P := fun j => ho j = nI p ∧ ∃ i, i < k + 1 ∧ kd j = nI i) ⟨c1, k, by omega, c2⟩, q_cnt_n (P := fun j => ho j = nI p ∧ ∃ i, i < k ∧ kd j = nI i) (fun z => c3 z.2), q_cnt_s (P := fun j => ho j = nI p ∧ kd j = nI k) ⟨c1, c2⟩, ih]
            omega
          · rw [q_cnt_n (P := fun j => ho j = nI p ∧ kd j = nI k) (fun z => c2 z.2)]
            by_cases c3 : ∃ i, i < k ∧ kd m = nI i
            · obtain ⟨i, hi, e⟩ := c3
              rw [q_cnt_s (P := fun j => ho j = nI p ∧ ∃ i, i < k + 1 ∧ kd j = nI i) ⟨c1, i, by omega, e⟩, q_cnt_s (P := fun j => ho j = nI p ∧ ∃ i, i < k ∧ kd j = nI i) ⟨c1, i, hi, e⟩, ih]
              omega
            · rw [q_cnt_n (P := fun j => ho j = nI p ∧ ∃ i, i < k + 1 ∧ kd j = nI i) (fun z => by
                obtain ⟨_, i, hi, e⟩ := z
                by_cases c4 : i = k
                · exact c2 (c4 ▸ e)
                · exact c3 ⟨i, by omega, e⟩), q_cnt_n (P := fun j => ho j = nI p ∧ ∃ i, i < k ∧ kd j = nI i) (fun z => c3 z.2), ih]
        · rw [q_cnt_n (P := fun j => ho j = nI p ∧ ∃ i, i < k + 1 ∧ kd j = nI i) (fun z => c1 z.1), q_cnt_n (P := fun j => ho j = nI p ∧ ∃ i, i < k ∧ kd j = nI i) (fun z => c1 z.1), q_cnt_n (P := fun j => ho j = nI p ∧ kd j = nI k) (fun z => c1 z.1), ih]
    rw [add, ← q_inB_eq (by omega)]
    rfl
theorem q_inB_5 (hg : q_gh n kd ho) {p : Nat} : q_inB kd ho n p 5 = q_cnt (fun j => ho j = nI p) n := by
  rw [q_inB_eq (by decide)]
  exact q_cnt_cg (fun j hj => ⟨fun z => z.1, fun z => ⟨z, (hg j hj).1⟩⟩)
theorem q_inB_le {kd ho : Nat → Int32} {n p k : Nat} (hk : k ≤ 1000) : q_inB kd ho n p k ≤ n := by
  rw [q_inB_eq hk]
  exact q_cnt_le _ n
set_option maxRecDepth 20000 in
theorem c_inside2_l (hw : ww_wo g M0 M x pl pe n P) (hh : ww_hs M P n ho) (hg : q_gh n kd ho) (hk : ∀ i, i < n → ww_I M 161 (P i) = kd i) (hP : ∀ i j, i < n → j < n → P i = P j → i = j) {p : Nat} (hp : p < n) : ∀ m k, k + m = 5 → ww_A g wy_X6_inside_ 5 0 0 M 4 [(0, .ref x), (1, .ref (P p)), (2, .int (nI (q_inB kd ho n p k))), (3, .int (nI k))] [] (ww_ret (some (.int (nI (q_cnt (fun j => ho j = nI p) n)))) M) ww_no
  | 0, k, hm => by
    have e0 : k = 5 := by omega
    subst e0
    rw [q_inB_5 hg]
    refine ww_iload_n (i := 3) dX6_inside__4 rfl rfl ?_
    refine ww_iconst (v := 4) dX6_inside__5 (by decide) ?_
    refine ww_icmp_gt_t (tgt := 24) dX6_inside__6 (by decide) (by decide) ?_
    refine ww_iload_n (i := 2) dX6_inside__24 rfl rfl ?_
    exact ww_ireturn dX6_inside__25 rfl (by first | rfl | exact ww_b_nar) ⟨rfl, rfl⟩
  | m + 1, k, hm => by
    have hcl := c_inside2_l hw hh hg hk hP hp m (k + 1) (by omega)
    have e : nI (q_inB kd ho n p k) + nI (q_cnt (fun j => ho j = nI p ∧ kd j = nI k) n) = nI (q_inB kd ho n p (k + 1)) := nI_add _ _
    refine ww_iload_n (i := 3) dX6_inside__4 rfl rfl ?_
    refine ww_iconst (v := 4) dX6_inside__5 (by decide) ?_
    refine ww_icmp_gt_f (tgt := 24) dX6_inside__6 (by decide) (nI_nlt (a := 4) (b := k) (by omega) (by decide)) ?_
    refine ww_iload_n (i := 2) dX6_inside__9 rfl rfl ?_
    refine ww_aload_n (i := 0) dX6_inside__10 rfl rfl ?_
    first | refine ww_aload_n (i := 1) dX6_inside__11 rfl rfl ?_ | refine ww_aload_nQ (i := 1) dX6_inside__11 rfl rfl ?_
    refine ww_iload_n (i := 3) dX6_inside__12 rfl rfl ?_
    refine ww_callV (κ := 7) (r := (RX6, TX6, 4)) wk_X6_112 dX6_inside__13 (c_inside hw hh hg hk hP hp (nI k)) rfl rfl (show ww_is _ _ 7 from hw.1).1 (show ww_is _ _ 7 from hw.1).2 rfl rfl (by omega) (by omega) (by omega) (by first | exact Nat.le_of_ble_eq_true rfl | (simp [ww_rf_cat, Value.category])) rfl (fun E M9 h9 => h9.elim) (fun v9 M9 h9 => ?_)
    obtain ⟨rfl, rfl⟩ := h9
    refine ww_iadd dX6_inside__16 ?_
    -- at 17, locals [0, 1, 2, 3]
    rw [e]
    refine ww_istore_n (i := 2) (lv2 := [(0, _), (1, _), (2, _), (3, _)]) dX6_inside__17 rfl (Nat.le_of_ble_eq_true rfl) rfl ?_
    refine ww_iinc (i := 3) (v := _ + 1) (lv2 := [(0, _), (1, _), (2, _), (3, _)]) dX6_inside__18 rfl (by rfl) (Nat.le_of_ble_eq_true rfl) rfl ?_
    refine ww_goto (tgt := 4) dX6_inside__21 (by decide) ?_
    -- at 4, locals [0, 1, 2, 3]
    rw [nI_1]
    exact hcl
set_option maxRecDepth 20000 in
theorem c_inside2 (hw : ww_wo g M0 M x pl pe n P) (hh : ww_hs M P n ho) (hg : q_gh n kd ho) (hk : ∀ i, i < n → ww_I M 161 (P i) = kd i) (hP : ∀ i j, i < n → j < n → P i = P j → i = j) {p : Nat} (hp : p < n) : ww_C g wy_X6_inside_ 5 0 0 [.ref x, .ref (P p)] M (ww_ret (some (.int (nI (q_cnt (fun j => ho j = nI p) n)))) M) ww_no := by
  refine ww_ent (by decide +kernel) (Nat.le_of_ble_eq_true rfl) ⟨rfl, rfl, trivial⟩ ?_
  have hl := c_inside2_l (g := g) hw hh hg hk hP hp 5 0 (by omega)
  rw [show q_inB kd ho n p 0 = 0 from rfl, nI_0] at hl
  refine ww_iconst (v := 0) dX6_inside__0 (by decide) ?_
  refine ww_istore_n (i := 2) (lv2 := [(0, _), (1, _), (2, _)]) dX6_inside__1 rfl (Nat.le_of_ble_eq_true rfl) rfl ?_
  refine ww_iconst (v := 0) dX6_inside__2 (by decide) ?_
  refine ww_istore_n (i := 3) (lv2 := [(0, _), (1, _), (2, _), (3, _)]) dX6_inside__3 rfl (Nat.le_of_ble_eq_true rfl) rfl ?_
  -- at 4, locals [0, 1, 2, 3]
  exact hl
end WWE1
