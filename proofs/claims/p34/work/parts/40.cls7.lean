/-! ===== the yard: who stands in whose way ===== -/
def ww_cX (M : ww_M) (a : Nat) (F : Nat → Int32) : ww_M := (M.1, M.2.1, M.2.2.1, (fun a' => if a' = a then F else ww_X M a'), M.2.2.2.2)
def q_up1 (F : Nat → Int32) (i : Nat) (v : Int32) : Nat → Int32 := fun j => if j = i then v else F j
theorem ww_cX_s {M : ww_M} {a i : Nat} {F : Nat → Int32} {v : Int32} : ww_sX (ww_cX M a F) a i v = ww_cX M a (q_up1 F i v) := by
  have e : ww_u2 (ww_X (ww_cX M a F)) a i v = fun a' => if a' = a then q_up1 F i v else ww_X M a' := by
    funext b j
    show (if b = a ∧ j = i then v else (if b = a then F else ww_X M b) j) = (if b = a then q_up1 F i v else ww_X M b) j
    by_cases h : b = a
    · rw [if_pos h, if_pos h]
      unfold q_up1
      by_cases h2 : j = i
      · rw [if_pos ⟨h, h2⟩, if_pos h2]
      · rw [if_neg (fun z => h2 z.2), if_neg h2]
    · rw [if_neg (fun z => h z.1), if_neg h, if_neg h]
  unfold ww_sX
  rw [e]
  rfl
theorem ww_cX_X {M : ww_M} {a i : Nat} {F : Nat → Int32} : ww_X (ww_cX M a F) a i = F i := congrFun (show ww_X (ww_cX M a F) a = F from if_pos rfl) i
theorem ww_cX_id {M : ww_M} {a : Nat} : ww_cX M a (ww_X M a) = M := by
  have e : (fun a' => if a' = a then ww_X M a else ww_X M a') = ww_X M := by
    funext b
    by_cases h : b = a
    · rw [if_pos h, h]
    · rw [if_neg h]
  unfold ww_cX
  rw [e]
  rfl
def q_bmask (T : Nat → Int32) (i k b : Nat) : Prop := b < 256 ∧ ∀ j, j < 8 → (b.testBit j = true ↔ j < k ∧ T j < T i)
def q_bl (T : Nat → Int32) (k : Nat) (F : Nat → Int32) : Prop := ∀ i, i < k → ∃ b, q_bmask T i i b ∧ F i = nI b
theorem q_bmask_0 {T : Nat → Int32} {i : Nat} : q_bmask T i 0 0 := ⟨by decide, fun j _ => ⟨fun z => absurd ((Nat.zero_testBit _).symm.trans z) (by decide), fun z => by omega⟩⟩
theorem q_bmask_t {T : Nat → Int32} {i k b : Nat} (h : q_bmask T i k b) (hk : k < 8) (c : T k < T i) : q_bmask T i (k + 1) (b ||| 2 ^ k) := by
  refine ⟨Nat.or_lt_two_pow (n := 8) h.1 (Nat.pow_lt_pow_right (by decide) hk), fun j hj => ?_⟩
  rw [Nat.testBit_or, Bool.or_eq_true, h.2 j hj, Nat.testBit_two_pow, decide_eq_true_iff]
  constructor
  · rintro (z | z)
    · exact ⟨by omega, z.2⟩
    · subst z; exact ⟨by omega, c⟩
  · intro z
    by_cases e : k = j
    · exact Or.inr e
    · exact Or.inl ⟨by omega, z.2⟩
theorem q_bmask_f {T : Nat → Int32} {i k b : Nat} (h : q_bmask T i k b) (c : ¬ T k < T i) : q_bmask T i (k + 1) b := by
  refine ⟨h.1, fun j hj => (h.2 j hj).trans ⟨fun z => ⟨by omega, z.2⟩, fun z => ⟨?_, z.2⟩⟩⟩
  have : j ≠ k := fun y => c (y ▸ z.2)
  omega
theorem q_shlk {k : Nat} (h : k < 8) : (1 : Int32) <<< (nI k &&& 31) = nI (2 ^ k) := by
  have e : ∀ k : Fin 8, (1 : Int32) <<< (nI k.val &&& 31) = nI (2 ^ k.val) := by decide +kernel
  exact e ⟨k, h⟩
section WWC8
variable {g : ww_G} {M M1 : ww_M} {a b e n w y wl we yb κ : Nat} {f P : Nat → Nat} {v : Int32}
set_option maxRecDepth 20000 in
set_option maxHeartbeats 4000000 in
theorem c_mark_i (hy : ww_yd g M y wl we yb w f) {i : Nat} (hi : i < w) (Qf : Option Value → ww_M → Prop) (kk : ∀ F, q_bl (fun j => ww_I M 177 (f j)) (i + 1) F → ww_A g wy_X5_markBlocked 4 0 0 (ww_cX M yb F) 85 [(0, .ref y), (1, .int (nI i))] [] Qf ww_no) : ∀ (m k b : Nat) (F : Nat → Int32), k + m = i → q_bl (fun j => ww_I M 177 (f j)) i F → q_bmask (fun j => ww_I M 177 (f j)) i k b → F i = nI b → ww_A g wy_X5_markBlocked 4 0 0 (ww_cX M yb F) 31 [(0, .ref y), (1, .int (nI i)), (2, .int (nI k))] [] Qf ww_no
  | 0, k, b, F, hm, hF, hb, hFi => by
    have e0 : k = i := by omega
    subst e0
    have h8 := hy.2.2.2.2.2.1
    refine ww_iload_n (i := 2) dX5_markBlocked_31 rfl rfl ?_
    refine ww_iload_n (i := 1) dX5_markBlocked_32 rfl rfl ?_
    refine ww_icmp_ge_t (tgt := 85) dX5_markBlocked_33 (by decide) (nI_le (Nat.le_refl _) (by omega)) ?_
    -- at 85, locals [0, 1, 2]
    refine ww_subk (kk F (fun j hj => ?_)) ⟨rfl, rfl, trivial⟩
    by_cases c : j = k
    · subst c; exact ⟨b, hb, hFi⟩
    · exact hF j (by omega)
  | m + 1, k, b, F, hm, hF, hb, hFi => by
    have hl := hy.2.2.2.2.2.2
    have h8 := hy.2.2.2.2.2.1
    have hp := ww_ls_el hl (i := k) (by omega)
    have hq := ww_ls_el hl (i := i) hi
    have hgk := l_get (g := g) (M := ww_cX M yb F) hl (i := k) (by omega)
    have hgi := l_get (g := g) (M := ww_cX M yb F) hl (i := i) hi
    by_cases c : ww_I M 177 (f k) < ww_I M 177 (f i)
    · have c' : ¬ ww_I M 177 (f i) ≤ ww_I M 177 (f k) := by rw [ww_le']; rw [ww_lt] at c; omega
      refine ww_iload_n (i := 2) dX5_markBlocked_31 rfl rfl ?_
      refine ww_iload_n (i := 1) dX5_markBlocked_32 rfl rfl ?_
      refine ww_icmp_ge_f (tgt := 85) dX5_markBlocked_33 (by decide) (nI_ge (by omega) (by omega)) ?_
      refine ww_aload_n (i := 0) dX5_markBlocked_36 rfl rfl ?_
      refine ww_getR (f := 240) wf_X5_12 dX5_markBlocked_37 rfl rfl (show ww_is _ _ 6 from hy.1).1 (show ww_is _ _ 6 from hy.1).2 hy.2.1 ?_
      refine ww_iload_n (i := 2) dX5_markBlocked_40 rfl rfl ?_
      refine ww_callV (κ := 0) (r := (RJx4a65c, TJx4a65c, 3)) wk_X5_29 dX5_markBlocked_41 (hgk) rfl rfl (show ww_is _ _ 0 from hl.1).1 (show ww_is _ _ 0 from hl.1).2 rfl rfl (by omega) (by omega) (by omega) (by first | exact Nat.le_of_ble_eq_true rfl | (simp [ww_rf_cat, Value.category])) rfl (fun E M9 h9 => h9.elim) (fun v9 M9 h9 => ?_)
      obtain ⟨rfl, rfl⟩ := h9
      refine ww_cast (nm := "") (κ := 4) (r := (RX3, TX3, 18)) dX5_markBlocked_44 (show ww_is _ _ 4 from hp).1 (show ww_is _ _ 4 from hp).2 rfl wm_683 ?_
      refine ww_getI (f := 177) wf_X5_35 dX5_markBlocked_47 rfl rfl (show ww_is _ _ 4 from hp).1 (show ww_is _ _ 4 from hp).2 ?_
      refine ww_aload_n (i := 0) dX5_markBlocked_50 rfl rfl ?_
      refine ww_getR (f := 240) wf_X5_12 dX5_markBlocked_51 rfl rfl (show ww_is _ _ 6 from hy.1).1 (show ww_is _ _ 6 from hy.1).2 hy.2.1 ?_
      refine ww_iload_n (i := 1) dX5_markBlocked_54 rfl rfl ?_
      refine ww_callV (κ := 0) (r := (RJx4a65c, TJx4a65c, 3)) wk_X5_29 dX5_markBlocked_55 (hgi) rfl rfl (show ww_is _ _ 0 from hl.1).1 (show ww_is _ _ 0 from hl.1).2 rfl rfl (by omega) (by omega) (by omega) (by first | exact Nat.le_of_ble_eq_true rfl | (simp [ww_rf_cat, Value.category])) rfl (fun E M9 h9 => h9.elim) (fun v9 M9 h9 => ?_)
      obtain ⟨rfl, rfl⟩ := h9
      refine ww_cast (nm := "") (κ := 4) (r := (RX3, TX3, 18)) dX5_markBlocked_58 (show ww_is _ _ 4 from hq).1 (show ww_is _ _ 4 from hq).2 rfl wm_683 ?_
      refine ww_getI (f := 177) wf_X5_35 dX5_markBlocked_61 rfl rfl (show ww_is _ _ 4 from hq).1 (show ww_is _ _ 4 from hq).2 ?_
      refine ww_icmp_ge_f (tgt := 79) dX5_markBlocked_64 (by decide) c' ?_
      refine ww_aload_n (i := 0) dX5_markBlocked_67 rfl rfl ?_
      refine ww_getR (f := 242) wf_X5_21 dX5_markBlocked_68 rfl rfl (show ww_is _ _ 6 from hy.1).1 (show ww_is _ _ 6 from hy.1).2 hy.2.2.1 ?_
      refine ww_iload_n (i := 1) dX5_markBlocked_71 rfl rfl ?_
      refine ww_dup2 dX5_markBlocked_72 (by first | rfl | exact ww_rf_cat _) (by first | rfl | exact ww_rf_cat _) ?_
      -- at 73, locals [0, 1, 2]
      refine ww_iald dX5_markBlocked_73 hy.2.2.2.1.1 hy.2.2.2.1.2 rfl (show i < ww_N M yb by rw [hy.2.2.2.2.1]; omega) (show ww_N M yb < 2 ^ 31 by rw [hy.2.2.2.2.1]; decide) ?_
      rw [ww_cX_X, hFi]
      refine ww_iconst (v := 1) dX5_markBlocked_74 (by decide) ?_
      refine ww_iload_n (i := 2) dX5_markBlocked_75 rfl rfl ?_
      refine ww_ishl dX5_markBlocked_76 ?_
      -- at 77, locals [0, 1, 2]
      rw [q_shlk (by omega)]
      refine ww_ior dX5_markBlocked_77 ?_
      -- at 78, locals [0, 1, 2]
      rw [q_or (by have := hb.1; omega) (Nat.pow_lt_pow_right (by decide) (by omega))]
      refine ww_iast dX5_markBlocked_78 hy.2.2.2.1.1 hy.2.2.2.1.2 rfl (show i < ww_N M yb by rw [hy.2.2.2.2.1]; omega) (show ww_N M yb < 2 ^ 31 by rw [hy.2.2.2.2.1]; decide) ?_
      rw [ww_cX_s]
      refine ww_iinc (i := 2) (v := _ + 1) (lv2 := [(0, _), (1, _), (2, _)]) dX5_markBlocked_79 rfl (by rfl) (Nat.le_of_ble_eq_true rfl) rfl ?_
      refine ww_goto (tgt := 31) dX5_markBlocked_82 (by decide) ?_
      -- at 31, locals [0, 1, 2]
      rw [nI_1]
      refine c_mark_i hy hi Qf kk m (k + 1) (b ||| 2 ^ k) _ (by omega) (fun j hj => ?_) (q_bmask_t hb (by omega) c) (if_pos rfl)
      obtain ⟨b', h1, h2⟩ := hF j hj
      exact ⟨b', h1, (if_neg (by omega)).trans h2⟩
    · have c' : ww_I M 177 (f i) ≤ ww_I M 177 (f k) := by rw [ww_le']; rw [ww_lt] at c; omega
      refine ww_iload_n (i := 2) dX5_markBlocked_31 rfl rfl ?_
      refine ww_iload_n (i := 1) dX5_markBlocked_32 rfl rfl ?_
      refine ww_icmp_ge_f (tgt := 85) dX5_markBlocked_33 (by decide) (nI_ge (by omega) (by omega)) ?_
      refine ww_aload_n (i := 0) dX5_markBlocked_36 rfl rfl ?_
      refine ww_getR (f := 240) wf_X5_12 dX5_markBlocked_37 rfl rfl (show ww_is _ _ 6 from hy.1).1 (show ww_is _ _ 6 from hy.1).2 hy.2.1 ?_
      refine ww_iload_n (i := 2) dX5_markBlocked_40 rfl rfl ?_
      refine ww_callV (κ := 0) (r := (RJx4a65c, TJx4a65c, 3)) wk_X5_29 dX5_markBlocked_41 (hgk) rfl rfl (show ww_is _ _ 0 from hl.1).1 (show ww_is _ _ 0 from hl.1).2 rfl rfl (by omega) (by omega) (by omega) (by first | exact Nat.le_of_ble_eq_true rfl | (simp [ww_rf_cat, Value.category])) rfl (fun E M9 h9 => h9.elim) (fun v9 M9 h9 => ?_)
      obtain ⟨rfl, rfl⟩ := h9
      refine ww_cast (nm := "") (κ := 4) (r := (RX3, TX3, 18)) dX5_markBlocked_44 (show ww_is _ _ 4 from hp).1 (show ww_is _ _ 4 from hp).2 rfl wm_683 ?_
      refine ww_getI (f := 177) wf_X5_35 dX5_markBlocked_47 rfl rfl (show ww_is _ _ 4 from hp).1 (show ww_is _ _ 4 from hp).2 ?_
      refine ww_aload_n (i := 0) dX5_markBlocked_50 rfl rfl ?_
      refine ww_getR (f := 240) wf_X5_12 dX5_markBlocked_51 rfl rfl (show ww_is _ _ 6 from hy.1).1 (show ww_is _ _ 6 from hy.1).2 hy.2.1 ?_
      refine ww_iload_n (i := 1) dX5_markBlocked_54 rfl rfl ?_
      refine ww_callV (κ := 0) (r := (RJx4a65c, TJx4a65c, 3)) wk_X5_29 dX5_markBlocked_55 (hgi) rfl rfl (show ww_is _ _ 0 from hl.1).1 (show ww_is _ _ 0 from hl.1).2 rfl rfl (by omega) (by omega) (by omega) (by first | exact Nat.le_of_ble_eq_true rfl | (simp [ww_rf_cat, Value.category])) rfl (fun E M9 h9 => h9.elim) (fun v9 M9 h9 => ?_)
      obtain ⟨rfl, rfl⟩ := h9
      refine ww_cast (nm := "") (κ := 4) (r := (RX3, TX3, 18)) dX5_markBlocked_58 (show ww_is _ _ 4 from hq).1 (show ww_is _ _ 4 from hq).2 rfl wm_683 ?_
      refine ww_getI (f := 177) wf_X5_35 dX5_markBlocked_61 rfl rfl (show ww_is _ _ 4 from hq).1 (show ww_is _ _ 4 from hq).2 ?_
      refine ww_icmp_ge_t (tgt := 79) dX5_markBlocked_64 (by decide) c' ?_
      refine ww_iinc (i := 2) (v := _ + 1) (lv2 := [(0, _), (1, _), (2, _)]) dX5_markBlocked_79 rfl (by rfl) (Nat.le_of_ble_eq_true rfl) rfl ?_
      refine ww_goto (tgt := 31) dX5_markBlocked_82 (by decide) ?_
      -- at 31, locals [0, 1, 2]
      rw [nI_1]
      exact c_mark_i hy hi Qf kk m (k + 1) b F (by omega) hF (q_bmask_f hb c) hFi
set_option maxRecDepth 20000 in
set_option maxHeartbeats 4000000 in
theorem c_mark_l (hy : ww_yd g M y wl we yb w f) : ∀ (m i : Nat) (F : Nat → Int32), i + m = w → q_bl (fun j => ww_I M 177 (f j)) i F → ww_A g wy_X5_markBlocked 4 0 0 (ww_cX M yb F) 2 [(0, .ref y), (1, .int (nI i))] [] (fun v M' => v = none ∧ ∃ F, q_bl (fun j => ww_I M 177 (f j)) w F ∧ ww_cX M yb F = M') ww_no
  | 0, i, F, hm, hF => by
    have e0 : i = w := by omega
    subst e0
    have hl := hy.2.2.2.2.2.2
    have h8 := hy.2.2.2.2.2.1
    have hs := l_size (g := g) (M := ww_cX M yb F) hl
    refine ww_iload_n (i := 1) dX5_markBlocked_2 rfl rfl ?_
    refine ww_aload_n (i := 0) dX5_markBlocked_3 rfl rfl ?_
    refine ww_getR (f := 240) wf_X5_12 dX5_markBlocked_4 rfl rfl (show ww_is _ _ 6 from hy.1).1 (show ww_is _ _ 6 from hy.1).2 hy.2.1 ?_
    refine ww_callV (κ := 0) (r := (RJx4a65c, TJx4a65c, 3)) wk_X5_25 dX5_markBlocked_7 (hs) rfl rfl (show ww_is _ _ 0 from hl.1).1 (show ww_is _ _ 0 from hl.1).2 rfl rfl (by omega) (by omega) (by omega) (by first | exact Nat.le_of_ble_eq_true rfl | (simp [ww_rf_cat, Value.category])) rfl (fun E M9 h9 => h9.elim) (fun v9 M9 h9 => ?_)
    obtain ⟨rfl, rfl⟩ := h9
    refine ww_icmp_ge_t (tgt := 91) dX5_markBlocked_10 (by decide) (nI_le (Nat.le_refl _) (by omega)) ?_
    exact ww_vreturn dX5_markBlocked_91 rfl ⟨rfl, F, hF, rfl⟩
  | m + 1, i, F, hm, hF => by
    have hl := hy.2.2.2.2.2.2
    have h8 := hy.2.2.2.2.2.1
    have hs := l_size (g := g) (M := ww_cX M yb F) hl
    have hk9 : ww_K M yb = 9 := hy.2.2.2.1.2
    refine ww_iload_n (i := 1) dX5_markBlocked_2 rfl rfl ?_
    refine ww_aload_n (i := 0) dX5_markBlocked_3 rfl rfl ?_
    refine ww_getR (f := 240) wf_X5_12 dX5_markBlocked_4 rfl rfl (show ww_is _ _ 6 from hy.1).1 (show ww_is _ _ 6 from hy.1).2 hy.2.1 ?_
    refine ww_callV (κ := 0) (r := (RJx4a65c, TJx4a65c, 3)) wk_X5_25 dX5_markBlocked_7 (hs) rfl rfl (show ww_is _ _ 0 from hl.1).1 (show ww_is _ _ 0 from hl.1).2 rfl rfl (by omega) (by omega) (by omega) (by first | exact Nat.le_of_ble_eq_true rfl | (simp [ww_rf_cat, Value.category])) rfl (fun E M9 h9 => h9.elim) (fun v9 M9 h9 => ?_)
    obtain ⟨rfl, rfl⟩ := h9
    refine ww_icmp_ge_f (tgt := 91) dX5_markBlocked_10 (by decide) (nI_ge (by omega) (by omega)) ?_
    refine ww_iload_n (i := 1) dX5_markBlocked_13 rfl rfl ?_
    refine ww_aload_n (i := 0) dX5_markBlocked_14 rfl rfl ?_
    refine ww_getR (f := 242) wf_X5_21 dX5_markBlocked_15 rfl rfl (show ww_is _ _ 6 from hy.1).1 (show ww_is _ _ 6 from hy.1).2 hy.2.2.1 ?_
    -- at 18, locals [0, 1]
    refine ww_alen dX5_markBlocked_18 hy.2.2.2.1.1 (show 9 ≤ ww_K M yb by rw [hk9]; decide) (show ww_K M yb < 14 by rw [hk9]; decide) ?_
    rw [show ww_N (ww_cX M yb F) yb = 8 from hy.2.2.2.2.1]
    refine ww_icmp_ge_f (tgt := 91) dX5_markBlocked_19 (by decide) (nI_ge (by omega) (by omega)) ?_
    refine ww_aload_n (i := 0) dX5_markBlocked_22 rfl rfl ?_
    refine ww_getR (f := 242) wf_X5_21 dX5_markBlocked_23 rfl rfl (show ww_is _ _ 6 from hy.1).1 (show ww_is _ _ 6 from hy.1).2 hy.2.2.1 ?_
    refine ww_iload_n (i := 1) dX5_markBlocked_26 rfl rfl ?_
    refine ww_iconst (v := 0) dX5_markBlocked_27 (by decide) ?_
    -- at 28, locals [0, 1]
    refine ww_iast dX5_markBlocked_28 hy.2.2.2.1.1 hy.2.2.2.1.2 rfl (show i < ww_N M yb by rw [hy.2.2.2.2.1]; omega) (show ww_N M yb < 2 ^ 31 by rw [hy.2.2.2.2.1]; decide) ?_
    rw [ww_cX_s]
    have hk := c_mark_i (g := g) hy (i := i) (by omega) (fun v M' => v = none ∧ ∃ F, q_bl (fun j => ww_I M 177 (f j)) w F ∧ ww_cX M yb F = M') ?_ i 0 0 (q_up1 F i 0) (by omega) (fun j hj => ?_) q_bmask_0 (if_pos rfl)
    · rw [nI_0] at hk
      refine ww_iconst (v := 0) dX5_markBlocked_29 (by decide) ?_
      refine ww_istore_n (i := 2) (lv2 := [(0, _), (1, _), (2, _)]) dX5_markBlocked_30 rfl (Nat.le_of_ble_eq_true rfl) rfl ?_
      -- at 31, locals [0, 1, 2]
      exact hk
    · intro F hF
      refine ww_iinc (i := 1) (v := _ + 1) (lv2 := [(0, _), (1, _)]) dX5_markBlocked_85 rfl (by rfl) (Nat.le_of_ble_eq_true rfl) rfl ?_
      refine ww_goto (tgt := 2) dX5_markBlocked_88 (by decide) ?_
      -- at 2, locals [0, 1]
      rw [nI_1]
      exact c_mark_l hy m (i + 1) F (by omega) hF
    · obtain ⟨b', h1, h2⟩ := hF j hj
      exact ⟨b', h1, (if_neg (by omega)).trans h2⟩
set_option maxRecDepth 20000 in
theorem c_mark (hy : ww_yd g M y wl we yb w f) : ww_C g wy_X5_markBlocked 4 0 0 [.ref y] M (fun v M' => v = none ∧ ∃ F, q_bl (fun j => ww_I M 177 (f j)) w F ∧ ww_cX M yb F = M') ww_no := by
  refine ww_ent (by decide +kernel) (Nat.le_of_ble_eq_true rfl) ⟨rfl, trivial⟩ ?_
  have hl := c_mark_l (g := g) hy w 0 (ww_X M yb) (by omega) (fun j hj => by omega)
  rw [nI_0, ww_cX_id] at hl
  refine ww_iconst (v := 0) dX5_markBlocked_0 (by decide) ?_
  refine ww_istore_n (i := 1) (lv2 := [(0, _), (1, _)]) dX5_markBlocked_1 rfl (Nat.le_of_ble_eq_true rfl) rfl ?_
  -- at 2, locals [0, 1]
  exact hl
end WWC8
