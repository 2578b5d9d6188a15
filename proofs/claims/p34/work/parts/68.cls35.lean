/-! ===== run ===== -/
/-- with fewer frames -/
theorem ww_dd {g : ww_G} {Y : ww_Yd} {d d2 kc ks : Nat} {M : ww_M} {pc : Nat} {lv : List (Nat × Value)} {st : List Value} {Q : Option Value → ww_M → Prop} {X : String → ww_M → Prop} (h : d2 ≤ d) (k : ww_A g Y d2 kc ks M pc lv st Q X) : ww_A g Y d kc ks M pc lv st Q X := by
  intro p l e R s m args below meth c H locs cells slots mc ms ls C B hl hH hS
  obtain ⟨hx, hb, hml, hret, htb, hown, hts, htr, hF, hfr, hlo⟩ := C
  exact k p l e R s m args below meth c H locs cells slots mc ms ls ⟨hx, hb, hml, hret, htb, hown, hts, htr, hF, by omega, by omega⟩ B hl hH hS
/-- those below m of t's tree have gone -/
noncomputable def q_c1 (S : Nat → Nat → Int32) (t : Nat) (d s : Int32) (m : Nat) : Nat → Nat → Int32 := fun k i => q_if (i < m ∧ q_hd (S 5) 5 i = t) (q_go S i d s k i) (S k i)
theorem q_c1_0 {S : Nat → Nat → Int32} {t : Nat} {d s : Int32} : q_c1 S t d s 0 = S := by
  funext k i
  exact q_if_f (fun y => by omega)
theorem q_c1_k {S : Nat → Nat → Int32} {t m k : Nat} {d s : Int32} (h : ¬ (k = 6 ∨ k = 7 ∨ k = 13 ∨ k = 14 ∨ k = 15 ∨ k = 18)) : q_c1 S t d s m k = S k := by
  funext i
  unfold q_c1
  by_cases c : i < m ∧ q_hd (S 5) 5 i = t
  · rw [q_if_t c, q_go_k h]
  · rw [q_if_f c]
theorem q_c1_t {S : Nat → Nat → Int32} {t m : Nat} {d s : Int32} (h : q_hd (S 5) 5 m = t) : q_go (q_c1 S t d s m) m d s = q_c1 S t d s (m + 1) := by
  funext k i
  have e : ∀ k, q_c1 S t d s m k m = S k m := fun k => q_if_f (fun y => by omega)
  by_cases c : i = m
  · subst c
    rw [q_go_p e]
    exact (q_if_t ⟨by omega, h⟩).symm
  · rw [q_go_n c]
    exact q_if_cg ⟨fun y => ⟨by omega, y.2⟩, fun y => ⟨by omega, y.2⟩⟩
theorem q_c1_f {S : Nat → Nat → Int32} {t m : Nat} {d s : Int32} (h : ¬ q_hd (S 5) 5 m = t) : q_c1 S t d s (m + 1) = q_c1 S t d s m := by
  funext k i
  refine q_if_cg ⟨fun y => ⟨?_, y.2⟩, fun y => ⟨by omega, y.2⟩⟩
  have : i ≠ m := fun e => h (e ▸ y.2)
  omega
theorem q_c1_n {S : Nat → Nat → Int32} {t n : Nat} {d s : Int32} : q_c1 S t d s n = q_r1 S n t d s 0 := by
  funext k i
  exact q_if_cg ⟨fun y => ⟨by omega, y.1, y.2⟩, fun y => ⟨y.2.1, y.2.2⟩⟩
theorem q_G_c1 {S : Nat → Nat → Int32} {n t m : Nat} {d s : Int32} (h : q_G S n) : q_G (q_c1 S t d s m) n := by
  refine q_G_r h ?_ (q_c1_k (by decide)) (q_c1_k (by decide)) ?_ ?_ ?_ ?_ ?_
  · rw [q_c1_k (by decide)]
  · intro i; rw [q_c1_k (by decide)]; exact h.2.2.2.1 i
  · intro i; rw [q_c1_k (by decide)]; exact h.2.2.2.2.1 i
  · intro i; rw [q_c1_k (by decide)]; exact h.2.2.2.2.2.1 i
  · intro i; rw [q_c1_k (by decide)]; exact h.2.2.2.2.2.2.1 i
  · intro i; rw [q_c1_k (by decide)]; exact h.2.2.2.2.2.2.2 i
/-- the first of one more -/
theorem q_ff_snoc {P : Nat → Prop} : ∀ (m i : Nat), q_ff P (m + 1) i = match q_ff P m i with | some j => some j | none => q_if (P (i + m)) (some (i + m)) none
  | 0, i => rfl
  | m + 1, i => by
    show q_if (P i) (some i) (q_ff P (m + 1) (i + 1)) = match q_if (P i) (some i) (q_ff P m (i + 1)) with | some j => some j | none => q_if (P (i + (m + 1))) (some (i + (m + 1))) none
    by_cases h : P i
    · rw [q_if_t h, q_if_t h]
    · rw [q_if_f h, q_if_f h, q_ff_snoc m (i + 1), show i + 1 + m = i + (m + 1) by omega]
theorem q_ff_sn {P : Nat → Prop} {m j : Nat} (h : q_ff P m 0 = some j) : q_ff P (m + 1) 0 = some j := by rw [q_ff_snoc, h]
theorem q_ff_st {P : Nat → Prop} {m : Nat} (h : q_ff P m 0 = none) (hp : P m) : q_ff P (m + 1) 0 = some m := by rw [q_ff_snoc, h]; show q_if (P (0 + m)) (some (0 + m)) none = some m; rw [Nat.zero_add, q_if_t hp]
theorem q_ff_sf {P : Nat → Prop} {m : Nat} (h : q_ff P m 0 = none) (hp : ¬ P m) : q_ff P (m + 1) 0 = none := by rw [q_ff_snoc, h]; show q_if (P (0 + m)) (some (0 + m)) none = none; rw [Nat.zero_add, q_if_f hp]
section WWA7
variable {g : ww_G} {M0 M M1 M' : ww_M} {c ea P W kl f z D : Nat → Nat} {E : Nat → Nat → Int32} {n u w m : Nat} {S S1 : Nat → Nat → Int32} {v d s : Int32}
theorem ww_wo_run3 {x pl pe a : Nat} {o : Option Nat} {r : Int32} (hw : ww_wo g M0 M x pl pe n P) : ww_wo g M0 (ww_run3 M a o d r) x pl pe n P := by
  have h1 : ww_wo g M0 (ww_run1 M a d) x pl pe n P := ww_wo_I (ww_wo_I hw (by decide)) (by decide)
  have h2 : ww_wo g M0 (ww_run2 M a o d r) x pl pe n P := by
    cases o with
    | none => exact h1
    | some b => exact ww_wo_I (ww_wo_I (ww_wo_I h1 (by decide)) (by decide)) (by decide)
  unfold ww_run3
  split
  · exact ww_wo_I h2 (by decide)
  · exact h2
theorem p_runs (h : ww_pf M P W kl n S) {p : Nat} (hp : p < n) (d r : Int32) : ww_C g wy_X3_runs 2 0 0 [.ref (P p), .int d, .int r] M (ww_ret none (ww_run3 M (P p) (if S 2 p = 3 then some (W p) else none) d r)) ww_no := by
  have hi4 := (h.1 p hp).1.1
  by_cases c1 : S 2 p = 3
  · rw [if_pos c1]
    obtain ⟨hR, hw5, _⟩ := (h.1 p hp).2.1 c1
    exact c_runs_w hi4 hR hw5 d r
  · rw [if_neg c1]
    exact c_runs_n hi4 ((h.1 p hp).2.2.1 c1) d r
set_option maxRecDepth 20000 in
set_option maxHeartbeats 8000000 in
theorem c_run_l {x pl pe t : Nat} (hG : q_G S n) (ht : t < n) (h18 : ∀ i, i < n → 0 ≤ S 18 i) (hs : q_rg 0 3 s) {Q : Option Value → ww_M → Prop} {X : String → ww_M → Prop} (kk : ∀ M', ww_wo g M0 M' x pl pe n P → ww_pf M' P W kl n (q_c1 S t d s n) → ww_A g wy_X6_run 6 0 0 M' 133 [(0, .ref x), (2, .int d), (3, .int s), (4, .ref (P t)), (5, .int (q_oi (q_ff (q_bad S t d s) n 0)))] [] Q X) : ∀ (m i : Nat) (M : ww_M), i + m = n → ww_wo g M0 M x pl pe n P → ww_pf M P W kl n (q_c1 S t d s i) → ww_wa W n S → ww_A g wy_X6_run 6 0 0 M 59 [(0, .ref x), (2, .int d), (3, .int s), (4, .ref (P t)), (5, .int (q_oi (q_ff (q_bad S t d s) i 0))), (6, .int (nI i))] [] Q X
  | 0, i, M, hm, hw, h, hW => by
    have h6 := hG.2.1
    have e0 : i = n := by omega
    subst e0
    have hsz := l_size (g := g) hw.2.2.1
    refine ww_iload (i := 6) dX6_run_59 rfl ?_
    refine ww_aload_n (i := 0) dX6_run_61 rfl rfl ?_
    refine ww_getR (f := 280) wf_X6_10 dX6_run_62 rfl rfl (show ww_is _ _ 7 from hw.1).1 (show ww_is _ _ 7 from hw.1).2 hw.2.1 ?_
    refine ww_callV (κ := 0) (r := (RJx4a65c, TJx4a65c, 3)) wk_X6_52 dX6_run_65 (hsz) rfl rfl (show ww_is _ _ 0 from hw.2.2.1.1).1 (show ww_is _ _ 0 from hw.2.2.1.1).2 rfl rfl (by omega) (by omega) (by omega) (by first | exact Nat.le_of_ble_eq_true rfl | (simp [ww_rf_cat, Value.category])) rfl (fun E M9 h9 => h9.elim) (fun v9 M9 h9 => ?_)
    obtain ⟨rfl, rfl⟩ := h9
    refine ww_icmp_ge_t (tgt := 133) dX6_run_68 (by decide) (nI_le (Nat.le_refl _) (by omega)) ?_
    -- at 133, locals [0, 2, 3, 4, 5, 6]
    exact ww_subk (kk M hw h) ⟨rfl, rfl, rfl, rfl, rfl, trivial⟩
  | m + 1, i, M, hm, hw, h, hW => by
    have h6 := hG.2.1
    have hi : i < n := by omega
    have hsz := l_size (g := g) hw.2.2.1
    have hgt := l_get (g := g) hw.2.2.1 hi
    have hi4 := (h.1 i hi).1.1
    have ht4 := (h.1 t ht).1.1
    have e5 : q_c1 S t d s i 5 = S 5 := q_c1_k (by decide)
    have hd := q_hd_lt hG.2.2.1 hG.2.1 5 i hi
    have htop := p_top (g := g) h (q_G_c1 hG) hi
    rw [e5] at htop
    refine ww_iload (i := 6) dX6_run_59 rfl ?_
    refine ww_aload_n (i := 0) dX6_run_61 rfl rfl ?_
    refine ww_getR (f := 280) wf_X6_10 dX6_run_62 rfl rfl (show ww_is _ _ 7 from hw.1).1 (show ww_is _ _ 7 from hw.1).2 hw.2.1 ?_
    refine ww_callV (κ := 0) (r := (RJx4a65c, TJx4a65c, 3)) wk_X6_52 dX6_run_65 (hsz) rfl rfl (show ww_is _ _ 0 from hw.2.2.1.1).1 (show ww_is _ _ 0 from hw.2.2.1.1).2 rfl rfl (by omega) (by omega) (by omega) (by first | exact Nat.le_of_ble_eq_true rfl | (simp [ww_rf_cat, Value.category])) rfl (fun E M9 h9 => h9.elim) (fun v9 M9 h9 => ?_)
    obtain ⟨rfl, rfl⟩ := h9
    refine ww_icmp_ge_f (tgt := 133) dX6_run_68 (by decide) (nI_ge (by omega) (by omega)) ?_
    refine ww_aload_n (i := 0) dX6_run_71 rfl rfl ?_
    refine ww_getR (f := 280) wf_X6_10 dX6_run_72 rfl rfl (show ww_is _ _ 7 from hw.1).1 (show ww_is _ _ 7 from hw.1).2 hw.2.1 ?_
    refine ww_iload (i := 6) dX6_run_75 rfl ?_
    refine ww_callV (κ := 0) (r := (RJx4a65c, TJx4a65c, 3)) wk_X6_171 dX6_run_77 (hgt) rfl rfl (show ww_is _ _ 0 from hw.2.2.1.1).1 (show ww_is _ _ 0 from hw.2.2.1.1).2 rfl rfl (by omega) (by omega) (by omega) (by first | exact Nat.le_of_ble_eq_true rfl | (simp [ww_rf_cat, Value.category])) rfl (fun E M9 h9 => h9.elim) (fun v9 M9 h9 => ?_)
    obtain ⟨rfl, rfl⟩ := h9
    refine ww_cast (nm := "") (κ := 4) (r := (RX3, TX3, 18)) dX6_run_80 (show ww_is _ _ 4 from hi4).1 (show ww_is _ _ 4 from hi4).2 rfl wm_256 ?_
    first | refine ww_astore (i := 7) (lv2 := [(0, _), (2, _), (3, _), (4, _), (5, _), (6, _), (7, _)]) dX6_run_83 (Nat.le_of_ble_eq_true rfl) rfl ?_ | refine ww_astoreQ (i := 7) (lv2 := [(0, _), (2, _), (3, _), (4, _), (5, _), (6, _), (7, _)]) dX6_run_83 (Nat.le_of_ble_eq_true rfl) rfl ?_
    refine ww_aload (i := 7) dX6_run_85 rfl ?_
    refine ww_callV (κ := 4) (r := (RX3, TX3, 18)) wk_X6_137 dX6_run_87 (htop) rfl rfl (show ww_is _ _ 4 from hi4).1 (show ww_is _ _ 4 from hi4).2 rfl rfl (by omega) (by omega) (by omega) (by first | exact Nat.le_of_ble_eq_true rfl | (simp [ww_rf_cat, Value.category])) rfl (fun E M9 h9 => h9.elim) (fun v9 M9 h9 => ?_)
    obtain ⟨rfl, rfl⟩ := h9
    refine ww_aload (i := 4) dX6_run_90 rfl ?_
    -- at 92, locals [0, 2, 3, 4, 5, 6, 7]
    refine ww_acmp_ne (tgt := 127) (rx := some (P (q_hd (S 5) 5 i))) (ry := some (P t)) rfl rfl dX6_run_92 (by decide) (fun y => ?_) (fun y => ?_)
    · have hne : ¬ q_hd (S 5) 5 i = t := fun e => y (congrArg (fun k => some (P k)) e)
      have hb : ¬ q_bad S t d s i := fun e => hne e.1
      have eo : q_ff (q_bad S t d s) (i + 1) 0 = q_ff (q_bad S t d s) i 0 := by
        cases hq : q_ff (q_bad S t d s) i 0 with
        | none => exact q_ff_sf hq hb
        | some j => exact q_ff_sn hq
      rw [← q_c1_f hne] at h
      have hl := c_run_l hG ht h18 hs kk m (i + 1) M (by omega) hw h hW
      rw [eo] at hl
      refine ww_iinc (i := 6) (v := _ + 1) (lv2 := [(0, _), (2, _), (3, _), (4, _), (5, _), (6, _), (7, _)]) dX6_run_127 rfl (by rfl) (Nat.le_of_ble_eq_true rfl) rfl ?_
      refine ww_goto (tgt := 59) dX6_run_130 (by decide) ?_
      -- at 59, locals [0, 2, 3, 4, 5, 6, 7]
      rw [nI_1]
      exact ww_subk hl ⟨rfl, rfl, rfl, rfl, rfl, rfl, trivial⟩
    · have heq : q_hd (S 5) 5 i = t := h.2.2 _ _ hd ht (Option.some.inj y)
      have hWi : ww_wa W n (q_c1 S t d s i) := by unfold ww_wa; rw [q_c1_k (k := 2) (by decide)]; exact hW
      have e18 : q_c1 S t d s i 18 i = S 18 i := q_if_f (fun y => by omega)
      have hru := p_runs (g := g) h hi d (d * q_fac s)
      generalize ho : (if q_c1 S t d s i 2 i = 3 then some (W i) else none) = o at hru
      have hf2 := ww_pf_run3 (d := d) (s := s) h hWi hi (by rw [e18]; exact h18 i hi) ho.symm
      rw [q_c1_t heq] at hf2
      have hw2 : ww_wo g M0 (ww_run3 M (P i) o d (d * q_fac s)) x pl pe n P := ww_wo_run3 hw
      generalize hM2 : ww_run3 M (P i) o d (d * q_fac s) = M2 at hru hf2 hw2
      have hi42 := (hf2.1 i hi).1.1
      have k173 : ww_I M2 173 (P i) = q_go S i d s 18 i := by
        obtain ⟨_, _, _, _, _, ⟨_, _, _, _, _, k18, _⟩, _⟩ := hf2.1 i hi
        rw [k18]
        exact q_if_t ⟨by omega, heq⟩
      have hl := c_run_l hG ht h18 hs kk m (i + 1) M2 (by omega) hw2 hf2 hW
      refine ww_aload (i := 7) dX6_run_95 rfl ?_
      refine ww_iload_n (i := 2) dX6_run_97 rfl rfl ?_
      refine ww_iload_n (i := 2) dX6_run_98 rfl rfl ?_
      refine ww_iload_n (i := 3) dX6_run_99 rfl rfl ?_
      refine ww_callS wk_X6_175 rfl dX6_run_100 (c_rubbing hs) rfl rfl (by omega) (by omega) (by omega) (by first | exact Nat.le_of_ble_eq_true rfl | (simp [ww_rf_cat, Value.category])) rfl (fun E M9 h9 => h9.elim) (fun v9 M9 h9 => ?_)
      obtain ⟨rfl, rfl⟩ := h9
      refine ww_imul dX6_run_103 ?_
      refine ww_callV (κ := 4) (r := (RX3, TX3, 18)) wk_X6_178 dX6_run_104 (hru) rfl rfl (show ww_is _ _ 4 from hi4).1 (show ww_is _ _ 4 from hi4).2 rfl rfl (by omega) (by omega) (by omega) (by first | exact Nat.le_of_ble_eq_true rfl | (simp [ww_rf_cat, Value.category])) rfl (fun E M9 h9 => h9.elim) (fun v9 M9 h9 => ?_)
      obtain ⟨rfl, rfl⟩ := h9
      -- at 107, locals [0, 2, 3, 4, 5, 6, 7]
      cases hq : q_ff (q_bad S t d s) i 0 with
      | some j =>
        have hj := q_ff_some hq
        rw [q_ff_sn hq] at hl
        have hne : ¬ q_oi (some j) = -1 := by
          show ¬ nI j = -1
          rw [ww_eq, nI_toInt (by omega), show (-1 : Int32).toInt = -1 from rfl]
          omega
        refine ww_iload (i := 5) dX6_run_107 rfl ?_
        refine ww_iconst (v := (-1)) dX6_run_109 (by decide) ?_
        refine ww_icmp_ne_t (tgt := 127) dX6_run_110 (by decide) hne ?_
        refine ww_iinc (i := 6) (v := _ + 1) (lv2 := [(0, _), (2, _), (3, _), (4, _), (5, _), (6, _), (7, _)]) dX6_run_127 rfl (by rfl) (Nat.le_of_ble_eq_true rfl) rfl ?_
        refine ww_goto (tgt := 59) dX6_run_130 (by decide) ?_
        -- at 59, locals [0, 2, 3, 4, 5, 6, 7]
        rw [nI_1]
        exact ww_subk hl ⟨rfl, rfl, rfl, rfl, rfl, rfl, trivial⟩
      | none =>
        by_cases hb : q_go S i d s 18 i < 100
        · rw [q_ff_sf hq (fun e => e.2 hb)] at hl
          refine ww_iload (i := 5) dX6_run_107 rfl ?_
          refine ww_iconst (v := (-1)) dX6_run_109 (by decide) ?_
          refine ww_icmp_ne_f (tgt := 127) dX6_run_110 (by decide) rfl ?_
          refine ww_aload (i := 7) dX6_run_113 rfl ?_
          refine ww_getI (f := 173) wf_X6_181 dX6_run_115 rfl rfl (show ww_is _ _ 4 from hi42).1 (show ww_is _ _ 4 from hi42).2 ?_
          refine ww_bipush (v := 100) dX6_run_118 (by decide) ?_
          refine ww_icmp_lt_t (tgt := 127) dX6_run_120 (by decide) (by rw [k173]; exact hb) ?_
          refine ww_iinc (i := 6) (v := _ + 1) (lv2 := [(0, _), (2, _), (3, _), (4, _), (5, _), (6, _), (7, _)]) dX6_run_127 rfl (by rfl) (Nat.le_of_ble_eq_true rfl) rfl ?_
          refine ww_goto (tgt := 59) dX6_run_130 (by decide) ?_
          -- at 59, locals [0, 2, 3, 4, 5, 6, 7]
          rw [nI_1]
          exact ww_subk hl ⟨rfl, rfl, rfl, rfl, rfl, rfl, trivial⟩
        · rw [q_ff_st hq ⟨heq, hb⟩] at hl
          refine ww_iload (i := 5) dX6_run_107 rfl ?_
          refine ww_iconst (v := (-1)) dX6_run_109 (by decide) ?_
          refine ww_icmp_ne_f (tgt := 127) dX6_run_110 (by decide) rfl ?_
          refine ww_aload (i := 7) dX6_run_113 rfl ?_
          refine ww_getI (f := 173) wf_X6_181 dX6_run_115 rfl rfl (show ww_is _ _ 4 from hi42).1 (show ww_is _ _ 4 from hi42).2 ?_
          refine ww_bipush (v := 100) dX6_run_118 (by decide) ?_
          refine ww_icmp_lt_f (tgt := 127) dX6_run_120 (by decide) (by rw [k173]; exact hb) ?_
          refine ww_iload (i := 6) dX6_run_123 rfl ?_
          refine ww_istore (i := 5) (lv2 := [(0, _), (2, _), (3, _), (4, _), (5, _), (6, _), (7, _)]) dX6_run_125 (Nat.le_of_ble_eq_true rfl) rfl ?_
          refine ww_iinc (i := 6) (v := _ + 1) (lv2 := [(0, _), (2, _), (3, _), (4, _), (5, _), (6, _), (7, _)]) dX6_run_127 rfl (by rfl) (Nat.le_of_ble_eq_true rfl) rfl ?_
          refine ww_goto (tgt := 59) dX6_run_130 (by decide) ?_
          -- at 59, locals [0, 2, 3, 4, 5, 6, 7]
          rw [nI_1]
          exact ww_subk hl ⟨rfl, rfl, rfl, rfl, rfl, rfl, trivial⟩
set_option maxRecDepth 20000 in
theorem c_run_1 (hr : ww_rc g M c ea P W kl f z D E n u w m S) {p : Int32} (d s : Int32) (hc : q_noP n p) : ww_C g wy_X6_run 9 1 6 [.ref (c 0), .int p, .int d, .int s] M ww_nr (ww_th "java/lang/IndexOutOfBoundsException" M) := by
  refine ww_ent (by decide +kernel) (Nat.le_of_ble_eq_true rfl) ⟨rfl, rfl, rfl, rfl, trivial⟩ ?_
  have hw := ww_cp_wo hr.1
  refine ww_aload_n (i := 0) dX6_run_0 rfl rfl ?_
  refine ww_iload_n (i := 1) dX6_run_1 rfl rfl ?_
  refine ww_callV (κ := 7) (r := (RX6, TX6, 4)) wk_X6_160 dX6_run_2 (c_existingTrain_1 hw hc) rfl rfl (show ww_is _ _ 7 from hw.1).1 (show ww_is _ _ 7 from hw.1).2 rfl rfl (by omega) (by omega) (by omega) (by first | exact Nat.le_of_ble_eq_true rfl | (simp [ww_rf_cat, Value.category])) rfl (fun E M9 h9 => h9) (fun v9 M9 h9 => ?_)
  exact h9.elim
  -- at 5, locals [0, 1, 2, 3]
set_option maxRecDepth 20000 in
theorem c_run_2k (hr : ww_rc g M c ea P W kl f z D E n u w m S) {p : Nat} (d s : Int32) (hp : p < n) (hk : ¬ S 2 p = 0) : ww_C g wy_X6_run 9 1 6 [.ref (c 0), .int (nI p), .int d, .int s] M ww_nr (ww_th "java/lang/IllegalArgumentException" M) := by
  refine ww_ent (by decide +kernel) (Nat.le_of_ble_eq_true rfl) ⟨rfl, rfl, rfl, rfl, trivial⟩ ?_
  have hw := ww_cp_wo hr.1
  refine ww_aload_n (i := 0) dX6_run_0 rfl rfl ?_
  refine ww_iload_n (i := 1) dX6_run_1 rfl rfl ?_
  refine ww_callV (κ := 7) (r := (RX6, TX6, 4)) wk_X6_160 dX6_run_2 (c_existingTrain_2 hw hr.1.2.1.1 hp hk) rfl rfl (show ww_is _ _ 7 from hw.1).1 (show ww_is _ _ 7 from hw.1).2 rfl rfl (by omega) (by omega) (by omega) (by first | exact Nat.le_of_ble_eq_true rfl | (simp [ww_rf_cat, Value.category])) rfl (fun E M9 h9 => h9) (fun v9 M9 h9 => ?_)
  exact h9.elim
  -- at 5, locals [0, 1, 2, 3]
set_option maxRecDepth 20000 in
theorem c_run_2 (hr : ww_rc g M c ea P W kl f z D E n u w m S) {p : Nat} (hp : p < n) (hk : S 2 p = 0) (hc : ¬ (q_rg 1 2000 d ∧ q_rg 0 3 s)) : ww_C g wy_X6_run 9 1 6 [.ref (c 0), .int (nI p), .int d, .int s] M ww_nr (ww_th "java/lang/IllegalArgumentException" M) := by
  refine ww_ent (by decide +kernel) (Nat.le_of_ble_eq_true rfl) ⟨rfl, rfl, rfl, rfl, trivial⟩ ?_
  have hw := ww_cp_wo hr.1
  have ht4 := (hr.1.2.1.1.1 p hp).1.1
  refine ww_aload_n (i := 0) dX6_run_0 rfl rfl ?_
  refine ww_iload_n (i := 1) dX6_run_1 rfl rfl ?_
  refine ww_callV (κ := 7) (r := (RX6, TX6, 4)) wk_X6_160 dX6_run_2 (c_existingTrain hw hr.1.2.1.1 hp hk) rfl rfl (show ww_is _ _ 7 from hw.1).1 (show ww_is _ _ 7 from hw.1).2 rfl rfl (by omega) (by omega) (by omega) (by first | exact Nat.le_of_ble_eq_true rfl | (simp [ww_rf_cat, Value.category])) rfl (fun E M9 h9 => h9.elim) (fun v9 M9 h9 => ?_)
  obtain ⟨rfl, rfl⟩ := h9
  first | refine ww_astore (i := 4) (lv2 := [(0, _), (1, _), (2, _), (3, _), (4, _)]) dX6_run_5 (Nat.le_of_ble_eq_true rfl) rfl ?_ | refine ww_astoreQ (i := 4) (lv2 := [(0, _), (1, _), (2, _), (3, _), (4, _)]) dX6_run_5 (Nat.le_of_ble_eq_true rfl) rfl ?_
  refine ww_iload_n (i := 2) dX6_run_7 rfl rfl ?_
  refine ww_iload_n (i := 3) dX6_run_8 rfl rfl ?_
  refine ww_callS wk_X6_163 rfl dX6_run_9 (c_checkRun_x hc) rfl rfl (by omega) (by omega) (by omega) (by first | exact Nat.le_of_ble_eq_true rfl | (simp [ww_rf_cat, Value.category])) rfl (fun E M9 h9 => h9) (fun v9 M9 h9 => ?_)
  exact h9.elim
  -- at 12, locals [0, 1, 2, 3, 4]
set_option maxRecDepth 20000 in
theorem c_run_3 (hr : ww_rc g M c ea P W kl f z D E n u w m S) (hG : q_G S n) {p : Nat} (hp : p < n) (hk : S 2 p = 0) (hc : q_rg 1 2000 d ∧ q_rg 0 3 s) (hrc : ¬ q_runC S p) : ww_C g wy_X6_run 9 1 6 [.ref (c 0), .int (nI p), .int d, .int s] M ww_nr (ww_th "java/lang/IllegalStateException" M) := by
  refine ww_ent (by decide +kernel) (Nat.le_of_ble_eq_true rfl) ⟨rfl, rfl, rfl, rfl, trivial⟩ ?_
  have hw := ww_cp_wo hr.1
  have hf := hr.1.2.1.1
  obtain ⟨⟨ht4, _⟩, _, _, _, _, ⟨_, _, _, _, _, _, _, k11, _⟩, _⟩ := hf.1 p hp
  by_cases c1 : S 11 p = 0
  · refine ww_aload_n (i := 0) dX6_run_0 rfl rfl ?_
    refine ww_iload_n (i := 1) dX6_run_1 rfl rfl ?_
    refine ww_callV (κ := 7) (r := (RX6, TX6, 4)) wk_X6_160 dX6_run_2 (c_existingTrain hw hf hp hk) rfl rfl (show ww_is _ _ 7 from hw.1).1 (show ww_is _ _ 7 from hw.1).2 rfl rfl (by omega) (by omega) (by omega) (by first | exact Nat.le_of_ble_eq_true rfl | (simp [ww_rf_cat, Value.category])) rfl (fun E M9 h9 => h9.elim) (fun v9 M9 h9 => ?_)
    obtain ⟨rfl, rfl⟩ := h9
    first | refine ww_astore (i := 4) (lv2 := [(0, _), (1, _), (2, _), (3, _), (4, _)]) dX6_run_5 (Nat.le_of_ble_eq_true rfl) rfl ?_ | refine ww_astoreQ (i := 4) (lv2 := [(0, _), (1, _), (2, _), (3, _), (4, _)]) dX6_run_5 (Nat.le_of_ble_eq_true rfl) rfl ?_
    refine ww_iload_n (i := 2) dX6_run_7 rfl rfl ?_
    refine ww_iload_n (i := 3) dX6_run_8 rfl rfl ?_
    refine ww_callS wk_X6_163 rfl dX6_run_9 (c_checkRun hc.1 hc.2) rfl rfl (by omega) (by omega) (by omega) (by first | exact Nat.le_of_ble_eq_true rfl | (simp [ww_rf_cat, Value.category])) rfl (fun E M9 h9 => h9.elim) (fun v9 M9 h9 => ?_)
    obtain ⟨rfl, rfl⟩ := h9
    refine ww_aload (i := 4) dX6_run_12 rfl ?_
    refine ww_getI (f := 175) wf_X6_141 dX6_run_14 rfl rfl (show ww_is _ _ 4 from ht4).1 (show ww_is _ _ 4 from ht4).2 ?_
    refine ww_if_eq_t (tgt := 28) dX6_run_17 (by decide) (k11.trans c1) ?_
    exact ww_throw wx_X6_56_166 dX6_run_28 dX6_run_31 dX6_run_32 dX6_run_34 dX6_run_37 rfl (Nat.le_of_ble_eq_true rfl) (by omega) (by omega) (by first | exact Nat.le_of_ble_eq_true rfl | (simp [ww_rf_cat, Value.category])) ⟨rfl, rfl⟩
  · have c2 : q_bound S p := Classical.not_not.mp fun y => hrc ⟨c1, y⟩
    refine ww_aload_n (i := 0) dX6_run_0 rfl rfl ?_
    refine ww_iload_n (i := 1) dX6_run_1 rfl rfl ?_
    refine ww_callV (κ := 7) (r := (RX6, TX6, 4)) wk_X6_160 dX6_run_2 (c_existingTrain hw hf hp hk) rfl rfl (show ww_is _ _ 7 from hw.1).1 (show ww_is _ _ 7 from hw.1).2 rfl rfl (by omega) (by omega) (by omega) (by first | exact Nat.le_of_ble_eq_true rfl | (simp [ww_rf_cat, Value.category])) rfl (fun E M9 h9 => h9.elim) (fun v9 M9 h9 => ?_)
    obtain ⟨rfl, rfl⟩ := h9
    first | refine ww_astore (i := 4) (lv2 := [(0, _), (1, _), (2, _), (3, _), (4, _)]) dX6_run_5 (Nat.le_of_ble_eq_true rfl) rfl ?_ | refine ww_astoreQ (i := 4) (lv2 := [(0, _), (1, _), (2, _), (3, _), (4, _)]) dX6_run_5 (Nat.le_of_ble_eq_true rfl) rfl ?_
    refine ww_iload_n (i := 2) dX6_run_7 rfl rfl ?_
    refine ww_iload_n (i := 3) dX6_run_8 rfl rfl ?_
    refine ww_callS wk_X6_163 rfl dX6_run_9 (c_checkRun hc.1 hc.2) rfl rfl (by omega) (by omega) (by omega) (by first | exact Nat.le_of_ble_eq_true rfl | (simp [ww_rf_cat, Value.category])) rfl (fun E M9 h9 => h9.elim) (fun v9 M9 h9 => ?_)
    obtain ⟨rfl, rfl⟩ := h9
    refine ww_aload (i := 4) dX6_run_12 rfl ?_
    refine ww_getI (f := 175) wf_X6_141 dX6_run_14 rfl rfl (show ww_is _ _ 4 from ht4).1 (show ww_is _ _ 4 from ht4).2 ?_
    refine ww_if_eq_f (tgt := 28) dX6_run_17 (by decide) (by rw [k11]; exact c1) ?_
    refine ww_aload (i := 4) dX6_run_20 rfl ?_
    refine ww_callV (κ := 4) (r := (RX3, TX3, 18)) wk_X6_109 dX6_run_22 (p_bound_t hf hG hp c2) rfl rfl (show ww_is _ _ 4 from ht4).1 (show ww_is _ _ 4 from ht4).2 rfl rfl (by omega) (by omega) (by omega) (by first | exact Nat.le_of_ble_eq_true rfl | (simp [ww_rf_cat, Value.category])) rfl (fun E M9 h9 => h9.elim) (fun v9 M9 h9 => ?_)
    obtain ⟨rfl, rfl⟩ := h9
    refine ww_if_eq_f (tgt := 38) dX6_run_25 (by decide) (by decide) ?_
    exact ww_throw wx_X6_56_166 dX6_run_28 dX6_run_31 dX6_run_32 dX6_run_34 dX6_run_37 rfl (Nat.le_of_ble_eq_true rfl) (by omega) (by omega) (by first | exact Nat.le_of_ble_eq_true rfl | (simp [ww_rf_cat, Value.category])) ⟨rfl, rfl⟩
theorem q_oi_n {o : Option Nat} {j : Nat} (h : o = some j) (hj : j < 60) : ¬ q_oi o = -1 := by
  rw [h]
  show ¬ nI j = -1
  rw [ww_eq, nI_toInt (by omega), show (-1 : Int32).toInt = -1 from rfl]
  omega
set_option maxRecDepth 20000 in
set_option maxHeartbeats 8000000 in
theorem c_run_0 (hr : ww_rc g M c ea P W kl f z D E n u w m S) (hG : q_G S n) (h5 : u < 512) (h18 : ∀ i, i < n → 0 ≤ S 18 i) {p : Nat} (hp : p < n) (hk : S 2 p = 0) (hc : q_rg 1 2000 d ∧ q_rg 0 3 s) (hrc : q_runC S p) : ww_C g wy_X6_run 10 2 1037 [.ref (c 0), .int (nI p), .int d, .int s] M (ww_lQ g M c P W kl z D (q_eS E u (nI p) (-1) d) n (u + 1) w m (some (.int (q_oi (q_ff (q_bad (ww_u2 (q_us S 0 0) 11 p 0) p d s) n 0)))) (q_run (ww_u2 (q_us S 0 0) 11 p 0) n p d s)) ww_no := by
  refine ww_ent (by decide +kernel) (Nat.le_of_ble_eq_true rfl) ⟨rfl, rfl, rfl, rfl, trivial⟩ ?_
  have hw := ww_cp_wo hr.1
  have hf := hr.1.2.1.1
  have h6 := hG.2.1
  obtain ⟨⟨ht4, _⟩, _, _, _, _, ⟨_, _, _, _, _, _, _, k11, _⟩, _⟩ := hf.1 p hp
  have hkp : ww_kp M (ww_sI M 175 (P p) 0) := ww_kp_I ww_kp_rf (by decide)
  obtain ⟨hr1, hck1⟩ := ww_kp_rc hr hkp (ww_pf_175 (v := 0) hf hp) rfl rfl
  have hr1 : ww_rc g (ww_sI M 175 (P p) 0) c ea P W kl f z D E n u w m (ww_u2 (q_us S 0 0) 11 p 0) := ww_rc_us hr1 (fun k hk => ww_u2_k (q_us_use hk rfl))
  have hR282 : ww_R (ww_sI M 175 (P p) 0) 282 (c 0) = some (c 5) := hr1.2.1.1
  have hlg := hr1.2.1.2.1
  have hx1 : ww_is (ww_sI M 175 (P p) 0).1 (c 0) 7 := hr1.1.1.1
  refine ww_aload_n (i := 0) dX6_run_0 rfl rfl ?_
  refine ww_iload_n (i := 1) dX6_run_1 rfl rfl ?_
  refine ww_callV (κ := 7) (r := (RX6, TX6, 4)) wk_X6_160 dX6_run_2 (c_existingTrain hw hf hp hk) rfl rfl (show ww_is _ _ 7 from hw.1).1 (show ww_is _ _ 7 from hw.1).2 rfl rfl (by omega) (by omega) (by omega) (by first | exact Nat.le_of_ble_eq_true rfl | (simp [ww_rf_cat, Value.category])) rfl (fun E M9 h9 => h9.elim) (fun v9 M9 h9 => ?_)
  obtain ⟨rfl, rfl⟩ := h9
  first | refine ww_astore (i := 4) (lv2 := [(0, _), (1, _), (2, _), (3, _), (4, _)]) dX6_run_5 (Nat.le_of_ble_eq_true rfl) rfl ?_ | refine ww_astoreQ (i := 4) (lv2 := [(0, _), (1, _), (2, _), (3, _), (4, _)]) dX6_run_5 (Nat.le_of_ble_eq_true rfl) rfl ?_
  refine ww_iload_n (i := 2) dX6_run_7 rfl rfl ?_
  refine ww_iload_n (i := 3) dX6_run_8 rfl rfl ?_
  refine ww_callS wk_X6_163 rfl dX6_run_9 (c_checkRun hc.1 hc.2) rfl rfl (by omega) (by omega) (by omega) (by first | exact Nat.le_of_ble_eq_true rfl | (simp [ww_rf_cat, Value.category])) rfl (fun E M9 h9 => h9.elim) (fun v9 M9 h9 => ?_)
  obtain ⟨rfl, rfl⟩ := h9
  refine ww_aload (i := 4) dX6_run_12 rfl ?_
  refine ww_getI (f := 175) wf_X6_141 dX6_run_14 rfl rfl (show ww_is _ _ 4 from ht4).1 (show ww_is _ _ 4 from ht4).2 ?_
  refine ww_if_eq_f (tgt := 28) dX6_run_17 (by decide) (by rw [k11]; exact hrc.1) ?_
  refine ww_aload (i := 4) dX6_run_20 rfl ?_
  refine ww_callV (κ := 4) (r := (RX3, TX3, 18)) wk_X6_109 dX6_run_22 (p_bound_f hf hG hp hrc.2) rfl rfl (show ww_is _ _ 4 from ht4).1 (show ww_is _ _ 4 from ht4).2 rfl rfl (by omega) (by omega) (by omega) (by first | exact Nat.le_of_ble_eq_true rfl | (simp [ww_rf_cat, Value.category])) rfl (fun E M9 h9 => h9.elim) (fun v9 M9 h9 => ?_)
  obtain ⟨rfl, rfl⟩ := h9
  refine ww_if_eq_t (tgt := 38) dX6_run_25 (by decide) (by decide) ?_
  refine ww_aload (i := 4) dX6_run_38 rfl ?_
  refine ww_iconst (v := 0) dX6_run_40 (by decide) ?_
  refine ww_putI (f := 175) wf_X6_141 wt_4_15 dX6_run_41 rfl rfl (show ww_is _ _ 4 from ht4).1 (show ww_is _ _ 4 from ht4).2 (by first | rfl | exact ww_b_nar) (by first | rfl | exact ww_b_fit) ?_
  -- at 44, locals [0, 1, 2, 3, 4]
  refine ww_aload_n (i := 0) dX6_run_44 rfl rfl ?_
  refine ww_getR (f := 282) wf_X6_25 dX6_run_45 rfl rfl (show ww_is _ _ 7 from hx1).1 (show ww_is _ _ 7 from hx1).2 hR282 ?_
  refine ww_iload_n (i := 1) dX6_run_48 rfl rfl ?_
  refine ww_iload_n (i := 2) dX6_run_49 rfl rfl ?_
  refine ww_callV (κ := 3) (r := (RX2, TX2, 2)) wk_X6_168 dX6_run_50 (c_addRun hr1.2.1.2 h5 (nI p) d) rfl rfl (show ww_is _ _ 3 from hlg).1 (show ww_is _ _ 3 from hlg).2 rfl rfl (by omega) (by omega) (by omega) (by first | exact Nat.le_of_ble_eq_true rfl | (simp [ww_rf_cat, Value.category])) rfl (fun E M9 h9 => h9.elim) (fun v9 M9 h9 => ?_)
  skip
  -- at 53, locals [0, 1, 2, 3, 4]
  refine ww_geL (fun hge => ?_)
  obtain ⟨ea', f', hr2, hck2, _⟩ := ww_rc_log hr1 h9 hge
  obtain ⟨rfl, _⟩ := h9
  have hG1 : q_G (ww_u2 (q_us S 0 0) 11 p 0) n := q_G_b (q_G_c hG) (Or.inl rfl) (by decide)
  have hw2 := ww_cp_wo hr2.1
  have hf2 := hr2.1.2.1.1
  generalize hSS : ww_u2 (q_us S 0 0) 11 p 0 = T at *
  have hT18 : ∀ i, i < n → 0 ≤ T 18 i := by rw [← hSS]; exact h18
  have hl := c_run_l (g := g) (M0 := M9) (x := c 0) (pl := c 1) (pe := ea' 0) (P := P) (W := W) (kl := kl) (Q := ww_lQ g M c P W kl z D (q_eS E u (nI p) (-1) d) n (u + 1) w m (some (.int (q_oi (q_ff (q_bad T p d s) n 0)))) (q_run T n p d s)) (X := ww_no) (d := d) (s := s) hG1 hp hT18 hc.2 ?_ n 0 M9 (by omega) hw2 (by rw [q_c1_0]; exact hf2) hr2.1.2.1.2
  · rw [show q_oi (q_ff (q_bad T p d s) 0 0) = -1 from rfl, nI_0] at hl
    refine ww_iconst (v := (-1)) dX6_run_53 (by decide) ?_
    refine ww_istore (i := 5) (lv2 := [(0, _), (1, _), (2, _), (3, _), (4, _), (5, _)]) dX6_run_54 (Nat.le_of_ble_eq_true rfl) rfl ?_
    refine ww_iconst (v := 0) dX6_run_56 (by decide) ?_
    refine ww_istore (i := 6) (lv2 := [(0, _), (1, _), (2, _), (3, _), (4, _), (5, _), (6, _)]) dX6_run_57 (Nat.le_of_ble_eq_true rfl) rfl ?_
    -- at 59, locals [0, 1, 2, 3, 4, 5, 6]
    refine ww_less (Nat.zero_le _) (Nat.zero_le _) (ww_dd (d2 := 6) (by decide) ?_)
    exact ww_subk hl ⟨rfl, rfl, rfl, rfl, rfl, rfl, trivial⟩
  · intro M' hw' hf'
    have hq := q_c1_n (S := T) (t := p) (n := n) (d := d) (s := s)
    cases hq2 : q_ff (q_bad T p d s) n 0 with
    | none =>
      have er : q_run T n p d s = q_c1 T p d s n := by unfold q_run; rw [hq2, hq]
      obtain ⟨hr3, hck3⟩ := ww_kp_rc hr2 hw'.2.2.2.2 hf' (q_c1_k (by decide)) (q_c1_k (by decide))
      rw [er]
      refine ww_iload (i := 5) dX6_run_133 rfl ?_
      refine ww_iconst (v := (-1)) dX6_run_135 (by decide) ?_
      refine ww_icmp_eq_t (tgt := 145) dX6_run_136 (by decide) rfl ?_
      refine ww_iload (i := 5) dX6_run_145 rfl ?_
      exact ww_ireturn dX6_run_147 rfl (by first | rfl | exact ww_b_nar) ⟨rfl, ea', f', hr3, ww_ck_tr (ww_ck_tr hck1 hck2) hck3⟩
    | some j =>
      have hj := q_ff_some hq2
      have er : q_run T n p d s = q_r2 (q_c1 T p d s n) p n := by unfold q_run; rw [hq2, hq]
      have hqt := c_quarantine (g := g) hw' hf' (q_G_c1 hG1) hp
      rw [er]
      refine ww_iload (i := 5) dX6_run_133 rfl ?_
      refine ww_iconst (v := (-1)) dX6_run_135 (by decide) ?_
      refine ww_icmp_eq_f (tgt := 145) dX6_run_136 (by decide) (q_oi_n (j := j) rfl (by omega)) ?_
      refine ww_aload_n (i := 0) dX6_run_139 rfl rfl ?_
      refine ww_aload (i := 4) dX6_run_140 rfl ?_
      refine ww_callV (κ := 7) (r := (RX6, TX6, 4)) wk_X6_184 dX6_run_142 (hqt) rfl rfl (show ww_is _ _ 7 from hw'.1).1 (show ww_is _ _ 7 from hw'.1).2 rfl rfl (by omega) (by omega) (by omega) (by first | exact Nat.le_of_ble_eq_true rfl | (simp [ww_rf_cat, Value.category])) rfl (fun E M9 h9 => h9.elim) (fun v9 M9 h9 => ?_)
      obtain ⟨rfl, hw9, hf9⟩ := h9
      -- at 145, locals [0, 2, 3, 4, 5]
      obtain ⟨hr3, hck3⟩ := ww_kp_rc hr2 hw9.2.2.2.2 hf9 ((q_r2_k (by decide)).trans (q_c1_k (by decide))) ((q_r2_k (by decide)).trans (q_c1_k (by decide)))
      refine ww_iload (i := 5) dX6_run_145 rfl ?_
      exact ww_ireturn dX6_run_147 rfl (by first | rfl | exact ww_b_nar) ⟨rfl, ea', f', hr3, ww_ck_tr (ww_ck_tr hck1 hck2) hck3⟩
end WWA7
