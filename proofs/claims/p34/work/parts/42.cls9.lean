/-! ===== the yard: fewest moves, makePlan ===== -/
def q_fm1 (rec : Nat → Nat) (bl : Nat → Nat) (i v r : Nat) (s : Nat) : Nat := if 4 ≤ q_pop (q_tr v r) then s else (if q_pop (q_tr v r &&& bl i) + rec (v ||| 2 ^ (8 * r + i)) < s then q_pop (q_tr v r &&& bl i) + rec (v ||| 2 ^ (8 * r + i)) else s)
def q_fmr (rec : Nat → Nat) (bl : Nat → Nat) (i v : Nat) : Nat → Nat → Nat
  | 0, s => s
  | k + 1, s => q_fmr rec bl i v k (q_fm1 rec bl i v (2 - k) s)
def q_fm (bl : Nat → Nat) : Nat → Nat → Nat → Nat
  | 0, _, _ => 0
  | m + 1, i, v => q_fmr (fun v' => q_fm bl m (i + 1) v') bl i v 3 1000
theorem q_fm1_le {rec : Nat → Nat} {bl : Nat → Nat} {i v r s : Nat} (h : s ≤ 1000) : q_fm1 rec bl i v r s ≤ 1000 := by
  unfold q_fm1
  split
  · exact h
  · split <;> omega
theorem q_fm_le {bl : Nat → Nat} : ∀ (m i v : Nat), q_fm bl m i v ≤ 1000
  | 0, _, _ => by unfold q_fm; omega
  | m + 1, i, v => q_fm1_le (q_fm1_le (q_fm1_le (Nat.le_refl _)))
section WWD1
variable {g : ww_G} {M M1 : ww_M} {a e n w y wl we yb κ : Nat} {f P bl : Nat → Nat} {v : Int32}
set_option maxRecDepth 20000 in
set_option maxHeartbeats 4000000 in
theorem c_fewest (hz : ww_yd g M y wl we yb w f) (hb : ∀ i, i < w → bl i < 256 ∧ ww_X M yb i = nI (bl i)) : ∀ (m i v : Nat), i + m = w → v < 2 ^ 24 → ww_C g wy_X5_fewestMoves (m + 2) 0 0 [.ref y, .int (nI i), .int (nI v)] M (ww_ret (some (.int (nI (q_fm bl m i v)))) M) ww_no
  | 0, i, v, hm, hv => by
    refine ww_ent (by decide +kernel) (Nat.le_of_ble_eq_true rfl) ⟨rfl, rfl, rfl, trivial⟩ ?_
    have h8 := hz.2.2.2.2.2.1
    have e0 : i = w := by omega
    have hsz := l_size (g := g) hz.2.2.2.2.2.2
    refine ww_iload_n (i := 1) dX5_fewestMoves_0 rfl rfl ?_
    refine ww_aload_n (i := 0) dX5_fewestMoves_1 rfl rfl ?_
    refine ww_getR (f := 240) wf_X5_12 dX5_fewestMoves_2 rfl rfl (show ww_is _ _ 6 from hz.1).1 (show ww_is _ _ 6 from hz.1).2 hz.2.1 ?_
    refine ww_callV (κ := 0) (r := (RJx4a65c, TJx4a65c, 3)) wk_X5_25 dX5_fewestMoves_5 (hsz) rfl rfl (show ww_is _ _ 0 from hz.2.2.2.2.2.2.1).1 (show ww_is _ _ 0 from hz.2.2.2.2.2.2.1).2 rfl rfl (by omega) (by omega) (by omega) (by first | exact Nat.le_of_ble_eq_true rfl | (simp [ww_rf_cat, Value.category])) rfl (fun E M9 h9 => h9.elim) (fun v9 M9 h9 => ?_)
    obtain ⟨rfl, rfl⟩ := h9
    refine ww_icmp_ge_t (tgt := 20) dX5_fewestMoves_8 (by decide) (by rw [e0]; exact nI_le (Nat.le_refl _) (by omega)) ?_
    refine ww_iconst (v := 0) dX5_fewestMoves_20 (by decide) ?_
    exact ww_ireturn dX5_fewestMoves_21 rfl (by first | rfl | exact ww_b_nar) ⟨rfl, rfl⟩
  | m + 1, i, v, hm, hv => by
    refine ww_ent (by decide +kernel) (Nat.le_of_ble_eq_true rfl) ⟨rfl, rfl, rfl, trivial⟩ ?_
    have h8 := hz.2.2.2.2.2.1
    have hk9 : ww_K M yb = 9 := hz.2.2.2.1.2
    have loop : ∀ (k : Nat) (s : Nat), k ≤ 3 → s ≤ 1000 → ww_A g wy_X5_fewestMoves (m + 1 + 2) 0 0 M 29 [(0, .ref y), (1, .int (nI i)), (2, .int (nI v)), (3, .int (nI s)), (4, .int (nI (3 - k)))] [] (ww_ret (some (.int (nI (q_fmr (fun v' => q_fm bl m (i + 1) v') bl i v k s)))) M) ww_no := by
      intro k
      induction k with
      | zero =>
        intro s _ k1
        refine ww_iload (i := 4) dX5_fewestMoves_29 rfl ?_
        refine ww_iconst (v := 3) dX5_fewestMoves_31 (by decide) ?_
        refine ww_icmp_ge_t (tgt := 95) dX5_fewestMoves_32 (by decide) (by decide) ?_
        refine ww_iload_n (i := 3) dX5_fewestMoves_95 rfl rfl ?_
        exact ww_ireturn dX5_fewestMoves_96 rfl (by first | rfl | exact ww_b_nar) ⟨rfl, rfl⟩
      | succ k ih =>
        intro s hk k1
        have hp := q_pop_le (q_tr v (3 - (k + 1)) &&& bl i)
        have hp2 := q_pop_le (q_tr v (3 - (k + 1)))
        have ht : q_tr v (3 - (k + 1)) < 256 := Nat.mod_lt _ (by decide)
        have hr : 2 - k = 3 - (k + 1) := by omega
        have hpw : 2 ^ (8 * (3 - (k + 1)) + i) < 2 ^ 24 := Nat.pow_lt_pow_right (by decide) (by omega)
        have htr := c_trainsIn (g := g) (M := M) hv (r := 3 - (k + 1)) (by omega)
        have hbc := j_bitCount (g := g) (M := M) ht
        have hn : nI (3 - (k + 1)) + 1 = nI (3 - k) := by rw [nI_1, show 3 - (k + 1) + 1 = 3 - k by omega]
        have hst : q_fmr (fun v' => q_fm bl m (i + 1) v') bl i v (k + 1) s = q_fmr (fun v' => q_fm bl m (i + 1) v') bl i v k (q_fm1 (fun v' => q_fm bl m (i + 1) v') bl i v (3 - (k + 1)) s) := by rw [← hr]; rfl
        rw [hst]
        by_cases c : 4 ≤ q_pop (q_tr v (3 - (k + 1)))
        · rw [show q_fm1 (fun v' => q_fm bl m (i + 1) v') bl i v (3 - (k + 1)) s = s from if_pos c]
          refine ww_iload (i := 4) dX5_fewestMoves_29 rfl ?_
          refine ww_iconst (v := 3) dX5_fewestMoves_31 (by decide) ?_
          refine ww_icmp_ge_f (tgt := 95) dX5_fewestMoves_32 (by decide) (nI_ge (b := 3) (by omega) (by decide)) ?_
          refine ww_iload_n (i := 2) dX5_fewestMoves_35 rfl rfl ?_
          refine ww_iload (i := 4) dX5_fewestMoves_36 rfl ?_
          refine ww_callS wk_X5_79 rfl dX5_fewestMoves_38 (htr) rfl rfl (by omega) (by omega) (by omega) (by first | exact Nat.le_of_ble_eq_true rfl | (simp [ww_rf_cat, Value.category])) rfl (fun E M9 h9 => h9.elim) (fun v9 M9 h9 => ?_)
          obtain ⟨rfl, rfl⟩ := h9
          refine ww_istore (i := 5) (lv2 := [(0, _), (1, _), (2, _), (3, _), (4, _), (5, _)]) dX5_fewestMoves_41 (Nat.le_of_ble_eq_true rfl) rfl ?_
          refine ww_iload (i := 5) dX5_fewestMoves_43 rfl ?_
          refine ww_callS wk_X5_82 rfl dX5_fewestMoves_45 (hbc) rfl rfl (by omega) (by omega) (by omega) (by first | exact Nat.le_of_ble_eq_true rfl | (simp [ww_rf_cat, Value.category])) rfl (fun E M9 h9 => h9.elim) (fun v9 M9 h9 => ?_)
          obtain ⟨rfl, rfl⟩ := h9
          refine ww_iconst (v := 4) dX5_fewestMoves_48 (by decide) ?_
          refine ww_icmp_ge_t (tgt := 89) dX5_fewestMoves_49 (by decide) (nI_le (a := 4) c (by omega)) ?_
          refine ww_iinc (i := 4) (v := _ + 1) (lv2 := [(0, _), (1, _), (2, _), (3, _), (4, _), (5, _)]) dX5_fewestMoves_89 rfl (by rfl) (Nat.le_of_ble_eq_true rfl) rfl ?_
          refine ww_goto (tgt := 29) dX5_fewestMoves_92 (by decide) ?_
          -- at 29, locals [0, 1, 2, 3, 4, 5]
          rw [hn]
          exact ww_subk (ih s (by omega) k1) ⟨rfl, rfl, rfl, rfl, rfl, trivial⟩
        · obtain ⟨hbi, hbX⟩ := hb i (by omega)
          have hbit := c_bitOf (g := g) (M := M) (r := 3 - (k + 1)) (i := i) (by omega) (by omega)
          have hvv : v ||| 2 ^ (8 * (3 - (k + 1)) + i) < 2 ^ 24 := Nat.or_lt_two_pow hv hpw
          have hbc2 := j_bitCount (g := g) (M := M) (i := q_tr v (3 - (k + 1)) &&& bl i) (Nat.lt_of_le_of_lt Nat.and_le_left ht)
          have hfl := q_fm_le (bl := bl) m (i + 1) (v ||| 2 ^ (8 * (3 - (k + 1)) + i))
          have hrec := c_fewest hz hb m (i + 1) (v ||| 2 ^ (8 * (3 - (k + 1)) + i)) (by omega) hvv
          have hmin : (if nI (q_pop (q_tr v (3 - (k + 1)) &&& bl i) + q_fm bl m (i + 1) (v ||| 2 ^ (8 * (3 - (k + 1)) + i))) < nI s then nI (q_pop (q_tr v (3 - (k + 1)) &&& bl i) + q_fm bl m (i + 1) (v ||| 2 ^ (8 * (3 - (k + 1)) + i))) else nI s) = nI (q_fm1 (fun v' => q_fm bl m (i + 1) v') bl i v (3 - (k + 1)) s) := by
            unfold q_fm1
            rw [if_neg c]
            by_cases c2 : q_pop (q_tr v (3 - (k + 1)) &&& bl i) + q_fm bl m (i + 1) (v ||| 2 ^ (8 * (3 - (k + 1)) + i)) < s
            · rw [if_pos (nI_lt c2 (by omega)), if_pos c2]
            · rw [if_neg (nI_nlt (by omega) (by omega)), if_neg c2]
          refine ww_iload (i := 4) dX5_fewestMoves_29 rfl ?_
          refine ww_iconst (v := 3) dX5_fewestMoves_31 (by decide) ?_
          refine ww_icmp_ge_f (tgt := 95) dX5_fewestMoves_32 (by decide) (nI_ge (b := 3) (by omega) (by decide)) ?_
          refine ww_iload_n (i := 2) dX5_fewestMoves_35 rfl rfl ?_
          refine ww_iload (i := 4) dX5_fewestMoves_36 rfl ?_
          refine ww_callS wk_X5_79 rfl dX5_fewestMoves_38 (htr) rfl rfl (by omega) (by omega) (by omega) (by first | exact Nat.le_of_ble_eq_true rfl | (simp [ww_rf_cat, Value.category])) rfl (fun E M9 h9 => h9.elim) (fun v9 M9 h9 => ?_)
          obtain ⟨rfl, rfl⟩ := h9
          refine ww_istore (i := 5) (lv2 := [(0, _), (1, _), (2, _), (3, _), (4, _), (5, _)]) dX5_fewestMoves_41 (Nat.le_of_ble_eq_true rfl) rfl ?_
          refine ww_iload (i := 5) dX5_fewestMoves_43 rfl ?_
          refine ww_callS wk_X5_82 rfl dX5_fewestMoves_45 (hbc) rfl rfl (by omega) (by omega) (by omega) (by first | exact Nat.le_of_ble_eq_true rfl | (simp [ww_rf_cat, Value.category])) rfl (fun E M9 h9 => h9.elim) (fun v9 M9 h9 => ?_)
          obtain ⟨rfl, rfl⟩ := h9
          refine ww_iconst (v := 4) dX5_fewestMoves_48 (by decide) ?_
          refine ww_icmp_ge_f (tgt := 89) dX5_fewestMoves_49 (by decide) (nI_ge (b := 4) (by omega) (by decide)) ?_
          refine ww_iload (i := 5) dX5_fewestMoves_52 rfl ?_
          refine ww_aload_n (i := 0) dX5_fewestMoves_54 rfl rfl ?_
          refine ww_getR (f := 242) wf_X5_21 dX5_fewestMoves_55 rfl rfl (show ww_is _ _ 6 from hz.1).1 (show ww_is _ _ 6 from hz.1).2 hz.2.2.1 ?_
          refine ww_iload_n (i := 1) dX5_fewestMoves_58 rfl rfl ?_
          -- at 59, locals [0, 1, 2, 3, 4, 5]
          refine ww_iald dX5_fewestMoves_59 hz.2.2.2.1.1 hz.2.2.2.1.2 rfl (show i < ww_N M yb by rw [hz.2.2.2.2.1]; omega) (show ww_N M yb < 2 ^ 31 by rw [hz.2.2.2.2.1]; decide) ?_
          rw [hbX]
          refine ww_iand dX5_fewestMoves_60 ?_
          rw [q_and (by omega) (by omega)]
          refine ww_callS wk_X5_82 rfl dX5_fewestMoves_61 (hbc2) rfl rfl (by omega) (by omega) (by omega) (by first | exact Nat.le_of_ble_eq_true rfl | (simp [ww_rf_cat, Value.category])) rfl (fun E M9 h9 => h9.elim) (fun v9 M9 h9 => ?_)
          obtain ⟨rfl, rfl⟩ := h9
          refine ww_aload_n (i := 0) dX5_fewestMoves_64 rfl rfl ?_
          refine ww_iload_n (i := 1) dX5_fewestMoves_65 rfl rfl ?_
          refine ww_iconst (v := 1) dX5_fewestMoves_66 (by decide) ?_
          refine ww_iadd dX5_fewestMoves_67 ?_
          refine ww_iload_n (i := 2) dX5_fewestMoves_68 rfl rfl ?_
          refine ww_iload (i := 4) dX5_fewestMoves_69 rfl ?_
          refine ww_iload_n (i := 1) dX5_fewestMoves_71 rfl rfl ?_
          refine ww_callS wk_X5_88 rfl dX5_fewestMoves_72 (hbit) rfl rfl (by omega) (by omega) (by omega) (by first | exact Nat.le_of_ble_eq_true rfl | (simp [ww_rf_cat, Value.category])) rfl (fun E M9 h9 => h9.elim) (fun v9 M9 h9 => ?_)
          obtain ⟨rfl, rfl⟩ := h9
          -- at 75, locals [0, 1, 2, 3, 4, 5]
          refine ww_ior dX5_fewestMoves_75 ?_
          rw [q_or (by omega) (by omega), nI_1]
          refine ww_callS wk_X5_49 rfl dX5_fewestMoves_76 (hrec) rfl rfl (by omega) (by omega) (by omega) (by first | exact Nat.le_of_ble_eq_true rfl | (simp [ww_rf_cat, Value.category])) rfl (fun E M9 h9 => h9.elim) (fun v9 M9 h9 => ?_)
          obtain ⟨rfl, rfl⟩ := h9
          -- at 79, locals [0, 1, 2, 3, 4, 5]
          refine ww_iadd dX5_fewestMoves_79 ?_
          rw [nI_add]
          refine ww_istore (i := 6) (lv2 := [(0, _), (1, _), (2, _), (3, _), (4, _), (5, _), (6, _)]) dX5_fewestMoves_80 (Nat.le_of_ble_eq_true rfl) rfl ?_
          refine ww_iload_n (i := 3) dX5_fewestMoves_82 rfl rfl ?_
          refine ww_iload (i := 6) dX5_fewestMoves_83 rfl ?_
          refine ww_mmin wk_X5_91 dX5_fewestMoves_85 (by omega) (by first | exact Nat.le_of_ble_eq_true rfl | (simp [ww_rf_cat, Value.category])) ?_
          -- at 88, locals [0, 1, 2, 3, 4, 5, 6]
          rw [hmin]
          refine ww_istore_n (i := 3) (lv2 := [(0, _), (1, _), (2, _), (3, _), (4, _), (5, _), (6, _)]) dX5_fewestMoves_88 rfl (Nat.le_of_ble_eq_true rfl) rfl ?_
          refine ww_iinc (i := 4) (v := _ + 1) (lv2 := [(0, _), (1, _), (2, _), (3, _), (4, _), (5, _), (6, _)]) dX5_fewestMoves_89 rfl (by rfl) (Nat.le_of_ble_eq_true rfl) rfl ?_
          refine ww_goto (tgt := 29) dX5_fewestMoves_92 (by decide) ?_
          -- at 29, locals [0, 1, 2, 3, 4, 5, 6]
          rw [hn]
          exact ww_subk (ih _ (by omega) (q_fm1_le k1)) ⟨rfl, rfl, rfl, rfl, rfl, trivial⟩
    have hsz := l_size (g := g) hz.2.2.2.2.2.2
    have hl := loop 3 1000 (by omega) (Nat.le_refl _)
    refine ww_iload_n (i := 1) dX5_fewestMoves_0 rfl rfl ?_
    refine ww_aload_n (i := 0) dX5_fewestMoves_1 rfl rfl ?_
    refine ww_getR (f := 240) wf_X5_12 dX5_fewestMoves_2 rfl rfl (show ww_is _ _ 6 from hz.1).1 (show ww_is _ _ 6 from hz.1).2 hz.2.1 ?_
    refine ww_callV (κ := 0) (r := (RJx4a65c, TJx4a65c, 3)) wk_X5_25 dX5_fewestMoves_5 (hsz) rfl rfl (show ww_is _ _ 0 from hz.2.2.2.2.2.2.1).1 (show ww_is _ _ 0 from hz.2.2.2.2.2.2.1).2 rfl rfl (by omega) (by omega) (by omega) (by first | exact Nat.le_of_ble_eq_true rfl | (simp [ww_rf_cat, Value.category])) rfl (fun E M9 h9 => h9.elim) (fun v9 M9 h9 => ?_)
    obtain ⟨rfl, rfl⟩ := h9
    refine ww_icmp_ge_f (tgt := 20) dX5_fewestMoves_8 (by decide) (nI_ge (by omega) (by omega)) ?_
    refine ww_iload_n (i := 1) dX5_fewestMoves_11 rfl rfl ?_
    refine ww_aload_n (i := 0) dX5_fewestMoves_12 rfl rfl ?_
    refine ww_getR (f := 242) wf_X5_21 dX5_fewestMoves_13 rfl rfl (show ww_is _ _ 6 from hz.1).1 (show ww_is _ _ 6 from hz.1).2 hz.2.2.1 ?_
    -- at 16, locals [0, 1, 2]
    refine ww_alen dX5_fewestMoves_16 hz.2.2.2.1.1 (show 9 ≤ ww_K M yb by rw [hk9]; decide) (show ww_K M yb < 14 by rw [hk9]; decide) ?_
    rw [hz.2.2.2.2.1]
    refine ww_icmp_lt_t (tgt := 22) dX5_fewestMoves_17 (by decide) (nI_lt (by omega) (by decide)) ?_
    refine ww_sipush (v := 1000) dX5_fewestMoves_22 (by decide) ?_
    refine ww_istore_n (i := 3) (lv2 := [(0, _), (1, _), (2, _), (3, _)]) dX5_fewestMoves_25 rfl (Nat.le_of_ble_eq_true rfl) rfl ?_
    refine ww_iconst (v := 0) dX5_fewestMoves_26 (by decide) ?_
    refine ww_istore (i := 4) (lv2 := [(0, _), (1, _), (2, _), (3, _), (4, _)]) dX5_fewestMoves_27 (Nat.le_of_ble_eq_true rfl) rfl ?_
    -- at 29, locals [0, 1, 2, 3, 4]
    exact hl
end WWD1
