theorem ww_u2_cm {α : Type} {S : Nat → Nat → α} {k i k' i' : Nat} {v v' : α} (h : ¬ (k = k' ∧ i = i')) : ww_u2 (ww_u2 S k i v) k' i' v' = ww_u2 (ww_u2 S k' i' v') k i v := by
  funext b j
  unfold ww_u2
  by_cases h1 : b = k' ∧ j = i'
  · rw [if_pos h1, if_pos h1, if_neg (fun z => h ⟨z.1.symm.trans h1.1, z.2.symm.trans h1.2⟩)]
  · rw [if_neg h1, if_neg h1]
def q_wi (ho : Nat → Int32) (b : Nat) : Nat → Int32 → Prop
  | 0, _ => False
  | m + 1, v => ¬ v < 0 ∧ (v = nI b ∨ q_wi ho b m (ho v.toNatClampNeg))
theorem q_wi_n {ho : Nat → Int32} {b m : Nat} {v : Int32} (h : v < 0) : ¬ q_wi ho b m v := by
  cases m with
  | zero => exact id
  | succ m => exact fun z => z.1 h
theorem q_wi_s {ho : Nat → Int32} {b m j : Nat} (hj : j < 2 ^ 31) (h : ¬ nI j = nI b) : q_wi ho b (m + 1) (nI j) ↔ q_wi ho b m (ho j) := by
  show (¬ nI j < 0 ∧ (nI j = nI b ∨ q_wi ho b m (ho (nI j).toNatClampNeg))) ↔ _
  rw [nI_clamp hj]
  exact ⟨fun z => z.2.resolve_left h, fun z => ⟨nI_pos hj, Or.inr z⟩⟩
theorem ww_sI_f {M : ww_M} {f f' a b : Nat} {v : Int32} (h : f' ≠ f) : ww_I (ww_sI M f a v) f' b = ww_I M f' b := (show ww_u2 (ww_I M) f a v f' b = ww_I M f' b from ww_u2n (fun z => h z.1))
theorem ww_sI_a {M : ww_M} {f f' a b : Nat} {v : Int32} (h : b ≠ a) : ww_I (ww_sI M f a v) f' b = ww_I M f' b := (show ww_u2 (ww_I M) f a v f' b = ww_I M f' b from ww_u2n (fun z => h z.2))
theorem ww_sI_s {M : ww_M} {f a : Nat} {v : Int32} : ww_I (ww_sI M f a v) f a = v := (show ww_u2 (ww_I M) f a v f a = v from ww_u2s)
section WWC4
variable {g : ww_G} {M M1 : ww_M} {a b n : Nat} {P : Nat → Nat} {kd ho : Nat → Int32}
def ww_rq (P : Nat → Nat) (v : Int32) : Value := if v < 0 then .null else .ref (P v.toNatClampNeg)
theorem ww_rq_0 {v : Int32} (h : v < 0) : ww_rq P v = .null := if_pos h
theorem ww_rq_1 {j : Nat} (h : j < 2 ^ 31) : ww_rq P (nI j) = .ref (P j) := by
  unfold ww_rq
  rw [if_neg (nI_pos h), nI_clamp h]
set_option maxRecDepth 20000 in
theorem c_isWithin_l (hh : ww_hs M P n ho) (hg : q_gh n kd ho) (h6 : n ≤ 60) (hP : ∀ i j, i < n → j < n → P i = P j → i = j) (hb : b < n) : ∀ (m k : Nat) (v : Int32), k + m = 5 → (v < 0 ∨ ∃ j, j < n ∧ v = nI j) → ww_A g wy_X3_isWithin 1 0 0 M 7 [(0, .ref a), (1, .ref (P b)), (2, ww_rq P v), (3, .int (nI k))] [] (ww_ret (some (.int (ww_b (q_wi ho b m v)))) M) ww_no
  | 0, k, v, hm, hv => by
    have e : k = 5 := by omega
    subst e
    rw [ww_b_f (P := q_wi ho b 0 v) id]
    refine ww_iload_n (i := 3) dX3_isWithin_7 rfl rfl ?_
    refine ww_iconst (v := 4) dX3_isWithin_8 (by decide) ?_
    refine ww_icmp_gt_t (tgt := 34) dX3_isWithin_9 (by decide) (by decide) ?_
    refine ww_iconst (v := 0) dX3_isWithin_34 (by decide) ?_
    exact ww_ireturn dX3_isWithin_35 rfl (by first | rfl | exact ww_b_nar) ⟨rfl, rfl⟩
  | m + 1, k, v, hm, hv => by
    have hk : ¬ (4 : Int32) < nI k := nI_nlt (b := k) (a := 4) (by omega) (by decide)
    rcases hv with h1 | ⟨j, hj, rfl⟩
    · rw [ww_rq_0 h1, ww_b_f (q_wi_n h1)]
      refine ww_iload_n (i := 3) dX3_isWithin_7 rfl rfl ?_
      refine ww_iconst (v := 4) dX3_isWithin_8 (by decide) ?_
      refine ww_icmp_gt_f (tgt := 34) dX3_isWithin_9 (by decide) hk ?_
      -- at 12, locals [0, 1, 2, 3]
      refine ww_aload_nQ (i := 2) (r := none) dX3_isWithin_12 rfl rfl ?_
      refine ww_ifnull_t (tgt := 34) dX3_isWithin_13 (by decide) ?_
      refine ww_iconst (v := 0) dX3_isWithin_34 (by decide) ?_
      exact ww_ireturn dX3_isWithin_35 rfl (by first | rfl | exact ww_b_nar) ⟨rfl, rfl⟩
    · have ha := (hh j hj).1
      rw [ww_rq_1 (by omega)]
      by_cases h2 : j = b
      · subst h2
        rw [ww_b_t (P := q_wi ho j (m + 1) (nI j)) ⟨nI_pos (by omega), Or.inl rfl⟩]
        refine ww_iload_n (i := 3) dX3_isWithin_7 rfl rfl ?_
        refine ww_iconst (v := 4) dX3_isWithin_8 (by decide) ?_
        refine ww_icmp_gt_f (tgt := 34) dX3_isWithin_9 (by decide) hk ?_
        first | refine ww_aload_n (i := 2) dX3_isWithin_12 rfl rfl ?_ | refine ww_aload_nQ (i := 2) dX3_isWithin_12 rfl rfl ?_
        refine ww_ifnull_f dX3_isWithin_13 ?_
        first | refine ww_aload_n (i := 2) dX3_isWithin_16 rfl rfl ?_ | refine ww_aload_nQ (i := 2) dX3_isWithin_16 rfl rfl ?_
        first | refine ww_aload_n (i := 1) dX3_isWithin_17 rfl rfl ?_ | refine ww_aload_nQ (i := 1) dX3_isWithin_17 rfl rfl ?_
        -- at 18, locals [0, 1, 2, 3]
        refine ww_acmp_ne (tgt := 23) (rx := some (P j)) (ry := some (P j)) rfl rfl dX3_isWithin_18 (by decide) (fun z => absurd rfl z) (fun _ => ?_)
        refine ww_iconst (v := 1) dX3_isWithin_21 (by decide) ?_
        exact ww_ireturn dX3_isWithin_22 rfl (by first | rfl | exact ww_b_nar) ⟨rfl, rfl⟩
      · have h3 : ¬ nI j = nI b := fun z => h2 ((nI_eq (by omega) (by omega)).mp z)
        rw [ww_b_cg (q_wi_s (m := m) (ho := ho) (by omega) h3)]
        refine ww_iload_n (i := 3) dX3_isWithin_7 rfl rfl ?_
        refine ww_iconst (v := 4) dX3_isWithin_8 (by decide) ?_
        refine ww_icmp_gt_f (tgt := 34) dX3_isWithin_9 (by decide) hk ?_
        first | refine ww_aload_n (i := 2) dX3_isWithin_12 rfl rfl ?_ | refine ww_aload_nQ (i := 2) dX3_isWithin_12 rfl rfl ?_
        refine ww_ifnull_f dX3_isWithin_13 ?_
        first | refine ww_aload_n (i := 2) dX3_isWithin_16 rfl rfl ?_ | refine ww_aload_nQ (i := 2) dX3_isWithin_16 rfl rfl ?_
        first | refine ww_aload_n (i := 1) dX3_isWithin_17 rfl rfl ?_ | refine ww_aload_nQ (i := 1) dX3_isWithin_17 rfl rfl ?_
        -- at 18, locals [0, 1, 2, 3]
        refine ww_acmp_ne (tgt := 23) (rx := some (P j)) (ry := some (P b)) rfl rfl dX3_isWithin_18 (by decide) (fun _ => ?_) (fun z => absurd (hP j b hj hb (Option.some.inj z)) h2)
        rcases q_gh_cases hg h6 hj with h4 | ⟨i, hi, e, hl⟩
        · have hn := ww_hs_0 hh hj h4
          have hl := c_isWithin_l hh hg h6 hP hb m (k + 1) (ho j) (by omega) (Or.inl h4)
          rw [ww_rq_0 h4] at hl
          refine ww_aload_n (i := 2) dX3_isWithin_23 rfl rfl ?_
          refine ww_getN (f := 166) wf_X3_38 dX3_isWithin_24 rfl rfl (show ww_is _ _ 4 from ha).1 (show ww_is _ _ 4 from ha).2 hn ?_
          -- at 27, locals [0, 1, 2, 3]
          refine ww_astore_nQ (i := 2) (r := none) (lv2 := [(0, _), (1, _), (2, _), (3, _)]) dX3_isWithin_27 rfl (Nat.le_of_ble_eq_true rfl) rfl ?_
          refine ww_iinc (i := 3) (v := _ + 1) (lv2 := [(0, _), (1, _), (2, _), (3, _)]) dX3_isWithin_28 rfl (by rfl) (Nat.le_of_ble_eq_true rfl) rfl ?_
          refine ww_goto (tgt := 7) dX3_isWithin_31 (by decide) ?_
          -- at 7, locals [0, 1, 2, 3]
          rw [nI_1]
          exact hl
        · have hn := ww_hs_1 hh h6 hj e hi
          have hl := c_isWithin_l hh hg h6 hP hb m (k + 1) (ho j) (by omega) (Or.inr ⟨i, hi, e⟩)
          rw [e, ww_rq_1 (by omega), ← e] at hl
          refine ww_aload_n (i := 2) dX3_isWithin_23 rfl rfl ?_
          refine ww_getR (f := 166) wf_X3_38 dX3_isWithin_24 rfl rfl (show ww_is _ _ 4 from ha).1 (show ww_is _ _ 4 from ha).2 hn ?_
          first | refine ww_astore_n (i := 2) (lv2 := [(0, _), (1, _), (2, _), (3, _)]) dX3_isWithin_27 rfl (Nat.le_of_ble_eq_true rfl) rfl ?_ | refine ww_astore_nQ (i := 2) (lv2 := [(0, _), (1, _), (2, _), (3, _)]) dX3_isWithin_27 rfl (Nat.le_of_ble_eq_true rfl) rfl ?_
          refine ww_iinc (i := 3) (v := _ + 1) (lv2 := [(0, _), (1, _), (2, _), (3, _)]) dX3_isWithin_28 rfl (by rfl) (Nat.le_of_ble_eq_true rfl) rfl ?_
          refine ww_goto (tgt := 7) dX3_isWithin_31 (by decide) ?_
          -- at 7, locals [0, 1, 2, 3]
          rw [nI_1]
          exact hl
set_option maxRecDepth 20000 in
theorem c_isWithin (hh : ww_hs M P n ho) (hg : q_gh n kd ho) (h6 : n ≤ 60) (hP : ∀ i j, i < n → j < n → P i = P j → i = j) {p : Nat} (hp : p < n) (hb : b < n) : ww_C g wy_X3_isWithin 1 0 0 [.ref (P p), .ref (P b)] M (ww_ret (some (.int (ww_b (q_wi ho b 5 (ho p))))) M) ww_no := by
  refine ww_ent (by decide +kernel) (Nat.le_of_ble_eq_true rfl) ⟨rfl, rfl, trivial⟩ ?_
  have ha := (hh p hp).1
  rcases q_gh_cases hg h6 hp with h4 | ⟨i, hi, e, hl⟩
  · have hn := ww_hs_0 hh hp h4
    have hl := c_isWithin_l (g := g) (a := P p) hh hg h6 hP hb 5 0 (ho p) (by omega) (Or.inl h4)
    rw [ww_rq_0 h4, nI_0] at hl
    refine ww_aload_n (i := 0) dX3_isWithin_0 rfl rfl ?_
    refine ww_getN (f := 166) wf_X3_38 dX3_isWithin_1 rfl rfl (show ww_is _ _ 4 from ha).1 (show ww_is _ _ 4 from ha).2 hn ?_
    -- at 4, locals [0, 1]
    refine ww_astore_nQ (i := 2) (r := none) (lv2 := [(0, _), (1, _), (2, _)]) dX3_isWithin_4 rfl (Nat.le_of_ble_eq_true rfl) rfl ?_
    refine ww_iconst (v := 0) dX3_isWithin_5 (by decide) ?_
    refine ww_istore_n (i := 3) (lv2 := [(0, _), (1, _), (2, _), (3, _)]) dX3_isWithin_6 rfl (Nat.le_of_ble_eq_true rfl) rfl ?_
    -- at 7, locals [0, 1, 2, 3]
    exact hl
  · have hn := ww_hs_1 hh h6 hp e hi
    have hl := c_isWithin_l (g := g) (a := P p) hh hg h6 hP hb 5 0 (ho p) (by omega) (Or.inr ⟨i, hi, e⟩)
    rw [e, ww_rq_1 (by omega), nI_0, ← e] at hl
    refine ww_aload_n (i := 0) dX3_isWithin_0 rfl rfl ?_
    refine ww_getR (f := 166) wf_X3_38 dX3_isWithin_1 rfl rfl (show ww_is _ _ 4 from ha).1 (show ww_is _ _ 4 from ha).2 hn ?_
    first | refine ww_astore_n (i := 2) (lv2 := [(0, _), (1, _), (2, _)]) dX3_isWithin_4 rfl (Nat.le_of_ble_eq_true rfl) rfl ?_ | refine ww_astore_nQ (i := 2) (lv2 := [(0, _), (1, _), (2, _)]) dX3_isWithin_4 rfl (Nat.le_of_ble_eq_true rfl) rfl ?_
    refine ww_iconst (v := 0) dX3_isWithin_5 (by decide) ?_
    refine ww_istore_n (i := 3) (lv2 := [(0, _), (1, _), (2, _), (3, _)]) dX3_isWithin_6 rfl (Nat.le_of_ble_eq_true rfl) rfl ?_
    -- at 7, locals [0, 1, 2, 3]
    exact hl
/-! wear, runs -/
def ww_wear (M : ww_M) (a : Nat) (k r : Int32) : ww_M := ww_sI (ww_sI (ww_sI M 200 a (ww_I M 200 a - k)) 203 a (ww_I M 203 a + r)) 201 a (ww_I M 201 a - ((ww_I M 203 a + r) / 200 - ww_I M 203 a / 200))
theorem q_wear {f x y : Int32} : f + x - y = f - (y - x) := by
  rw [ww_eq, Int32.toInt_sub, Int32.toInt_add, Int32.toInt_sub, Int32.toInt_sub]
  simp only [Int.bmod_sub_bmod, Int.sub_bmod_bmod]
  congr 1
  omega
set_option maxRecDepth 20000 in
theorem c_wear (ha : ww_is M.1 a 5) (k r : Int32) : ww_C g wy_X4_wear 1 0 0 [.ref a, .int k, .int r] M (ww_ret none (ww_wear M a k r)) ww_no := by
  refine ww_ent (by decide +kernel) (Nat.le_of_ble_eq_true rfl) ⟨rfl, rfl, rfl, trivial⟩ ?_
  refine ww_aload_n (i := 0) dX4_wear_0 rfl rfl ?_
  refine ww_dup dX4_wear_1 (by first | rfl | exact ww_rf_cat _) ?_
  refine ww_getI (f := 200) wf_X4_9 dX4_wear_2 rfl rfl (show ww_is _ _ 5 from ha).1 (show ww_is _ _ 5 from ha).2 ?_
  refine ww_iload_n (i := 1) dX4_wear_5 rfl rfl ?_
  refine ww_isub dX4_wear_6 ?_
  refine ww_putI (f := 200) wf_X4_9 wt_5_0 dX4_wear_7 rfl rfl (show ww_is _ _ 5 from ha).1 (show ww_is _ _ 5 from ha).2 rfl rfl ?_
  refine ww_aload_n (i := 0) dX4_wear_10 rfl rfl ?_
  refine ww_dup dX4_wear_11 (by first | rfl | exact ww_rf_cat _) ?_
  refine ww_getI (f := 201) wf_X4_15 dX4_wear_12 rfl rfl (show ww_is _ _ 5 from ha).1 (show ww_is _ _ 5 from ha).2 ?_
  refine ww_aload_n (i := 0) dX4_wear_15 rfl rfl ?_
  refine ww_getI (f := 203) wf_X4_21 dX4_wear_16 rfl rfl (show ww_is _ _ 5 from ha).1 (show ww_is _ _ 5 from ha).2 ?_
  refine ww_sipush (v := 200) dX4_wear_19 (by decide) ?_
  refine ww_idiv dX4_wear_22 (by decide) ?_
  refine ww_iadd dX4_wear_23 ?_
  refine ww_putI (f := 201) wf_X4_15 wt_5_1 dX4_wear_24 rfl rfl (show ww_is _ _ 5 from ha).1 (show ww_is _ _ 5 from ha).2 rfl rfl ?_
  refine ww_aload_n (i := 0) dX4_wear_27 rfl rfl ?_
  refine ww_dup dX4_wear_28 (by first | rfl | exact ww_rf_cat _) ?_
  refine ww_getI (f := 203) wf_X4_21 dX4_wear_29 rfl rfl (show ww_is _ _ 5 from ha).1 (show ww_is _ _ 5 from ha).2 ?_
  refine ww_iload_n (i := 2) dX4_wear_32 rfl rfl ?_
  refine ww_iadd dX4_wear_33 ?_
  refine ww_putI (f := 203) wf_X4_21 wt_5_3 dX4_wear_34 rfl rfl (show ww_is _ _ 5 from ha).1 (show ww_is _ _ 5 from ha).2 rfl rfl ?_
  refine ww_aload_n (i := 0) dX4_wear_37 rfl rfl ?_
  refine ww_dup dX4_wear_38 (by first | rfl | exact ww_rf_cat _) ?_
  refine ww_getI (f := 201) wf_X4_15 dX4_wear_39 rfl rfl (show ww_is _ _ 5 from ha).1 (show ww_is _ _ 5 from ha).2 ?_
  refine ww_aload_n (i := 0) dX4_wear_42 rfl rfl ?_
  refine ww_getI (f := 203) wf_X4_21 dX4_wear_43 rfl rfl (show ww_is _ _ 5 from ha).1 (show ww_is _ _ 5 from ha).2 ?_
  refine ww_sipush (v := 200) dX4_wear_46 (by decide) ?_
  refine ww_idiv dX4_wear_49 (by decide) ?_
  refine ww_isub dX4_wear_50 ?_
  refine ww_putI (f := 201) wf_X4_15 wt_5_1 dX4_wear_51 rfl rfl (show ww_is _ _ 5 from ha).1 (show ww_is _ _ 5 from ha).2 rfl rfl ?_
  refine ww_vreturn dX4_wear_54 rfl ⟨rfl, ?_⟩
  have e1 : ∀ (M2 : ww_M) (v : Int32), ww_I (ww_sI M2 201 a v) 203 a = ww_I M2 203 a := fun M2 v => ww_sI_f (by decide)
  have e2 : ∀ (M2 : ww_M) (v : Int32), ww_I (ww_sI M2 200 a v) 203 a = ww_I M2 203 a := fun M2 v => ww_sI_f (by decide)
  have e3 : ∀ (M2 : ww_M) (v : Int32), ww_I (ww_sI M2 200 a v) 201 a = ww_I M2 201 a := fun M2 v => ww_sI_f (by decide)
  have e4 : ∀ (M2 : ww_M) (v : Int32), ww_I (ww_sI M2 203 a v) 201 a = ww_I M2 201 a := fun M2 v => ww_sI_f (by decide)
  have e5 : ∀ (M2 : ww_M) (v : Int32), ww_I (ww_sI M2 201 a v) 201 a = v := fun M2 v => ww_sI_s
  have e6 : ∀ (M2 : ww_M) (v : Int32), ww_I (ww_sI M2 203 a v) 203 a = v := fun M2 v => ww_sI_s
  have e7 : ∀ (M2 : ww_M) (x y z : Int32), ww_sI (ww_sI (ww_sI M2 201 a x) 203 a y) 201 a z = ww_sI (ww_sI M2 203 a y) 201 a z := by
    intro M2 x y z
    show (M2.1, ww_u2 (ww_u2 (ww_u2 (ww_I M2) 201 a x) 203 a y) 201 a z, M2.2.2) = (M2.1, ww_u2 (ww_u2 (ww_I M2) 203 a y) 201 a z, M2.2.2)
    rw [ww_u2_cm (k := 201) (k' := 203) (fun z => absurd z.1 (by decide)), ww_u2_u2]
  simp only [e1, e2, e3, e4, e5, e6, e7, q_wear]
  rfl
end WWC4
