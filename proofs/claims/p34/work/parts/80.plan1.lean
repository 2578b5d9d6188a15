/-! ===== the plan that is searched is the plan that is best of all ===== -/
/-- the moves that the first i make -/
noncomputable def q_pc (T : Nat → Int32) (dg : Nat → Nat) : Nat → Nat
  | 0 => 0
  | i + 1 => q_pc T dg i + q_cnt (fun j => dg j = dg i ∧ T j < T i) i
/-- no road has too many -/
def q_vd (w c : Nat) : Prop := ∀ r, r < 3 → q_cnt (fun j => q_dg w c j = r) w ≤ 4
noncomputable def q_fF (T : Nat → Int32) (w : Nat) (s : Nat × Option Nat) (c : Nat) : Nat × Option Nat := q_if (q_vd w c ∧ q_pc T (q_dg w c) w < s.1) (q_pc T (q_dg w c) w, some c) s
/-- the first best of those from lo on -/
noncomputable def q_fo (T : Nat → Int32) (w : Nat) (s : Nat × Option Nat) (lo : Nat) : Nat → Nat × Option Nat
  | 0 => s
  | l + 1 => q_fF T w (q_fo T w s lo l) (lo + l)
section WWQ6
variable {T : Nat → Int32} {w i m p r c lo v mv : Nat} {bl dg dg' : Nat → Nat} {s : Nat × Nat} {o : Option Nat}
theorem q_fo_add {s : Nat × Option Nat} {lo a : Nat} : ∀ b, q_fo T w (q_fo T w s lo a) (lo + a) b = q_fo T w s lo (a + b)
  | 0 => rfl
  | b + 1 => by
    show q_fF T w (q_fo T w (q_fo T w s lo a) (lo + a) b) (lo + a + b) = q_fF T w (q_fo T w s lo (a + b)) (lo + (a + b))
    rw [q_fo_add b, Nat.add_assoc]
theorem q_fo_id {s : Nat × Option Nat} {lo : Nat} : ∀ l, (∀ c, lo ≤ c → c < lo + l → ¬ (q_vd w c ∧ q_pc T (q_dg w c) w < s.1)) → q_fo T w s lo l = s
  | 0, _ => rfl
  | l + 1, h => by
    show q_fF T w (q_fo T w s lo l) (lo + l) = s
    rw [q_fo_id l (fun c h1 h2 => h c h1 (by omega))]
    exact q_if_f (h (lo + l) (by omega) (by omega))
theorem q_pc_cg : ∀ {i : Nat}, (∀ j, j < i → dg j = dg' j) → q_pc T dg i = q_pc T dg' i
  | 0, _ => rfl
  | i + 1, h => by
    unfold q_pc
    rw [q_pc_cg (fun j hj => h j (by omega)), q_cnt_cg (fun j hj => by rw [h j (by omega), h i (by omega)])]
theorem q_pc_mono : ∀ {i k : Nat}, i ≤ k → q_pc T dg i ≤ q_pc T dg k
  | i, 0, h => by
    have e : i = 0 := by omega
    rw [e]; exact Nat.le_refl _
  | i, k + 1, h => by
    by_cases c : i = k + 1
    · rw [c]; exact Nat.le_refl _
    · have := q_pc_mono (show i ≤ k by omega)
      show q_pc T dg i ≤ q_pc T dg k + _
      omega
theorem q_pc_le : ∀ {i : Nat}, i ≤ 8 → q_pc T dg i ≤ 8 * i
  | 0, _ => Nat.le_refl _
  | i + 1, h => by
    have := q_pc_le (i := i) (by omega)
    have := q_cnt_le (fun j => dg j = dg i ∧ T j < T i) i
    show q_pc T dg i + q_cnt (fun j => dg j = dg i ∧ T j < T i) i ≤ _
    omega
theorem q_dg_pre {j : Nat} (hw : i + m = w) (hj : j < i) (h1 : p * 3 ^ m ≤ c) (h2 : c < (p + 1) * 3 ^ m) : q_dg w c j = q_dg i p j := by
  unfold q_dg
  have e1 : w - 1 - j = m + (i - 1 - j) := by omega
  have e2 : c / 3 ^ m = p := Nat.div_eq_of_lt_le h1 h2
  rw [e1, Nat.pow_add, ← Nat.div_div_eq_div_mul, e2]
theorem q_dg_ch {j : Nat} (hj : j < i) (hr : r < 3) : q_dg (i + 1) (3 * p + r) j = q_dg i p j := q_dg_pre (m := 1) rfl hj (by omega) (by omega)
theorem q_dg_ci (hr : r < 3) : q_dg (i + 1) (3 * p + r) i = r := by
  unfold q_dg
  rw [show i + 1 - 1 - i = 0 by omega, Nat.pow_zero, Nat.div_one]
  omega
theorem q_dg_lt : q_dg w c i < 3 := Nat.mod_lt _ (by decide)
/-- a mask that goes with a code -/
def q_mo2 (w : Nat) (o : Option Nat) (v : Nat) : Prop := ∀ c, o = some c → q_mk (q_dg w c) w v
theorem q_pop_and (hbl : q_bw T w bl) (hi : i < w) (h8 : w ≤ 8) (hr : r < 3) (hm : q_mk (q_dg i p) i v) : q_pop (q_tr v r &&& bl i) = q_cnt (fun j => q_dg (i + 1) (3 * p + r) j = q_dg (i + 1) (3 * p + r) i ∧ T j < T i) i := by
  rw [q_tr_and (R := fun j => T j < T i) hm hr (by omega) (hbl i hi).2, q_dg_ci hr]
  exact q_cnt_cg (fun j hj => by rw [q_dg_ch hj hr])
theorem q_pc_ch (hr : r < 3) : q_pc T (q_dg (i + 1) (3 * p + r)) (i + 1) = q_pc T (q_dg i p) i + q_cnt (fun j => q_dg (i + 1) (3 * p + r) j = q_dg (i + 1) (3 * p + r) i ∧ T j < T i) i := by
  show q_pc T (q_dg (i + 1) (3 * p + r)) i + _ = _
  rw [q_pc_cg (fun j hj => q_dg_ch hj hr)]
theorem q_mk_ch (hm : q_mk (q_dg i p) i v) (hi : i < 8) (hr : r < 3) : q_mk (q_dg (i + 1) (3 * p + r)) (i + 1) (v ||| 2 ^ (8 * r + i)) := by
  have h := q_mk_s (q_mk_ext hm (d' := q_dg (i + 1) (3 * p + r)) (fun j hj => q_dg_ch hj hr)) hi (by rw [q_dg_ci hr]; exact hr)
  rw [q_dg_ci hr] at h
  exact h
/-- in the subtree of (i, p), the prefix is p's -/
theorem q_sub_dg (hw : i + m = w) (h1 : p * 3 ^ m ≤ c) (h2 : c < p * 3 ^ m + 3 ^ m) : ∀ j, j < i → q_dg w c j = q_dg i p j := fun j hj => q_dg_pre hw hj h1 (by rw [Nat.succ_mul]; exact h2)
theorem q_vd_ch (hok : ∀ r, r < 3 → q_cnt (fun j => q_dg i p j = r) i ≤ 4) (hr : r < 3) (hc : q_cnt (fun j => q_dg i p j = r) i < 4) : ∀ r', r' < 3 → q_cnt (fun j => q_dg (i + 1) (3 * p + r) j = r') (i + 1) ≤ 4 := fun r' hr' => by
  have e : q_cnt (fun j => q_dg (i + 1) (3 * p + r) j = r') i = q_cnt (fun j => q_dg i p j = r') i := q_cnt_cg (fun j hj => by rw [q_dg_ch hj hr])
  by_cases c1 : r' = r
  · subst c1
    have := q_cnt_mono (P := fun j => q_dg (i + 1) (3 * p + r') j = r') (show i ≤ i + 1 by omega)
    by_cases c2 : q_dg (i + 1) (3 * p + r') i = r'
    · rw [q_cnt_s (P := fun j => q_dg (i + 1) (3 * p + r') j = r') c2, e]; omega
    · exact absurd (q_dg_ci hr) c2
  · rw [q_cnt_n (P := fun j => q_dg (i + 1) (3 * p + r) j = r') (fun y => c1 (y.symm.trans (q_dg_ci hr))), e]
    exact hok r' hr'
theorem q_vd_no (hw : i + 1 + m = w) (hr : r < 3) (hc : 4 ≤ q_cnt (fun j => q_dg i p j = r) i) (h1 : (3 * p + r) * 3 ^ m ≤ c) (h2 : c < (3 * p + r) * 3 ^ m + 3 ^ m) : ¬ q_vd w c := fun h => by
  have e := q_sub_dg hw h1 h2
  have h3 := h r hr
  have h4 := q_cnt_mono (P := fun j => q_dg w c j = r) (show i + 1 ≤ w by omega)
  rw [q_cnt_s (P := fun j => q_dg w c j = r) ((e i (by omega)).trans (q_dg_ci hr)), q_cnt_cg (P := fun j => q_dg w c j = r) (R := fun j => q_dg i p j = r) (n := i) (fun j hj => by rw [e j (by omega), q_dg_ch hj hr])] at h4
  omega
theorem q_df_spec (hbl : q_bw T w bl) (h8 : w ≤ 8) : ∀ (m i p v mv : Nat) (s : Nat × Nat) (o : Option Nat), i + m = w → q_mk (q_dg i p) i v → mv = q_pc T (q_dg i p) i → (∀ r, r < 3 → q_cnt (fun j => q_dg i p j = r) i ≤ 4) → q_mo2 w o s.2 → (q_df bl m i v mv s).1 = (q_fo T w (s.1, o) (p * 3 ^ m) (3 ^ m)).1 ∧ q_mo2 w (q_fo T w (s.1, o) (p * 3 ^ m) (3 ^ m)).2 (q_df bl m i v mv s).2
  | 0, i, p, v, mv, s, o, hw, hm, hmv, hok, ho => by
    have e : i = w := by omega
    subst e
    rw [Nat.pow_zero, Nat.mul_one]
    show (q_df bl 0 i v mv s).1 = (q_fF T i (s.1, o) p).1 ∧ q_mo2 i (q_fF T i (s.1, o) p).2 (q_df bl 0 i v mv s).2
    unfold q_df
    by_cases c : s.1 ≤ mv
    · have ef : q_fF T i (s.1, o) p = (s.1, o) := q_if_f (fun y => by have : q_pc T (q_dg i p) i < s.1 := y.2; omega)
      rw [if_pos c, ef]
      exact ⟨rfl, ho⟩
    · have ef : q_fF T i (s.1, o) p = (q_pc T (q_dg i p) i, some p) := q_if_t ⟨hok, by show q_pc T (q_dg i p) i < s.1; omega⟩
      rw [if_neg c, ef]
      exact ⟨hmv, fun c hc => by cases hc; exact hm⟩
  | m + 1, i, p, v, mv, s, o, hw, hm, hmv, hok, ho => by
    have hi : i < w := by omega
    unfold q_df
    by_cases c : s.1 ≤ mv
    · rw [if_pos c, q_fo_id (3 ^ (m + 1)) (fun cc h1 h2 y => ?_)]
      · exact ⟨rfl, ho⟩
      · have e1 := q_sub_dg hw h1 h2
        have e2 : q_pc T (q_dg w cc) i = q_pc T (q_dg i p) i := q_pc_cg e1
        have e3 := q_pc_mono (T := T) (dg := q_dg w cc) (show i ≤ w by omega)
        have e4 : q_pc T (q_dg w cc) w < s.1 := y.2
        omega
    · rw [if_neg c]
      have step : ∀ (r : Nat) (s : Nat × Nat) (o : Option Nat), r < 3 → q_mo2 w o s.2 → (q_df1 (fun v' mv' s' => q_df bl m (i + 1) v' mv' s') bl i v mv r s).1 = (q_fo T w (s.1, o) ((3 * p + r) * 3 ^ m) (3 ^ m)).1 ∧ q_mo2 w (q_fo T w (s.1, o) ((3 * p + r) * 3 ^ m) (3 ^ m)).2 (q_df1 (fun v' mv' s' => q_df bl m (i + 1) v' mv' s') bl i v mv r s).2 := by
        intro r s o hr ho
        have hpop := q_tr_pop hm hr (by omega)
        unfold q_df1
        by_cases c4 : 4 ≤ q_pop (q_tr v r)
        · rw [if_pos c4, q_fo_id (3 ^ m) (fun cc h1 h2 y => q_vd_no (m := m) (i := i) (by omega) hr (by rw [← hpop]; exact c4) h1 h2 y.1)]
          exact ⟨rfl, ho⟩
        · rw [if_neg c4]
          refine q_df_spec hbl h8 m (i + 1) (3 * p + r) _ _ s o (by omega) (q_mk_ch hm (by omega) hr) ?_ (q_vd_ch hok hr (by rw [← hpop]; omega)) ho
          rw [q_pc_ch hr, hmv, q_pop_and hbl hi h8 hr hm]
      have h0 := step 0 s o (by decide) ho
      generalize hs0 : q_df1 (fun v' mv' s' => q_df bl m (i + 1) v' mv' s') bl i v mv 0 s = s0 at h0
      generalize ho0 : q_fo T w (s.1, o) ((3 * p + 0) * 3 ^ m) (3 ^ m) = f0 at h0
      have h1 := step 1 s0 f0.2 (by decide) h0.2
      generalize hs1 : q_df1 (fun v' mv' s' => q_df bl m (i + 1) v' mv' s') bl i v mv 1 s0 = s1 at h1
      rw [h0.1] at h1
      generalize ho1 : q_fo T w (f0.1, f0.2) ((3 * p + 1) * 3 ^ m) (3 ^ m) = f1 at h1
      have h2 := step 2 s1 f1.2 (by decide) h1.2
      rw [h1.1] at h2
      have e3 : q_fo T w (s.1, o) (p * 3 ^ (m + 1)) (3 ^ (m + 1)) = q_fo T w (f1.1, f1.2) ((3 * p + 2) * 3 ^ m) (3 ^ m) := by
        have a0 : p * 3 ^ (m + 1) = (3 * p + 0) * 3 ^ m := by rw [Nat.pow_succ, Nat.add_zero, Nat.mul_comm 3 p, Nat.mul_assoc, Nat.mul_comm (3 ^ m) 3]
        have a1 : (3 * p + 1) * 3 ^ m = (3 * p + 0) * 3 ^ m + 3 ^ m := Nat.succ_mul (3 * p + 0) (3 ^ m)
        have a2 : (3 * p + 2) * 3 ^ m = (3 * p + 0) * 3 ^ m + (3 ^ m + 3 ^ m) := (Nat.succ_mul (3 * p + 1) (3 ^ m)).trans (by rw [a1, Nat.add_assoc])
        have a3 : (3 : Nat) ^ (m + 1) = (3 ^ m + 3 ^ m) + 3 ^ m := by rw [Nat.pow_succ]; omega
        have ef1 : f1 = q_fo T w (s.1, o) ((3 * p + 0) * 3 ^ m) (3 ^ m + 3 ^ m) := by
          rw [← ho1, ← q_fo_add, ho0, a1]
        rw [a0, a3, ← q_fo_add, ← ef1, a2]
      rw [e3]
      show (q_df1 (fun v' mv' s' => q_df bl m (i + 1) v' mv' s') bl i v mv 2 (q_df1 (fun v' mv' s' => q_df bl m (i + 1) v' mv' s') bl i v mv 1 (q_df1 (fun v' mv' s' => q_df bl m (i + 1) v' mv' s') bl i v mv 0 s))).1 = _ ∧ q_mo2 w _ (q_df1 (fun v' mv' s' => q_df bl m (i + 1) v' mv' s') bl i v mv 2 (q_df1 (fun v' mv' s' => q_df bl m (i + 1) v' mv' s') bl i v mv 1 (q_df1 (fun v' mv' s' => q_df bl m (i + 1) v' mv' s') bl i v mv 0 s))).2
      rw [hs0, hs1]
      exact h2
/-- the fewest, without a search -/
theorem q_fm_spec (hbl : q_bw T w bl) (h8 : w ≤ 8) : ∀ (m i p v : Nat), i + m = w → q_mk (q_dg i p) i v → (∀ r, r < 3 → q_cnt (fun j => q_dg i p j = r) i ≤ 4) → (∀ c, p * 3 ^ m ≤ c → c < p * 3 ^ m + 3 ^ m → q_vd w c → q_pc T (q_dg i p) i + q_fm bl m i v ≤ q_pc T (q_dg w c) w) ∧ (1000 ≤ q_fm bl m i v ∨ ∃ c, p * 3 ^ m ≤ c ∧ c < p * 3 ^ m + 3 ^ m ∧ q_vd w c ∧ q_pc T (q_dg i p) i + q_fm bl m i v = q_pc T (q_dg w c) w)
  | 0, i, p, v, hw, hm, hok => by
    have e : i = w := by omega
    subst e
    rw [Nat.pow_zero, Nat.mul_one]
    refine ⟨fun c h1 h2 hv => ?_, Or.inr ⟨p, Nat.le_refl _, by omega, hok, rfl⟩⟩
    have e : c = p := by omega
    rw [e]
    exact Nat.le_refl _
  | m + 1, i, p, v, hw, hm, hok => by
    have hi : i < w := by omega
    have a0 : ∀ r, (3 * p + r) * 3 ^ m = p * 3 ^ (m + 1) + r * 3 ^ m := fun r => by rw [Nat.pow_succ, Nat.add_mul, Nat.mul_comm 3 p, Nat.mul_assoc, Nat.mul_comm (3 ^ m) 3]
    have a3 : (3 : Nat) ^ (m + 1) = 3 ^ m + 3 ^ m + 3 ^ m := by rw [Nat.pow_succ]; omega
    -- after the roads below r: s is the fewest of them
    have Inv : ∀ (k : Nat), k ≤ 3 → ∀ s, ((∀ c, p * 3 ^ (m + 1) ≤ c → c < p * 3 ^ (m + 1) + (3 - k) * 3 ^ m → q_vd w c → q_pc T (q_dg i p) i + s ≤ q_pc T (q_dg w c) w) ∧ s ≤ 1000 ∧ (1000 ≤ s ∨ ∃ c, p * 3 ^ (m + 1) ≤ c ∧ c < p * 3 ^ (m + 1) + (3 - k) * 3 ^ m ∧ q_vd w c ∧ q_pc T (q_dg i p) i + s = q_pc T (q_dg w c) w)) → ((∀ c, p * 3 ^ (m + 1) ≤ c → c < p * 3 ^ (m + 1) + 3 ^ (m + 1) → q_vd w c → q_pc T (q_dg i p) i + q_fmr (fun v' => q_fm bl m (i + 1) v') bl i v k s ≤ q_pc T (q_dg w c) w) ∧ (1000 ≤ q_fmr (fun v' => q_fm bl m (i + 1) v') bl i v k s ∨ ∃ c, p * 3 ^ (m + 1) ≤ c ∧ c < p * 3 ^ (m + 1) + 3 ^ (m + 1) ∧ q_vd w c ∧ q_pc T (q_dg i p) i + q_fmr (fun v' => q_fm bl m (i + 1) v') bl i v k s = q_pc T (q_dg w c) w)) := by
      intro k
      induction k with
      | zero =>
        intro _ s h
        rw [show (3 - 0) * 3 ^ m = 3 ^ (m + 1) by rw [a3]; omega] at h
        exact ⟨h.1, h.2.2⟩
      | succ k ih =>
        intro hk s h
        obtain ⟨h1, h2, h3⟩ := h
        show _ ∧ _
        have hr : 2 - k < 3 := by omega
        refine ih (by omega) (q_fm1 (fun v' => q_fm bl m (i + 1) v') bl i v (2 - k) s) ?_
        have er : 3 - (k + 1) = 2 - k := by omega
        have er2 : (3 - k) * 3 ^ m = (2 - k) * 3 ^ m + 3 ^ m := by rw [show 3 - k = (2 - k) + 1 by omega, Nat.succ_mul]
        rw [er] at h1 h3
        rw [er2]
        generalize hrr : 2 - k = r at *
        have hpop := q_tr_pop hm hr (by omega)
        have lo := a0 r
        have hQ : 0 < 3 ^ m := Nat.pow_pos (by decide)
        unfold q_fm1
        dsimp only
        by_cases c4 : 4 ≤ q_pop (q_tr v r)
        · rw [if_pos c4]
          refine ⟨fun c c1 c2 cv => ?_, h2, h3.imp id (fun ⟨c, c1, c2, c3⟩ => ⟨c, c1, by omega, c3⟩)⟩
          by_cases cc : c < p * 3 ^ (m + 1) + r * 3 ^ m
          · exact h1 c c1 cc cv
          · exact absurd cv (q_vd_no (m := m) (i := i) (by omega) hr (by rw [← hpop]; exact c4) (by rw [lo]; omega) (by rw [lo]; omega))
        · rw [if_neg c4]
          obtain ⟨b1, b2⟩ := q_fm_spec hbl h8 m (i + 1) (3 * p + r) (v ||| 2 ^ (8 * r + i)) (by omega) (q_mk_ch hm (by omega) hr) (q_vd_ch hok hr (by rw [← hpop]; omega))
          have ep := q_pc_ch (T := T) (i := i) (p := p) hr
          rw [← q_pop_and hbl hi h8 hr hm] at ep
          rw [ep, lo] at b1 b2
          have b1' : ∀ c, p * 3 ^ (m + 1) + r * 3 ^ m ≤ c → c < p * 3 ^ (m + 1) + r * 3 ^ m + 3 ^ m → q_vd w c → q_pc T (q_dg i p) i + (q_pop (q_tr v r &&& bl i) + q_fm bl m (i + 1) (v ||| 2 ^ (8 * r + i))) ≤ q_pc T (q_dg w c) w := fun c c1 c2 c3 => by rw [← Nat.add_assoc]; exact b1 c c1 c2 c3
          by_cases c5 : q_pop (q_tr v r &&& bl i) + q_fm bl m (i + 1) (v ||| 2 ^ (8 * r + i)) < s
          · rw [if_pos c5]
            refine ⟨fun c c1 c2 cv => ?_, by omega, ?_⟩
            · by_cases cc : c < p * 3 ^ (m + 1) + r * 3 ^ m
              · have := h1 c c1 cc cv
                omega
              · exact b1' c (by omega) (by omega) cv
            · rcases b2 with b2 | ⟨c, c1, c2, c3, c6⟩
              · omega
              · exact Or.inr ⟨c, by omega, by omega, c3, by rw [← Nat.add_assoc]; exact c6⟩
          · rw [if_neg c5]
            refine ⟨fun c c1 c2 cv => ?_, h2, h3.imp id (fun ⟨c, c1, c2, c3⟩ => ⟨c, c1, by omega, c3⟩)⟩
            by_cases cc : c < p * 3 ^ (m + 1) + r * 3 ^ m
            · exact h1 c c1 cc cv
            · have := b1' c (by omega) (by omega) cv
              omega
    exact Inv 3 (Nat.le_refl _) 1000 ⟨fun c c1 c2 => by omega, Nat.le_refl _, Or.inl (Nat.le_refl _)⟩
end WWQ6
