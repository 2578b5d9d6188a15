section WWQ7
variable {S : Nat → Nat → Int32} {T : Nat → Int32} {n w i m p r c lo v mv b : Nat} {bl dg dg' : Nat → Nat}
theorem q_cnt_pos {P : Nat → Prop} : ∀ {n : Nat}, 0 < q_cnt P n → ∃ i, i < n ∧ P i
  | 0, h => absurd h (Nat.lt_irrefl 0)
  | n + 1, h => by
    by_cases c : P n
    · exact ⟨n, by omega, c⟩
    · rw [q_cnt_n c] at h
      obtain ⟨i, hi, hp⟩ := q_cnt_pos h
      exact ⟨i, by omega, hp⟩
theorem q_sum_add {f : Nat → Nat} {P : Nat → Prop} : ∀ {n : Nat}, q_sum (fun i => f i + q_if (P i) 1 0) n = q_sum f n + q_cnt P n
  | 0 => rfl
  | n + 1 => by
    show q_sum (fun i => f i + q_if (P i) 1 0) n + (f n + q_if (P n) 1 0) = (q_sum f n + f n) + (q_cnt P n + q_if (P n) 1 0)
    rw [q_sum_add]
    omega
/-- the pairs, counted by the one and by the other -/
theorem q_pairs : ∀ w, q_sum (fun i => q_cnt (fun j => dg i = dg j ∧ i < j ∧ T i < T j) w) w = q_pc T dg w
  | 0 => rfl
  | w + 1 => by
    show q_sum (fun i => q_cnt (fun j => dg i = dg j ∧ i < j ∧ T i < T j) (w + 1)) w + q_cnt (fun j => dg w = dg j ∧ w < j ∧ T w < T j) (w + 1) = q_pc T dg w + q_cnt (fun j => dg j = dg w ∧ T j < T w) w
    have e0 : q_cnt (fun j => dg w = dg j ∧ w < j ∧ T w < T j) (w + 1) = 0 := by
      have key : ∀ a, a ≤ w + 1 → q_cnt (fun j => dg w = dg j ∧ w < j ∧ T w < T j) a = 0 := by
        intro a
        induction a with
        | zero => intro _; rfl
        | succ a ih => intro ha; rw [q_cnt_n (fun y => by have := y.2.1; omega)]; exact ih (by omega)
      exact key (w + 1) (Nat.le_refl _)
    have e1 : q_sum (fun i => q_cnt (fun j => dg i = dg j ∧ i < j ∧ T i < T j) (w + 1)) w = q_sum (fun i => q_cnt (fun j => dg i = dg j ∧ i < j ∧ T i < T j) w + q_if (dg i = dg w ∧ T i < T w) 1 0) w := q_sum_cg (fun i hi => by
      show q_cnt (fun j => dg i = dg j ∧ i < j ∧ T i < T j) w + q_if (dg i = dg w ∧ i < w ∧ T i < T w) 1 0 = _
      rw [q_if_cg (P := dg i = dg w ∧ i < w ∧ T i < T w) (R := dg i = dg w ∧ T i < T w) ⟨fun y => ⟨y.1, y.2.2⟩, fun y => ⟨y.1, hi, y.2⟩⟩])
    rw [e0, e1, q_sum_add, q_pairs w]
    rfl
theorem q_cost_pc : q_cost S w c = q_if (q_vd w c) (nI (q_pc (fun j => S 28 (q_wq S j)) (q_dg w c) w)) (-1) := by
  have e30 : ∀ i, i < w → q_wm S w c 0 30 i = nI (q_dg w c i) := fun i hi => q_if_t ⟨rfl, Nat.zero_le _, hi⟩
  have e27 : q_wm S w c 0 27 = S 27 := q_wm_k (by decide)
  have e28 : q_wm S w c 0 28 = S 28 := q_wm_k (by decide)
  have ewq : ∀ j, q_wq (q_wm S w c 0) j = q_wq S j := fun j => by unfold q_wq; rw [e27]
  have eq30 : ∀ i j, i < w → j < w → (q_wm S w c 0 30 i = q_wm S w c 0 30 j ↔ q_dg w c i = q_dg w c j) := fun i j hi hj => by
    rw [e30 i hi, e30 j hj]
    exact nI_eq (by have := q_dg_lt (w := w) (c := c) (i := i); omega) (by have := q_dg_lt (w := w) (c := c) (i := j); omega)
  have er : ∀ i, i < w → q_roadN (q_wm S w c 0) w i = q_cnt (fun j => q_dg w c j = q_dg w c i) w := fun i hi => q_cnt_cg (fun j hj => (eq30 i j hi hj).trans ⟨fun y => y.symm, fun y => y.symm⟩)
  have hv : (∃ i, i < w ∧ 4 < q_roadN (q_wm S w c 0) w i) ↔ ¬ q_vd w c := by
    constructor
    · rintro ⟨i, hi, h4⟩ h
      rw [er i hi] at h4
      have := h (q_dg w c i) q_dg_lt
      omega
    · intro h
      have h2 : ∃ r, ¬ (r < 3 → q_cnt (fun j => q_dg w c j = r) w ≤ 4) := Classical.not_forall.mp h
      obtain ⟨r, hr⟩ := h2
      have h3 : 4 < q_cnt (fun j => q_dg w c j = r) w := by
        by_cases c4 : q_cnt (fun j => q_dg w c j = r) w ≤ 4
        · exact absurd (fun _ => c4) hr
        · omega
      obtain ⟨i, hi, e⟩ := q_cnt_pos (show 0 < q_cnt (fun j => q_dg w c j = r) w by omega)
      refine ⟨i, hi, ?_⟩
      rw [er i hi, e]
      exact h3
  unfold q_cost q_mo
  by_cases h : q_vd w c
  · rw [q_if_t h, q_if_f (fun y => hv.mp y h)]
    congr 1
    rw [← q_pairs w]
    refine q_sum_cg (fun i hi => q_cnt_cg (fun j hj => ?_))
    unfold q_inv
    rw [eq30 i j hi hj, ewq, ewq, e28]
  · rw [q_if_f h, q_if_t (hv.mpr h)]
/-- the best of the first c -/
theorem q_bst_fo (h8 : w ≤ 8) : ∀ c, q_bst S w c = (q_fo (fun j => S 28 (q_wq S j)) w (1000, none) 0 c).2 ∧ (∀ b, (q_fo (fun j => S 28 (q_wq S j)) w (1000, none) 0 c).2 = some b → (q_fo (fun j => S 28 (q_wq S j)) w (1000, none) 0 c).1 = q_pc (fun j => S 28 (q_wq S j)) (q_dg w b) w ∧ q_vd w b) ∧ ((q_fo (fun j => S 28 (q_wq S j)) w (1000, none) 0 c).2 = none → (q_fo (fun j => S 28 (q_wq S j)) w (1000, none) 0 c).1 = 1000) ∧ ∀ c', c' < c → q_vd w c' → (q_fo (fun j => S 28 (q_wq S j)) w (1000, none) 0 c).1 ≤ q_pc (fun j => S 28 (q_wq S j)) (q_dg w c') w
  | 0 => ⟨rfl, fun b h => (by cases h), fun _ => rfl, fun c' h => by omega⟩
  | c + 1 => by
    obtain ⟨h1, h2, h3, h4⟩ := q_bst_fo h8 c
    have hlt := q_pc_le (T := fun j => S 28 (q_wq S j)) (dg := q_dg w c) h8
    have hcost := q_cost_pc (S := S) (w := w) (c := c)
    show q_bst S w (c + 1) = (q_fF (fun j => S 28 (q_wq S j)) w (q_fo (fun j => S 28 (q_wq S j)) w (1000, none) 0 c) (0 + c)).2 ∧ (∀ b, (q_fF (fun j => S 28 (q_wq S j)) w (q_fo (fun j => S 28 (q_wq S j)) w (1000, none) 0 c) (0 + c)).2 = some b → (q_fF (fun j => S 28 (q_wq S j)) w (q_fo (fun j => S 28 (q_wq S j)) w (1000, none) 0 c) (0 + c)).1 = _ ∧ q_vd w b) ∧ ((q_fF (fun j => S 28 (q_wq S j)) w (q_fo (fun j => S 28 (q_wq S j)) w (1000, none) 0 c) (0 + c)).2 = none → (q_fF (fun j => S 28 (q_wq S j)) w (q_fo (fun j => S 28 (q_wq S j)) w (1000, none) 0 c) (0 + c)).1 = 1000) ∧ ∀ c', c' < c + 1 → q_vd w c' → (q_fF (fun j => S 28 (q_wq S j)) w (q_fo (fun j => S 28 (q_wq S j)) w (1000, none) 0 c) (0 + c)).1 ≤ _
    rw [Nat.zero_add]
    generalize q_fo (fun j => S 28 (q_wq S j)) w (1000, none) 0 c = f at *
    by_cases hv : q_vd w c
    · rw [q_if_t hv] at hcost
      have hne : ¬ q_cost S w c = -1 := by
        rw [hcost, ww_eq, nI_toInt (by omega), show (-1 : Int32).toInt = -1 from rfl]
        omega
      by_cases hl : q_pc (fun j => S 28 (q_wq S j)) (q_dg w c) w < f.1
      · have ef : q_fF (fun j => S 28 (q_wq S j)) w f c = (q_pc (fun j => S 28 (q_wq S j)) (q_dg w c) w, some c) := q_if_t ⟨hv, hl⟩
        rw [ef]
        refine ⟨?_, fun b hb => by cases hb; exact ⟨rfl, hv⟩, fun hb => (by cases hb), fun c' hc' hv' => ?_⟩
        · cases hb : q_bst S w c with
          | none => exact q_bst_2 hne hb
          | some b =>
            obtain ⟨e1, e2⟩ := h2 b (h1.symm.trans hb)
            refine q_bst_3 hne hb ?_
            have hcb := q_cost_pc (S := S) (w := w) (c := b)
            rw [q_if_t e2] at hcb
            have hlb := q_pc_le (T := fun j => S 28 (q_wq S j)) (dg := q_dg w b) h8
            rw [hcost, hcb]
            exact nI_lt (by omega) (by omega)
        · show q_pc (fun j => S 28 (q_wq S j)) (q_dg w c) w ≤ _
          by_cases e : c' = c
          · rw [e]; exact Nat.le_refl _
          · have := h4 c' (by omega) hv'
            omega
      · have ef : q_fF (fun j => S 28 (q_wq S j)) w f c = f := q_if_f (fun y => hl y.2)
        rw [ef]
        refine ⟨?_, h2, h3, fun c' hc' hv' => ?_⟩
        · cases hb : q_bst S w c with
          | none =>
            have := h3 (h1.symm.trans hb)
            omega
          | some b =>
            obtain ⟨e1, e2⟩ := h2 b (h1.symm.trans hb)
            have hcb := q_cost_pc (S := S) (w := w) (c := b)
            rw [q_if_t e2] at hcb
            have hlb := q_pc_le (T := fun j => S 28 (q_wq S j)) (dg := q_dg w b) h8
            refine (q_bst_4 hne hb ?_).trans (hb.symm.trans h1)
            rw [hcost, hcb]
            exact nI_nlt (by omega) (by omega)
        · by_cases e : c' = c
          · rw [e]; omega
          · exact h4 c' (by omega) hv'
    · rw [q_if_f hv] at hcost
      have ef : q_fF (fun j => S 28 (q_wq S j)) w f c = f := q_if_f (fun y => hv y.1)
      rw [ef]
      refine ⟨(q_bst_1 hcost).trans h1, h2, h3, fun c' hc' hv' => h4 c' ?_ hv'⟩
      have : c' ≠ c := fun e => hv (e ▸ hv')
      omega
/-- a plan that holds: the trains in turn -/
def q_c0 : Nat → Nat
  | 0 => 0
  | w + 1 => 3 * q_c0 w + w % 3
theorem q_c0_lt : ∀ w, q_c0 w < 3 ^ w
  | 0 => by decide
  | w + 1 => by
    have := q_c0_lt w
    rw [Nat.pow_succ]
    show 3 * q_c0 w + w % 3 < _
    omega
theorem q_c0_dg : ∀ w j, j < w → q_dg w (q_c0 w) j = j % 3
  | 0, j, h => by omega
  | w + 1, j, h => by
    show q_dg (w + 1) (3 * q_c0 w + w % 3) j = j % 3
    by_cases c : j = w
    · rw [c]; exact q_dg_ci (Nat.mod_lt _ (by decide))
    · rw [q_dg_ch (by omega) (Nat.mod_lt _ (by decide))]
      exact q_c0_dg w j (by omega)
theorem q_c0_cnt (hr : r < 3) : ∀ w, q_cnt (fun j => j % 3 = r) w = (w + 2 - r) / 3
  | 0 => by show 0 = (0 + 2 - r) / 3; omega
  | w + 1 => by
    by_cases c : w % 3 = r
    · rw [q_cnt_s (P := fun j => j % 3 = r) c, q_c0_cnt hr w]; omega
    · rw [q_cnt_n (P := fun j => j % 3 = r) c, q_c0_cnt hr w]; omega
theorem q_c0_vd (h8 : w ≤ 8) : q_vd w (q_c0 w) := fun r hr => by
  rw [q_cnt_cg (R := fun j => j % 3 = r) (fun j hj => by rw [q_c0_dg w j hj]), q_c0_cnt hr]
  omega
/-- the search, the count without it, and all tried: the same -/
theorem q_best (h8 : w ≤ 8) : ∃ b best, q_bst S w (3 ^ w) = some b ∧ q_vd w b ∧ best ≤ 64 ∧ q_pb S w = nI best ∧ (∀ bl p0, q_bw (fun j => S 28 (q_wq S j)) w bl → (q_df bl w 0 0 0 (1000, p0)).1 = best ∧ q_mk (q_dg w b) w (q_df bl w 0 0 0 (1000, p0)).2) ∧ ∀ bl, q_bw (fun j => S 28 (q_wq S j)) w bl → q_fm bl w 0 0 = best := by
  obtain ⟨h1, h2, h3, h4⟩ := q_bst_fo (S := S) h8 (3 ^ w)
  have hv := h4 (q_c0 w) (q_c0_lt w) (q_c0_vd h8)
  have hle := q_pc_le (T := fun j => S 28 (q_wq S j)) (dg := q_dg w (q_c0 w)) h8
  cases hf : (q_fo (fun j => S 28 (q_wq S j)) w (1000, none) 0 (3 ^ w)).2 with
  | none => have := h3 hf; omega
  | some b =>
    obtain ⟨e1, e2⟩ := h2 b hf
    have hcb := q_cost_pc (S := S) (w := w) (c := b)
    rw [q_if_t e2] at hcb
    have hb : q_bst S w (3 ^ w) = some b := h1.trans hf
    have ok0 : ∀ r, r < 3 → q_cnt (fun j => q_dg 0 0 j = r) 0 ≤ 4 := fun r _ => Nat.zero_le _
    refine ⟨b, q_pc (fun j => S 28 (q_wq S j)) (q_dg w b) w, hb, e2, ?_, ?_, fun bl p0 hbl => ?_, fun bl hbl => ?_⟩
    · omega
    · unfold q_pb
      rw [hb]
      exact hcb
    · have hs := q_df_spec hbl h8 w 0 0 0 0 (1000, p0) none (by omega) q_mk_0 rfl ok0 (fun c hc => by cases hc)
      rw [Nat.zero_mul] at hs
      exact ⟨hs.1.trans e1, hs.2 b hf⟩
    · obtain ⟨s1, s2⟩ := q_fm_spec hbl h8 w 0 0 0 (by omega) q_mk_0 ok0
      rw [Nat.zero_mul, Nat.zero_add] at s1 s2
      have hbl3 := q_bst_ne hb
      have t1 := s1 b (Nat.zero_le _) hbl3.2 e2
      have t0 : q_pc (fun j => S 28 (q_wq S j)) (q_dg 0 0) 0 = 0 := rfl
      rw [t0] at t1 s2
      rcases s2 with s2 | ⟨c, _, c2, c3, c4⟩
      · omega
      · have := h4 c c2 c3
        omega
end WWQ7
