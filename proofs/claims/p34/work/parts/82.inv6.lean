section WWQ8
variable {S X : Nat → Nat → Int32} {E : Nat → Nat → Int32} {z D d : Nat → Nat} {n u w m b p r k i i0 : Nat} {T : Nat → Int32}
theorem q_cnt_at {P : Nat → Prop} : ∀ {w k : Nat}, k < q_cnt P w → ∃ i, i < w ∧ P i ∧ q_cnt P i = k
  | 0, k, h => absurd h (by show ¬ k < 0; omega)
  | w + 1, k, h => by
    by_cases c : P w
    · rw [q_cnt_s c] at h
      by_cases e : k = q_cnt P w
      · exact ⟨w, by omega, c, e.symm⟩
      · obtain ⟨i, hi, h1, h2⟩ := q_cnt_at (P := P) (w := w) (k := k) (by omega)
        exact ⟨i, by omega, h1, h2⟩
    · rw [q_cnt_n c] at h
      obtain ⟨i, hi, h1, h2⟩ := q_cnt_at (P := P) (w := w) (k := k) h
      exact ⟨i, by omega, h1, h2⟩
/-! the night -/
theorem q_ns_12 (h12 : X 12 = S 12) (h27 : X 27 = S 27) : ∀ i, q_ns X d i 12 = q_st S i 12
  | 0 => h12
  | i + 1 => by
    have ewq : q_wq X i = q_wq S i := by unfold q_wq; rw [h27]
    funext j
    show ww_u2 (ww_u2 (ww_u2 (q_ns X d i) 32 _ _) 31 _ _) 12 (q_wq X i) 1 12 j = ww_u2 (q_st S i) 12 (q_wq S i) 1 12 j
    rw [ewq]
    by_cases c : j = q_wq S i
    · rw [c, ww_u2s, ww_u2s]
    · rw [ww_u2n (fun y => c y.2), ww_u2n (fun y => absurd y.1 (by decide)), ww_u2n (fun y => absurd y.1 (by decide)), q_ns_12 h12 h27 i, ww_u2n (fun y => c y.2)]
theorem q_ns_32 (h4 : ∀ j, j < w → q_cnt (fun l => d l = d j) j < 4) : ∀ i, i ≤ w → ∀ j, j < i → q_ns X d i 32 (4 * d j + q_cnt (fun l => d l = d j) j) = X 27 j
  | 0, _, j, hj => by omega
  | i + 1, hi, j, hj => by
    show ww_u2 (ww_u2 (ww_u2 (q_ns X d i) 32 (4 * d i + q_cnt (fun l => d l = d i) i) (X 27 i)) 31 _ _) 12 _ _ 32 _ = X 27 j
    rw [ww_u2n (fun y => absurd y.1 (by decide)), ww_u2n (fun y => absurd y.1 (by decide))]
    by_cases c : j = i
    · rw [c, ww_u2s]
    · rw [ww_u2n (fun y => ?_)]
      · exact q_ns_32 h4 i (by omega) j (by omega)
      · have y := y.2
        have a1 := h4 j (by omega)
        have a2 := h4 i (by omega)
        have e : d j = d i := by omega
        have := q_cnt_lt2 (P := fun l => d l = d i) (show j < i by omega) e
        rw [e] at y
        omega
theorem q_st_12 {p : Nat} : ∀ i, q_st S i 12 p = 1 → S 12 p = 1 ∨ ∃ j, j < i ∧ q_wq S j = p
  | 0, h => Or.inl h
  | i + 1, h => by
    by_cases c : p = q_wq S i
    · exact Or.inr ⟨i, by omega, c.symm⟩
    · rw [show q_st S (i + 1) 12 p = q_st S i 12 p from ww_u2n (fun y => c y.2)] at h
      exact (q_st_12 i h).imp id (fun ⟨j, hj, e⟩ => ⟨j, by omega, e⟩)
theorem q_st_12b : ∀ i j, j < i → q_st S i 12 (q_wq S j) = 1
  | 0, j, h => by omega
  | i + 1, j, h => by
    by_cases c : q_wq S j = q_wq S i
    · rw [c]; exact ww_u2s
    · refine (ww_u2n (fun y => c y.2)).trans (q_st_12b i j ?_)
      have : j ≠ i := fun e => c (by rw [e])
      omega
theorem q_st_o {j : Nat} : ∀ i, (∀ l, l < i → q_wq S l ≠ j) → q_st S i 12 j = S 12 j
  | 0, _ => rfl
  | i + 1, h => (ww_u2n (fun y => h i (by omega) y.2.symm)).trans (q_st_o i (fun l hl => h l (by omega)))
theorem q_st_b (h : q_bool S 12) : ∀ i, q_bool (q_st S i) 12
  | 0 => h
  | i + 1 => fun j => by
    by_cases c : j = q_wq S i
    · exact Or.inr (by rw [c]; exact ww_u2s)
    · rw [show q_st S (i + 1) 12 j = q_st S i 12 j from ww_u2n (fun y => c y.2)]
      exact q_st_b h i j
theorem q_night_k {j : Nat} (h : j ≠ 0 ∧ j ≠ 12 ∧ j ≠ 26 ∧ j ≠ 29 ∧ j ≠ 30 ∧ j ≠ 31 ∧ j ≠ 32) : q_us (q_ns (q_plans (q_us S 0 0) w) d w) 26 0 j = S j := by
  funext l
  show (if j = 26 then 0 else q_ns (q_plans (q_us S 0 0) w) d w j l) = S j l
  rw [if_neg h.2.2.1, q_ns_k ⟨h.2.2.2.2.2.2, h.2.2.2.2.2.1, h.2.1⟩]
  exact (congrFun (q_pl_k ⟨h.2.2.2.1, h.2.2.2.2.1⟩) l).trans (if_neg h.1)
theorem q_night_12 : q_us (q_ns (q_plans (q_us S 0 0) w) d w) 26 0 12 = q_st S w 12 := by
  have e : ∀ j, j ≠ 0 → j ≠ 29 → j ≠ 30 → q_plans (q_us S 0 0) w j = S j := fun j h0 h1 h2 => (q_pl_k ⟨h1, h2⟩).trans (funext fun l => if_neg h0)
  refine Eq.trans ?_ (q_ns_12 (d := d) (e 12 (by decide) (by decide) (by decide)) (e 27 (by decide) (by decide) (by decide)) w)
  funext l
  exact if_neg (by decide)
theorem q_all_night (H : q_all S E z D n u w 0 b) (h0 : 0 < w) (hd : ∀ i, i < w → d i < 3 ∧ q_cnt (fun j => d j = d i) w ≤ 4) : q_all (q_us (q_ns (q_plans (q_us S 0 0) w) d w) 26 0) E (q_wq S) d n u 0 w b := by
  obtain ⟨hA, ⟨hW, hB1, hB2, hB3⟩, hR, hD, hE, hF, hC, hH, hI, hJ, hu⟩ := H
  obtain ⟨⟨_, r1⟩, r2, r3, r4, r5, r6, r7⟩ := hR
  have e : ∀ j, (j ≠ 0 ∧ j ≠ 12 ∧ j ≠ 26 ∧ j ≠ 29 ∧ j ≠ 30 ∧ j ≠ 31 ∧ j ≠ 32) → q_us (q_ns (q_plans (q_us S 0 0) w) d w) 26 0 j = S j := fun j h => q_night_k h
  have e12 := q_night_12 (S := S) (w := w) (d := d)
  have ep : ∀ j, j ≠ 0 → j ≠ 29 → j ≠ 30 → q_plans (q_us S 0 0) w j = S j := fun j h0 h1 h2 => (q_pl_k ⟨h1, h2⟩).trans (funext fun l => if_neg h0)
  have h4 : ∀ j, j < w → q_cnt (fun l => d l = d j) j < 4 := fun j hj => by
    have := q_cnt_lt2 (P := fun l => d l = d j) hj rfl
    have := (hd j hj).2
    omega
  have e32 : ∀ j, j < w → q_us (q_ns (q_plans (q_us S 0 0) w) d w) 26 0 32 (4 * d j + q_cnt (fun l => d l = d j) j) = S 27 j := fun j hj => by
    refine Eq.trans (if_neg (by decide)) ((q_ns_32 h4 w (Nat.le_refl _) j hj).trans ?_)
    rw [ep 27 (by decide) (by decide) (by decide)]
  have e31 : ∀ r, r < 3 → q_us (q_ns (q_plans (q_us S 0 0) w) d w) 26 0 31 r = nI (q_cnt (fun j => d j = r) w) := fun r hr => by
    refine Eq.trans (if_neg (by decide)) (q_ns_31 ?_ w)
    rw [ep 31 (by decide) (by decide) (by decide), (r1 r hr).2.1, r6 r hr]
    exact nI_0
  have hc4 : ∀ r, r < 3 → q_cnt (fun j => d j = r) w ≤ 4 := fun r hr => by
    by_cases c : 0 < q_cnt (fun j => d j = r) w
    · obtain ⟨i, hi, ei⟩ := q_cnt_pos c
      have := (hd i hi).2
      rw [ei] at this
      exact this
    · omega
  have hrn : ∀ r, r < 3 → q_rn (q_us (q_ns (q_plans (q_us S 0 0) w) d w) 26 0) r = q_cnt (fun j => d j = r) w := fun r hr => by
    unfold q_rn
    rw [e31 r hr, nI_clamp (by have := hc4 r hr; omega)]
  have hrq : ∀ j, j < w → q_rq (q_us (q_ns (q_plans (q_us S 0 0) w) d w) 26 0) (d j) (q_cnt (fun l => d l = d j) j) = q_wq S j := fun j hj => by
    unfold q_rq
    rw [e32 j hj, (hW.2.2 j hj).2, nI_clamp (by have := (hW.2.2 j hj).1; have := hA.2.1; omega)]
  have e28 := e 28 (by decide)
  refine ⟨?_, ⟨⟨?_, by omega, fun i hi => by omega⟩, fun i j hi => by omega, fun i j hi => by omega, fun i hi => by omega⟩, ⟨⟨hW.2.1, fun r hr => ⟨?_, ?_, fun k hk => ?_⟩⟩, fun i hi => ⟨(hW.2.2 i hi).1, (hd i hi).1, ?_⟩, hB1, fun i j hi hj y => ?_, fun p hp y => ?_, hrn, hrq⟩, ?_, ?_, ?_, ?_, ?_, ?_, ?_, hu⟩
  · obtain ⟨g1, g2, g3, g4, g5, g6, g7, g8⟩ := hA
    refine ⟨by rw [e 1 (by decide)]; exact g1, g2, by rw [e 2 (by decide), e 5 (by decide)]; exact g3, by unfold q_bool; rw [e 9 (by decide)]; exact g4, by unfold q_bool; rw [e 10 (by decide)]; exact g5, by unfold q_bool; rw [e 11 (by decide)]; exact g6, by unfold q_bool; rw [e12]; exact q_st_b g7 w, by unfold q_bool; rw [e 17 (by decide)]; exact g8⟩
  · exact (if_pos rfl).trans nI_0.symm
  · rw [hrn r hr]; exact hc4 r hr
  · rw [hrn r hr]; exact e31 r hr
  · rw [hrn r hr] at hk
    obtain ⟨i, hi, e1, e2⟩ := q_cnt_at hk
    have h1 := hrq i hi
    have h2 := e32 i hi
    rw [e1, e2] at h1 h2
    rw [h1, h2]
    exact hW.2.2 i hi
  · rw [e12]; exact q_st_12b w i hi
  · rw [e28] at y
    exact hB2 i j hi hj y
  · rw [e12] at y
    rcases q_st_12 w y with y | y
    · obtain ⟨i, hi, _⟩ := r5 p hp y
      omega
    · exact y
  · rw [e 6 (by decide), e 9 (by decide), e 18 (by decide), e 19 (by decide)]; exact hD
  · rw [e 2 (by decide), e 13 (by decide), e 14 (by decide), e 15 (by decide), e 16 (by decide), e 17 (by decide)]; exact hE
  · rw [e 2 (by decide), e 5 (by decide), e 9 (by decide), e 11 (by decide), e 13 (by decide), e 14 (by decide)]; exact hF
  · rw [e 2 (by decide), e 5 (by decide)]; exact hC
  · rw [e 4 (by decide)]; exact hH
  · intro i hi h60
    unfold q_nil
    rw [e 6 (by decide), e 7 (by decide), e 8 (by decide), e 9 (by decide), e 10 (by decide), e 11 (by decide), e12, q_st_o w (fun l hl y => by have := (hW.2.2 l hl).1; omega), e 15 (by decide), e 17 (by decide), e 18 (by decide), e 19 (by decide), e28]
    exact hI i hi h60
  · rw [e 23 (by decide), e 5 (by decide), e 6 (by decide), e 24 (by decide), e 25 (by decide)]; exact hJ
/-! out -/
theorem q_mi_min : ∀ {m : Nat}, ∀ j, j < m → (T (q_mi T m)).toInt ≤ (T j).toInt
  | 0, j, h => by omega
  | m + 1, j, h => by
    unfold q_mi
    by_cases c : T m < T (q_mi T m)
    · rw [if_pos c]
      rw [ww_lt] at c
      by_cases e : j = m
      · rw [e]; omega
      · have := q_mi_min (m := m) j (by omega)
        omega
    · rw [if_neg c]
      rw [ww_lt] at c
      by_cases e : j = m
      · rw [e]; omega
      · exact q_mi_min j (by omega)
def q_lem (S : Nat → Nat → Int32) (o : Option (Nat × Nat)) (r k : Nat) : Prop := ∃ r0 k0, o = some (r0, k0) ∧ (q_tm S r0 k0).toInt ≤ (q_tm S r k).toInt
theorem q_sc_min {o : Option (Nat × Nat)} : ∀ k, (∀ r' k', q_lem S o r' k' → q_lem S (q_sc S o r k) r' k') ∧ ∀ k', k' < k → q_lem S (q_sc S o r k) r k'
  | 0 => ⟨fun _ _ h => h, fun k' h => by omega⟩
  | k + 1 => by
    obtain ⟨h1, h2⟩ := q_sc_min (o := o) k
    by_cases c : q_bet S (q_sc S o r k) r k
    · have e : q_sc S o r (k + 1) = some (r, k) := q_if_t c
      have key : ∀ r' k', q_lem S (q_sc S o r k) r' k' → q_lem S (q_sc S o r (k + 1)) r' k' := fun r' k' ⟨r0, k0, e0, h0⟩ => by
        rw [e]
        refine ⟨r, k, rfl, ?_⟩
        rw [e0] at c
        have c : q_tm S r k < q_tm S r0 k0 := c
        rw [ww_lt] at c
        omega
      refine ⟨fun r' k' h => key r' k' (h1 r' k' h), fun k' hk => ?_⟩
      by_cases ek : k' = k
      · rw [e, ek]; exact ⟨r, k, rfl, Int.le_refl _⟩
      · exact key r k' (h2 k' (by omega))
    · have e : q_sc S o r (k + 1) = q_sc S o r k := q_if_f c
      rw [e]
      refine ⟨h1, fun k' hk => ?_⟩
      by_cases ek : k' = k
      · cases ho : q_sc S o r k with
        | none => rw [ho] at c; exact absurd trivial c
        | some x =>
          obtain ⟨r0, k0⟩ := x
          rw [ho] at c
          have c : ¬ q_tm S r k < q_tm S r0 k0 := c
          rw [ww_lt] at c
          exact ⟨r0, k0, rfl, by rw [ek]; omega⟩
      · exact h2 k' (by omega)
theorem q_scR_min : ∀ R, ∀ r' k', r' < R → k' < q_rn S r' → q_lem S (q_scR S R) r' k'
  | 0, r', k', h, _ => by omega
  | R + 1, r', k', h, hk => by
    obtain ⟨h1, h2⟩ := q_sc_min (S := S) (o := q_scR S R) (r := R) (q_rn S R)
    by_cases e : r' = R
    · rw [e] at hk ⊢
      exact h2 k' hk
    · exact h1 r' k' (q_scR_min R r' k' (by omega) hk)
/-- who goes out, by the one and by the other -/
theorem q_out_who (H : q_all S E z D n u w m b) (h0 : 0 < m) : ∃ k, q_scR S 3 = some (D (q_mi (fun j => S 28 (z j)) m), k) ∧ k = q_cnt (fun j => D j = D (q_mi (fun j => S 28 (z j)) m)) (q_mi (fun j => S 28 (z j)) m) := by
  obtain ⟨hA, hB, ⟨⟨_, r1⟩, r2, r3, r4, r5, r6, r7⟩, _⟩ := H
  have hlt := q_mi_lt (fun j => S 28 (z j)) h0
  have hmin := q_mi_min (T := fun j => S 28 (z j)) (m := m)
  generalize q_mi (fun j => S 28 (z j)) m = i0 at hlt hmin ⊢
  have hd := (r2 i0 hlt).2.1
  have hk0 : q_cnt (fun j => D j = D i0) i0 < q_rn S (D i0) := by rw [r6 _ hd]; exact q_cnt_lt2 hlt rfl
  obtain ⟨r, k, e, hle⟩ := q_scR_min (S := S) 3 (D i0) _ hd hk0
  obtain ⟨hr3, hkr⟩ := q_scR_in (S := S) (Nat.le_refl 3) r k e
  rw [r6 r hr3] at hkr
  obtain ⟨i, hi, e1, e2⟩ := q_cnt_at hkr
  have h7 := r7 i hi
  have h70 := r7 i0 hlt
  rw [e1, e2] at h7
  unfold q_tm at hle
  rw [h7, h70] at hle
  have hm := hmin i hi
  have hm : (S 28 (z i0)).toInt ≤ (S 28 (z i)).toInt := hm
  have ei : i = i0 := r4 i i0 hi hlt (by rw [ww_eq]; omega)
  subst ei
  rw [← e1] at e2
  exact ⟨k, by rw [e, e1], e2.symm⟩
theorem q_cnt_del {x : Nat} : ∀ i, i0 ≤ i → q_cnt (fun j => q_del D i0 j = x) i + q_if (D i0 = x) 1 0 = q_cnt (fun j => D j = x) (i + 1)
  | i, h => by
    induction i with
    | zero =>
      have e : i0 = 0 := by omega
      subst e
      rfl
    | succ i ih =>
      by_cases c : i0 = i + 1
      · subst c
        show q_cnt (fun j => q_del D (i + 1) j = x) (i + 1) + q_if (D (i + 1) = x) 1 0 = q_cnt (fun j => D j = x) (i + 1) + q_if (D (i + 1) = x) 1 0
        rw [q_cnt_cg (R := fun j => D j = x) (fun j hj => by unfold q_del; rw [if_pos hj])]
      · have ih := ih (by omega)
        have e : q_del D i0 i = D (i + 1) := if_neg (by omega)
        show (q_cnt (fun j => q_del D i0 j = x) i + q_if (q_del D i0 i = x) 1 0) + q_if (D i0 = x) 1 0 = q_cnt (fun j => D j = x) (i + 1) + q_if (D (i + 1) = x) 1 0
        rw [e]
        omega
theorem q_cnt_aft {x : Nat} : ∀ i, i0 ≤ i → q_cnt (fun j => i0 ≤ j ∧ D (j + 1) = x) i + q_cnt (fun j => D j = x) (i0 + 1) = q_cnt (fun j => D j = x) (i + 1)
  | i, h => by
    induction i with
    | zero =>
      have e : i0 = 0 := by omega
      subst e
      show 0 + _ = _
      omega
    | succ i ih =>
      by_cases c : i0 = i + 1
      · subst c
        have key : ∀ a, a ≤ i + 1 → q_cnt (fun j => i + 1 ≤ j ∧ D (j + 1) = x) a = 0 := by
          intro a
          induction a with
          | zero => intro _; rfl
          | succ a iha => intro ha; rw [q_cnt_n (fun y => by have := y.1; omega)]; exact iha (by omega)
        rw [key (i + 1) (Nat.le_refl _), Nat.zero_add]
      · have ih := ih (by omega)
        show (q_cnt (fun j => i0 ≤ j ∧ D (j + 1) = x) i + q_if (i0 ≤ i ∧ D (i + 1) = x) 1 0) + q_cnt (fun j => D j = x) (i0 + 1) = q_cnt (fun j => D j = x) (i + 1) + q_if (D (i + 1) = x) 1 0
        rw [q_if_cg (P := i0 ≤ i ∧ D (i + 1) = x) (R := D (i + 1) = x) ⟨fun y => y.2, fun y => ⟨by omega, y⟩⟩]
        omega
theorem q_all_out (H : q_all S E z D n u w m b) (h0 : 0 < m) (hi0 : i0 < m) (hr : r = D i0) (hk : k = q_cnt (fun j => D j = D i0) i0) : q_all (q_out (q_us S 0 0) r k) E (q_del z i0) (q_del D i0) n u w (m - 1) b ∧ (∀ j, ww_us j = true → q_out (q_us S 0 0) r k j = ww_u2 S 12 (z i0) 0 j) ∧ q_rn S r - 1 - k = q_cnt (fun j => i0 ≤ j ∧ D (j + 1) = D i0) (m - 1) := by
  obtain ⟨hA, hB, ⟨⟨r0, r1⟩, r2, r3, r4, r5, r6, r7⟩, hD, hE, hF, hC, hH, hI, hJ, hu⟩ := H
  have hd := (r2 i0 hi0).2.1
  have erq : q_rq S r k = z i0 := by rw [hr, hk]; exact r7 i0 hi0
  have hkr : k < q_rn S r := by rw [hr, hk, r6 _ hd]; exact q_cnt_lt2 hi0 rfl
  have hr3 : r < 3 := by rw [hr]; exact hd
  have hrn4 := (r1 r hr3).1
  have eS : ∀ j l, j ≠ 0 → q_us S 0 0 j l = S j l := fun j l h => if_neg h
  have ek : ∀ j, j ≠ 0 → j ≠ 12 → j ≠ 31 → j ≠ 32 → q_out (q_us S 0 0) r k j = S j := fun j h0 h12 h31 h32 => by
    funext l
    unfold q_out q_sh
    rw [ww_u2n (fun y => h31 y.1), q_if_f (fun y => h32 y.1), ww_u2n (fun y => h12 y.1)]
    exact eS j l h0
  have e12 : ∀ l, q_out (q_us S 0 0) r k 12 l = ww_u2 S 12 (z i0) 0 12 l := fun l => by
    unfold q_out q_sh
    rw [ww_u2n (fun y => absurd y.1 (by decide)), q_if_f (fun y => absurd y.1 (by decide)), show q_rq (q_us S 0 0) r k = z i0 from erq]
    by_cases c : l = z i0
    · rw [c, ww_u2s, ww_u2s]
    · rw [ww_u2n (fun y => c y.2), ww_u2n (fun y => c y.2)]
      exact eS 12 l (by decide)
  have e31 : ∀ l, q_out (q_us S 0 0) r k 31 l = if l = r then nI (q_rn S r - 1) else S 31 l := fun l => by
    unfold q_out q_sh
    by_cases c : l = r
    · rw [if_pos c, c, ww_u2s]; rfl
    · rw [if_neg c, ww_u2n (fun y => c y.2), q_if_f (fun y => absurd y.1 (by decide)), ww_u2n (fun y => absurd y.1 (by decide))]
      exact eS 31 l (by decide)
  have e32 : ∀ l, q_out (q_us S 0 0) r k 32 l = q_if (4 * r + k ≤ l ∧ l < 4 * r + (q_rn S r - 1)) (S 32 (l + 1)) (S 32 l) := fun l => by
    unfold q_out q_sh
    rw [ww_u2n (fun y => absurd y.1 (by decide)), q_if_cg (P := (32 : Nat) = 32 ∧ 4 * r + k ≤ l ∧ l < 4 * r + (q_rn (q_us S 0 0) r - 1)) (R := 4 * r + k ≤ l ∧ l < 4 * r + (q_rn S r - 1)) ⟨fun y => y.2, fun y => ⟨rfl, y⟩⟩]
    rfl
  have ern : ∀ l, l < 3 → q_rn (q_out (q_us S 0 0) r k) l = if l = r then q_rn S r - 1 else q_rn S l := fun l hl => by
    show (q_out (q_us S 0 0) r k 31 l).toNatClampNeg = _
    rw [e31]
    by_cases c : l = r
    · rw [if_pos c, if_pos c, nI_clamp (by omega)]
    · rw [if_neg c, if_neg c]; rfl
  have erqo : ∀ l j, l < 3 → j < 4 → l ≠ r → q_rq (q_out (q_us S 0 0) r k) l j = q_rq S l j ∧ q_out (q_us S 0 0) r k 32 (4 * l + j) = S 32 (4 * l + j) := fun l j hl hj hne => by
    have e : q_out (q_us S 0 0) r k 32 (4 * l + j) = S 32 (4 * l + j) := by rw [e32, q_if_f (fun y => by omega)]
    exact ⟨by unfold q_rq; rw [e], e⟩
  have erql : ∀ j, j < k → q_rq (q_out (q_us S 0 0) r k) r j = q_rq S r j ∧ q_out (q_us S 0 0) r k 32 (4 * r + j) = S 32 (4 * r + j) := fun j hj => by
    have e : q_out (q_us S 0 0) r k 32 (4 * r + j) = S 32 (4 * r + j) := by rw [e32, q_if_f (fun y => by omega)]
    exact ⟨by unfold q_rq; rw [e], e⟩
  have erqg : ∀ j, k ≤ j → j < q_rn S r - 1 → q_rq (q_out (q_us S 0 0) r k) r j = q_rq S r (j + 1) ∧ q_out (q_us S 0 0) r k 32 (4 * r + j) = S 32 (4 * r + (j + 1)) := fun j hj hj2 => by
    have e : q_out (q_us S 0 0) r k 32 (4 * r + j) = S 32 (4 * r + (j + 1)) := by rw [e32, q_if_t ⟨by omega, by omega⟩, Nat.add_assoc]
    exact ⟨by unfold q_rq; rw [e], e⟩
  have hcm := q_cnt_del (D := D) (i0 := i0) (x := r) (m - 1) (by omega)
  have hca := q_cnt_aft (D := D) (i0 := i0) (x := D i0) (m - 1) (by omega)
  rw [show m - 1 + 1 = m by omega] at hcm hca
  refine ⟨⟨?_, ?_, ⟨⟨by omega, fun l hl => ?_⟩, fun i hi => ?_, fun i j hi hj y => ?_, fun i j hi hj y => ?_, fun p hp y => ?_, fun l hl => ?_, fun i hi => ?_⟩, ?_, ?_, ?_, ?_, ?_, ?_, ?_, hu⟩, fun j hj => ?_, ?_⟩
  · obtain ⟨g1, g2, g3, g4, g5, g6, g7, g8⟩ := hA
    refine ⟨by rw [ek 1 (by decide) (by decide) (by decide) (by decide)]; exact g1, g2, by rw [ek 2 (by decide) (by decide) (by decide) (by decide), ek 5 (by decide) (by decide) (by decide) (by decide)]; exact g3, by unfold q_bool; rw [ek 9 (by decide) (by decide) (by decide) (by decide)]; exact g4, by unfold q_bool; rw [ek 10 (by decide) (by decide) (by decide) (by decide)]; exact g5, by unfold q_bool; rw [ek 11 (by decide) (by decide) (by decide) (by decide)]; exact g6, fun l => ?_, by unfold q_bool; rw [ek 17 (by decide) (by decide) (by decide) (by decide)]; exact g8⟩
    rw [e12]
    by_cases c : l = z i0
    · rw [c, ww_u2s]; exact Or.inl rfl
    · rw [ww_u2n (fun y => c y.2)]; exact g7 l
  · obtain ⟨b1, b2, b3, b4⟩ := hB
    have ewq : q_wq (q_out (q_us S 0 0) r k) = q_wq S := funext fun i => by unfold q_wq; rw [ek 27 (by decide) (by decide) (by decide) (by decide)]
    unfold q_iB q_W
    rw [ewq, ek 26 (by decide) (by decide) (by decide) (by decide), ek 27 (by decide) (by decide) (by decide) (by decide), ek 28 (by decide) (by decide) (by decide) (by decide)]
    refine ⟨b1, b2, b3, fun i hi => ?_⟩
    rw [e12]
    by_cases c : q_wq S i = z i0
    · rw [c, ww_u2s]
    · rw [ww_u2n (fun y => c y.2)]; exact b4 i hi
  · rw [ern l hl, e31]
    obtain ⟨a1, a2, a3⟩ := r1 l hl
    by_cases c : l = r
    · rw [if_pos c, if_pos c]
      rw [c] at a1 a3
      refine ⟨by omega, rfl, fun j hj => ?_⟩
      rw [c]
      by_cases cj : j < k
      · rw [(erql j cj).1, (erql j cj).2]; exact a3 j (by omega)
      · rw [(erqg j (by omega) hj).1, (erqg j (by omega) hj).2]; exact a3 (j + 1) (by omega)
    · rw [if_neg c, if_neg c]
      refine ⟨a1, a2, fun j hj => ?_⟩
      rw [(erqo l j hl (by omega) c).1, (erqo l j hl (by omega) c).2]
      exact a3 j hj
  · unfold q_del
    rw [e12]
    by_cases c : i < i0
    · rw [if_pos c, if_pos c]
      obtain ⟨a1, a2, a3⟩ := r2 i (by omega)
      refine ⟨a1, a2, ?_⟩
      rw [ww_u2n (fun y => by have := r3 i i0 (by omega) hi0 y.2; omega)]
      exact a3
    · rw [if_neg c, if_neg c]
      obtain ⟨a1, a2, a3⟩ := r2 (i + 1) (by omega)
      refine ⟨a1, a2, ?_⟩
      rw [ww_u2n (fun y => by have := r3 (i + 1) i0 (by omega) hi0 y.2; omega)]
      exact a3
  · unfold q_del at y
    by_cases ci : i < i0
    · rw [if_pos ci] at y
      by_cases cj : j < i0
      · rw [if_pos cj] at y; exact r3 i j (by omega) (by omega) y
      · rw [if_neg cj] at y; have := r3 i (j + 1) (by omega) (by omega) y; omega
    · rw [if_neg ci] at y
      by_cases cj : j < i0
      · rw [if_pos cj] at y; have := r3 (i + 1) j (by omega) (by omega) y; omega
      · rw [if_neg cj] at y; have := r3 (i + 1) (j + 1) (by omega) (by omega) y; omega
  · rw [ek 28 (by decide) (by decide) (by decide) (by decide)] at y
    unfold q_del at y
    by_cases ci : i < i0
    · rw [if_pos ci] at y
      by_cases cj : j < i0
      · rw [if_pos cj] at y; exact r4 i j (by omega) (by omega) y
      · rw [if_neg cj] at y; have := r4 i (j + 1) (by omega) (by omega) y; omega
    · rw [if_neg ci] at y
      by_cases cj : j < i0
      · rw [if_pos cj] at y; have := r4 (i + 1) j (by omega) (by omega) y; omega
      · rw [if_neg cj] at y; have := r4 (i + 1) (j + 1) (by omega) (by omega) y; omega
  · rw [e12] at y
    by_cases c : p = z i0
    · rw [c, ww_u2s] at y; exact absurd y (by decide)
    · rw [ww_u2n (fun y => c y.2)] at y
      obtain ⟨i, hi, ei⟩ := r5 p hp y
      have hne : i ≠ i0 := fun e => c (by rw [← ei, e])
      by_cases ci : i < i0
      · exact ⟨i, by omega, by unfold q_del; rw [if_pos ci]; exact ei⟩
      · exact ⟨i - 1, by omega, by unfold q_del; rw [if_neg (by omega), show i - 1 + 1 = i by omega]; exact ei⟩
  · rw [ern l hl]
    by_cases c : l = r
    · rw [if_pos c, c]
      rw [q_if_t hr.symm] at hcm
      have := r6 r hr3
      omega
    · rw [if_neg c, r6 l hl]
      have h := q_cnt_del (D := D) (i0 := i0) (x := l) (m - 1) (by omega)
      rw [show m - 1 + 1 = m by omega, q_if_f (fun y => c (y.symm.trans hr.symm))] at h
      omega
  · by_cases c : i < i0
    · have eD : q_del D i0 i = D i := if_pos c
      have ez : q_del z i0 i = z i := if_pos c
      have ec : q_cnt (fun j => q_del D i0 j = D i) i = q_cnt (fun j => D j = D i) i := q_cnt_cg (fun j hj => by unfold q_del; rw [if_pos (by omega)])
      rw [eD, ez, ec]
      have h7 := r7 i (by omega)
      have hDi := (r2 i (by omega)).2.1
      by_cases cr : D i = r
      · rw [cr] at h7 ⊢
        have hlt : q_cnt (fun j => D j = r) i < k := by
          rw [hk, ← hr]
          exact q_cnt_lt2 c cr
        rw [(erql _ hlt).1]
        exact h7
      · have h4 : q_cnt (fun j => D j = D i) i < 4 := by
          have := q_cnt_lt2 (P := fun j => D j = D i) (show i < m by omega) rfl
          have := (r1 (D i) hDi).1
          have := r6 (D i) hDi
          omega
        rw [(erqo (D i) _ hDi h4 cr).1]
        exact h7
    · have eD : q_del D i0 i = D (i + 1) := if_neg c
      have ez : q_del z i0 i = z (i + 1) := if_neg c
      rw [eD, ez]
      have h7 := r7 (i + 1) (by omega)
      have hDi := (r2 (i + 1) (by omega)).2.1
      have hc := q_cnt_del (D := D) (i0 := i0) (x := D (i + 1)) i (by omega)
      have hcl := q_cnt_lt2 (P := fun j => D j = D (i + 1)) (show i + 1 < m by omega) rfl
      have h64 := r6 (D (i + 1)) hDi
      have h44 := (r1 (D (i + 1)) hDi).1
      by_cases cr : D (i + 1) = r
      · rw [cr] at h7 hc hcl h64 ⊢
        rw [q_if_t hr.symm] at hc
        have hlt : k < q_cnt (fun j => D j = r) (i + 1) := by
          rw [hk, ← hr]
          exact q_cnt_lt2 (show i0 < i + 1 by omega) hr.symm
        rw [← hc] at h7 hcl hlt
        rw [(erqg _ (by omega) (by omega)).1]
        exact h7
      · rw [q_if_f (fun y => cr (y.symm.trans hr.symm)), Nat.add_zero] at hc
        rw [hc, (erqo (D (i + 1)) _ hDi (by omega) cr).1]
        exact h7
  · rw [ek 6 (by decide) (by decide) (by decide) (by decide), ek 9 (by decide) (by decide) (by decide) (by decide), ek 18 (by decide) (by decide) (by decide) (by decide), ek 19 (by decide) (by decide) (by decide) (by decide)]; exact hD
  · rw [ek 2 (by decide) (by decide) (by decide) (by decide), ek 13 (by decide) (by decide) (by decide) (by decide), ek 14 (by decide) (by decide) (by decide) (by decide), ek 15 (by decide) (by decide) (by decide) (by decide), ek 16 (by decide) (by decide) (by decide) (by decide), ek 17 (by decide) (by decide) (by decide) (by decide)]; exact hE
  · rw [ek 2 (by decide) (by decide) (by decide) (by decide), ek 5 (by decide) (by decide) (by decide) (by decide), ek 9 (by decide) (by decide) (by decide) (by decide), ek 11 (by decide) (by decide) (by decide) (by decide), ek 13 (by decide) (by decide) (by decide) (by decide), ek 14 (by decide) (by decide) (by decide) (by decide)]; exact hF
  · rw [ek 2 (by decide) (by decide) (by decide) (by decide), ek 5 (by decide) (by decide) (by decide) (by decide)]; exact hC
  · rw [ek 4 (by decide) (by decide) (by decide) (by decide)]; exact hH
  · intro i hi h60
    unfold q_nil
    rw [ek 6 (by decide) (by decide) (by decide) (by decide), ek 7 (by decide) (by decide) (by decide) (by decide), ek 8 (by decide) (by decide) (by decide) (by decide), ek 9 (by decide) (by decide) (by decide) (by decide), ek 10 (by decide) (by decide) (by decide) (by decide), ek 11 (by decide) (by decide) (by decide) (by decide), e12, ww_u2n (fun y => by have := (r2 i0 hi0).1; omega), ek 15 (by decide) (by decide) (by decide) (by decide), ek 17 (by decide) (by decide) (by decide) (by decide), ek 18 (by decide) (by decide) (by decide) (by decide), ek 19 (by decide) (by decide) (by decide) (by decide), ek 28 (by decide) (by decide) (by decide) (by decide)]
    exact hI i hi h60
  · rw [ek 23 (by decide) (by decide) (by decide) (by decide), ek 5 (by decide) (by decide) (by decide) (by decide), ek 6 (by decide) (by decide) (by decide) (by decide), ek 24 (by decide) (by decide) (by decide) (by decide), ek 25 (by decide) (by decide) (by decide) (by decide)]; exact hJ
  · by_cases c : j = 12
    · rw [c]; exact funext e12
    · rw [ek j (ww_us_ne hj rfl) c (ww_us_ne hj rfl) (ww_us_ne hj rfl)]
      funext l
      exact (ww_u2n (fun y => c y.1)).symm
  · rw [hr, r6 _ hd, ← hca, q_cnt_s (P := fun j => D j = D i0) rfl, ← hk]
    omega
end WWQ8
