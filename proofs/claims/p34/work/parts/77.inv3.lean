/-! ===== moves keep what holds ===== -/
section WWQ3
variable {S S1 : Nat → Nat → Int32} {E : Nat → Nat → Int32} {z D : Nat → Nat} {n u w m b p k : Nat} {v v' t : Int32} {kd ho : Nat → Int32}
theorem q_cnt_mono {P : Nat → Prop} : ∀ {i j : Nat}, i ≤ j → q_cnt P i ≤ q_cnt P j
  | i, 0, h => by have e : i = 0 := by omega
                  rw [e]; exact Nat.le_refl _
  | i, j + 1, h => by
    by_cases c : i = j + 1
    · rw [c]; exact Nat.le_refl _
    · have := q_cnt_mono (P := P) (show i ≤ j by omega)
      by_cases hp : P j
      · rw [q_cnt_s hp]; omega
      · rw [q_cnt_n hp]; exact this
theorem q_cnt_lt2 {P : Nat → Prop} {i j : Nat} (h : i < j) (hp : P i) : q_cnt P i < q_cnt P j := by
  have h1 := q_cnt_mono (P := P) (show i + 1 ≤ j by omega)
  rw [q_cnt_s hp] at h1
  omega
theorem q_eS_o {a bb kk : Int32} {j i : Nat} (h : i ≠ u) : q_eS E u a bb kk j i = E j i := if_neg h
theorem q_eS_0 {a bb kk : Int32} : q_eS E u a bb kk 0 u = a := (if_pos rfl).trans (if_pos rfl)
theorem q_eS_1 {a bb kk : Int32} : q_eS E u a bb kk 1 u = bb := (if_pos rfl).trans ((if_neg (by decide)).trans (if_pos rfl))
theorem q_eS_2 {a bb kk : Int32} : q_eS E u a bb kk 2 u = kk := (if_pos rfl).trans ((if_neg (by decide)).trans (if_neg (by decide)))
theorem q_rH_eS {a bb kk : Int32} : ∀ i, i ≤ u → q_rH (q_eS E u a bb kk) i = q_rH E i
  | 0, _ => rfl
  | i + 1, h => by
    unfold q_rH
    rw [q_rH_eS i (by omega), q_eS_o (j := 0) (i := i) (by omega), q_eS_o (j := 1) (i := i) (by omega), q_eS_o (j := 2) (i := i) (by omega)]
theorem q_rL_eS {a bb kk : Int32} {p : Nat} : ∀ i, i ≤ u → q_rL (q_eS E u a bb kk) p i = q_rL E p i
  | 0, _ => rfl
  | i + 1, h => by
    unfold q_rL
    rw [q_rL_eS i (by omega), q_rH_eS i (by omega), q_eS_o (j := 0) (i := i) (by omega), q_eS_o (j := 2) (i := i) (by omega)]
theorem q_cnt_eS {a bb kk : Int32} {i : Nat} (h : i ≤ u) : q_cnt (fun j => q_eS E u a bb kk 2 j = 0) i = q_cnt (fun j => E 2 j = 0) i := q_cnt_cg (fun j hj => by rw [q_eS_o (j := 2) (i := j) (by omega)])
/-- a move more -/
theorem q_iJ_move {s5 s6 s24 s25 t24 t25 s5' : Nat → Int32} (h : q_iJ E u s5 s6 s24 s25 n k) (h60 : n ≤ 60) (hp : p < n) (ht : t = -1 ∨ t = -2 ∨ ∃ q, q < n ∧ t = nI q) (e5 : s5' = fun j => if j = p then t else s5 j) (e24 : ∀ i, t24 i = if i = k then nI p else s24 i) (e25 : ∀ i, t25 i = if i = k then t else s25 i) : q_iJ (q_eS E u (nI p) t 0) (u + 1) s5' s6 t24 t25 n (k + 1) := by
  obtain ⟨j1, ⟨j2, j2'⟩, ⟨j3, j3'⟩, j4, j5⟩ := h
  have hr : q_rH (q_eS E u (nI p) t 0) (u + 1) = q_up1 (q_rH E u) p t := by
    have h0 : ¬ (0 : Int32) < q_eS E u (nI p) t 0 2 u := by rw [q_eS_2]; decide
    show (if 0 < q_eS E u (nI p) t 0 2 u then _ else _) = _
    rw [if_neg h0, q_eS_0, q_eS_1, q_rH_eS u (Nat.le_refl _), nI_clamp (by omega)]
  have hl : ∀ q, q_rL (q_eS E u (nI p) t 0) q (u + 1) = q_rL E q u := fun q => by
    have h0 : ¬ (0 : Int32) < q_eS E u (nI p) t 0 2 u := by rw [q_eS_2]; decide
    show (if 0 < q_eS E u (nI p) t 0 2 u then _ else _) = _
    rw [if_neg h0, q_rL_eS u (Nat.le_refl _)]
  refine ⟨fun i hi => ?_, ⟨fun q hq => ?_, fun q hq => ?_⟩, ⟨fun q hq => ?_, fun q hq h => ?_⟩, ?_, fun i hi e => ?_⟩
  · by_cases c : i = u
    · rw [c, q_eS_0, q_eS_1, q_eS_2]
      exact ⟨⟨p, hp, rfl⟩, ht, Or.inl rfl⟩
    · rw [q_eS_o (j := 0) c, q_eS_o (j := 1) c, q_eS_o (j := 2) c]
      exact j1 i (by omega)
  · rw [hr, e5]
    show (if q = p then t else q_rH E u q) = if q = p then t else s5 q
    by_cases c : q = p
    · rw [if_pos c, if_pos c]
    · rw [if_neg c, if_neg c]; exact j2 q hq
  · rw [hr]
    unfold q_up1
    rw [if_neg (by omega)]
    exact j2' q hq
  · rw [hl]; exact j3 q hq
  · rw [hl]; exact j3' q hq h
  · rw [q_cnt_s (P := fun j => q_eS E u (nI p) t 0 2 j = 0) q_eS_2, q_cnt_eS (Nat.le_refl _), ← j4]
  · by_cases c : i = u
    · rw [c, q_cnt_eS (Nat.le_refl _), ← j4, e24, e25, if_pos rfl, if_pos rfl, q_eS_0, q_eS_1]
      exact ⟨rfl, rfl⟩
    · rw [q_eS_o (j := 2) c] at e
      rw [q_cnt_eS (by omega), q_eS_o (j := 0) c, q_eS_o (j := 1) c, e24, e25]
      have hlt : q_cnt (fun j => E 2 j = 0) i < k := by
        rw [j4]
        exact q_cnt_lt2 (by omega) e
      rw [if_neg (by omega), if_neg (by omega)]
      exact j5 i (by omega) e
theorem q_moves_k {j : Nat} (h5 : j ≠ 5) (h24 : j ≠ 24) (h25 : j ≠ 25) (h23 : j ≠ 23) : q_moves S p k t j = S j := by
  funext i
  show (if j = 23 then nI (k + 1) else ww_u2 (ww_u2 (ww_u2 S 5 p t) 24 k (nI p)) 25 k t j i) = _
  rw [if_neg h23, ww_u2n (fun y => h25 y.1), ww_u2n (fun y => h24 y.1), ww_u2n (fun y => h5 y.1)]
theorem q_moves_5 : q_moves S p k t 5 = fun j => if j = p then t else S 5 j := by
  refine Eq.trans ?_ (ww_u2_5 (S := S) (p := p) (t := t))
  funext i
  show (if 5 = 23 then nI (k + 1) else ww_u2 (ww_u2 (ww_u2 S 5 p t) 24 k (nI p)) 25 k t 5 i) = _
  rw [if_neg (by decide), ww_u2n (fun y => absurd y.1 (by decide)), ww_u2n (fun y => absurd y.1 (by decide))]
theorem q_moves_24 (i : Nat) : q_moves S p k t 24 i = if i = k then nI p else S 24 i := by
  show (if 24 = 23 then nI (k + 1) else ww_u2 (ww_u2 (ww_u2 S 5 p t) 24 k (nI p)) 25 k t 24 i) = _
  rw [if_neg (by decide), ww_u2n (fun y => absurd y.1 (by decide))]
  by_cases c : i = k
  · rw [if_pos c, c]; exact ww_u2s
  · rw [if_neg c, ww_u2n (fun y => c y.2), ww_u2n (fun y => absurd y.1 (by decide))]
theorem q_moves_25 (i : Nat) : q_moves S p k t 25 i = if i = k then t else S 25 i := by
  show (if 25 = 23 then nI (k + 1) else ww_u2 (ww_u2 (ww_u2 S 5 p t) 24 k (nI p)) 25 k t 25 i) = _
  rw [if_neg (by decide)]
  by_cases c : i = k
  · rw [if_pos c, c]; exact ww_u2s
  · rw [if_neg c, ww_u2n (fun y => c y.2), ww_u2n (fun y => absurd y.1 (by decide)), ww_u2n (fun y => absurd y.1 (by decide))]
theorem q_moves_23 : q_moves S p k t 23 0 = nI (k + 1) := (show (if (23 : Nat) = 23 then nI (k + 1) else ww_u2 (ww_u2 (ww_u2 S 5 p t) 24 k (nI p)) 25 k t 23 0) = nI (k + 1) from if_pos rfl)
/-- a move keeps what holds, when heads, places and the hosts do -/
theorem q_all_move (h : q_all S E z D n u w m b) (hb5 : b ≤ 1000) (hk4 : k < 4000) (h23 : S 23 0 = nI k) (hp : p < n) (ht : t = -1 ∨ t = -2 ∨ ∃ q, q < n ∧ t = nI q) (hg : q_gh n (S 2) (fun j => if j = p then t else S 5 j)) (hF' : q_iF (S 2) (fun j => if j = p then t else S 5 j) (S 9) (S 11) (S 13) (S 14) n) (hC' : q_iC (S 2) (fun j => if j = p then t else S 5 j) n) : q_all (q_moves S p k t) (q_eS E u (nI p) t 0) z D n (u + 1) w m (b + 1) := by
  obtain ⟨hA, hB, hR, hD, hE, hF, hC, hH, hI, hJ, hu⟩ := q_all_b h
  have hu0 := h.2.2.2.2.2.2.2.2.2.2
  have e : ∀ j, j ≠ 5 → j ≠ 24 → j ≠ 25 → j ≠ 23 → q_moves S p k t j = S j := fun j h1 h2 h3 h4 => q_moves_k h1 h2 h3 h4
  have e2 := e 2 (by decide) (by decide) (by decide) (by decide)
  have e9 := e 9 (by decide) (by decide) (by decide) (by decide)
  have e11 := e 11 (by decide) (by decide) (by decide) (by decide)
  have e12 := e 12 (by decide) (by decide) (by decide) (by decide)
  have e27 := e 27 (by decide) (by decide) (by decide) (by decide)
  have e28 := e 28 (by decide) (by decide) (by decide) (by decide)
  have e31 := e 31 (by decide) (by decide) (by decide) (by decide)
  have e32 := e 32 (by decide) (by decide) (by decide) (by decide)
  have ewq : q_wq (q_moves S p k t) = q_wq S := funext fun i => by unfold q_wq; rw [e27]
  have ern : q_rn (q_moves S p k t) = q_rn S := funext fun i => by unfold q_rn; rw [e31]
  have erq : q_rq (q_moves S p k t) = q_rq S := funext fun i => funext fun j => by unfold q_rq; rw [e32]
  refine ⟨?_, ?_, ?_, ?_, ?_, ?_, ?_, ?_, ?_, ?_, by omega⟩
  · obtain ⟨g1, g2, g3, g4, g5, g6, g7, g8⟩ := hA
    exact ⟨by rw [e 1 (by decide) (by decide) (by decide) (by decide)]; exact g1, g2, by rw [e2, q_moves_5]; exact hg, by unfold q_bool; rw [e9]; exact g4, by unfold q_bool; rw [e 10 (by decide) (by decide) (by decide) (by decide)]; exact g5, by unfold q_bool; rw [e11]; exact g6, by unfold q_bool; rw [e12]; exact g7, by unfold q_bool; rw [e 17 (by decide) (by decide) (by decide) (by decide)]; exact g8⟩
  · unfold q_iB q_W at hB ⊢
    rw [ewq, e 26 (by decide) (by decide) (by decide) (by decide), e27, e28, e12]
    exact hB
  · unfold q_iR q_Rd at hR ⊢
    rw [ern, erq, e31, e32, e28, e12]
    exact hR
  · rw [e 6 (by decide) (by decide) (by decide) (by decide), e9, e 18 (by decide) (by decide) (by decide) (by decide), e 19 (by decide) (by decide) (by decide) (by decide)]; exact hD
  · rw [e2, e 13 (by decide) (by decide) (by decide) (by decide), e 14 (by decide) (by decide) (by decide) (by decide), e 15 (by decide) (by decide) (by decide) (by decide), e 16 (by decide) (by decide) (by decide) (by decide), e 17 (by decide) (by decide) (by decide) (by decide)]; exact hE
  · rw [e2, q_moves_5, e9, e11, e 13 (by decide) (by decide) (by decide) (by decide), e 14 (by decide) (by decide) (by decide) (by decide)]; exact hF'
  · rw [e2, q_moves_5]; exact hC'
  · rw [e 4 (by decide) (by decide) (by decide) (by decide)]; exact hH
  · intro i hi h6
    unfold q_nil
    rw [e 6 (by decide) (by decide) (by decide) (by decide), e 7 (by decide) (by decide) (by decide) (by decide), e 8 (by decide) (by decide) (by decide) (by decide), e9, e 10 (by decide) (by decide) (by decide) (by decide), e11, e12, e 15 (by decide) (by decide) (by decide) (by decide), e 17 (by decide) (by decide) (by decide) (by decide), e 18 (by decide) (by decide) (by decide) (by decide), e 19 (by decide) (by decide) (by decide) (by decide), e28]
    exact hI i hi h6
  · obtain ⟨kk, h23', hJ⟩ := hJ
    have hk : kk = k := by
      have hkk : kk ≤ u := by rw [hJ.2.2.2.1]; exact q_cnt_le _ u
      exact (nI_eq (by omega) (by omega)).mp (h23'.symm.trans h23)
    subst hk
    exact ⟨kk + 1, q_moves_23, by rw [e 6 (by decide) (by decide) (by decide) (by decide)]; exact q_iJ_move hJ hA.2.1 hp ht q_moves_5 q_moves_24 q_moves_25⟩
end WWQ3
