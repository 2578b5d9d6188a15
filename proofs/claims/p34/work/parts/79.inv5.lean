section WWQ5
variable {S S1 T : Nat → Nat → Int32} {E : Nat → Nat → Int32} {z D : Nat → Nat} {n u w m b p k i : Nat} {v v' t d s : Int32}
theorem q_go_6 : q_go T i d s 6 i = T 6 i + d := by
  unfold q_go
  rw [ww_u2n (fun y => absurd y.1 (by decide))]
  by_cases c : T 2 i = 3
  · rw [if_pos c]; unfold q_goW
    rw [ww_u2n (fun y => absurd y.1 (by decide)), ww_u2n (fun y => absurd y.1 (by decide)), ww_u2n (fun y => absurd y.1 (by decide)), ww_u2n (fun y => absurd y.1 (by decide)), ww_u2s]
  · rw [if_neg c]; unfold q_goK
    rw [ww_u2n (fun y => absurd y.1 (by decide)), ww_u2s]
theorem q_go_18 : q_go T i d s 18 i = q_grow (q_goN T i d).toInt.toNat (T 18 i) := ww_u2s
theorem q_go_w (c : T 2 i = 3) : q_go T i d s 13 i = T 13 i - ((T 6 i + d) / 100 - T 6 i / 100) ∧ q_go T i d s 14 i = T 14 i - ((T 15 i + d * q_fac s) / 200 - T 15 i / 200) ∧ q_go T i d s 15 i = T 15 i + d * q_fac s := by
  unfold q_go
  rw [if_pos c]
  unfold q_goW
  refine ⟨?_, ?_, ?_⟩
  · rw [ww_u2n (fun y => absurd y.1 (by decide)), ww_u2n (fun y => absurd y.1 (by decide)), ww_u2s]
  · rw [ww_u2n (fun y => absurd y.1 (by decide)), ww_u2s]
  · rw [ww_u2n (fun y => absurd y.1 (by decide)), ww_u2n (fun y => absurd y.1 (by decide)), ww_u2n (fun y => absurd y.1 (by decide)), ww_u2s]
theorem q_run_k (h : ¬ (k = 6 ∨ k = 7 ∨ k = 9 ∨ k = 13 ∨ k = 14 ∨ k = 15 ∨ k = 18)) : q_run T n p d s k = T k := by
  unfold q_run
  cases q_ff (q_bad T p d s) n 0 with
  | none => exact q_r1_k (by omega)
  | some j => exact (q_r2_k (by omega)).trans (q_r1_k (by omega))
theorem q_run_r1 (h : k ≠ 9) : q_run T n p d s k = q_r1 T n p d s 0 k := by
  unfold q_run
  cases q_ff (q_bad T p d s) n 0 with
  | none => rfl
  | some j => exact q_r2_k h
theorem q_run_o (h : ¬ (i < n ∧ q_hd (T 5) 5 i = p)) : q_run T n p d s k i = T k i := by
  have e1 : q_r1 T n p d s 0 k i = T k i := q_if_f (fun y => h y.2)
  have e5 : q_r1 T n p d s 0 5 = T 5 := q_r1_k (by decide)
  unfold q_run
  cases q_ff (q_bad T p d s) n 0 with
  | none => exact e1
  | some j =>
    show q_r2 (q_r1 T n p d s 0) p n k i = T k i
    unfold q_r2
    rw [e5, q_if_f (fun y => h y.2)]
    exact e1
theorem q_run_t (h : i < n ∧ q_hd (T 5) 5 i = p) (h9 : k ≠ 9) : q_run T n p d s k i = q_go T i d s k i := by
  rw [q_run_r1 h9]
  exact q_if_t ⟨Nat.zero_le _, h⟩
theorem q_run_9 (h : i < n ∧ q_hd (T 5) 5 i = p) (hb : ∃ j, j < n ∧ q_bad T p d s j) : q_run T n p d s 9 i = 1 := by
  have e5 : q_r1 T n p d s 0 5 = T 5 := q_r1_k (by decide)
  unfold q_run
  cases hq : q_ff (q_bad T p d s) n 0 with
  | none =>
    obtain ⟨j, hj, hjb⟩ := hb
    exact absurd hjb (q_ff_none hq j (Nat.zero_le _) (by omega))
  | some j =>
    show q_r2 (q_r1 T n p d s 0) p n 9 i = 1
    unfold q_r2
    rw [e5]
    exact q_if_t ⟨rfl, h⟩
theorem q_all_run (H : q_all S E z D n u w m b) (hb5 : b ≤ 512) (hp : p < n) (hk : S 2 p = 0) (hd : q_rg 1 2000 d) (hs : q_rg 0 3 s) (hrc : q_runC S p) : q_all (q_run (ww_u2 (q_us S 0 0) 11 p 0) n p d s) (q_eS E u (nI p) (-1) d) z D n (u + 1) w m (b + 1) := by
  have hFp := H.2.2.2.2.2.1 p hp ((H.1.2.2.2.2.2.1 p).resolve_left hrc.1)
  have H0 := q_all_rel (v := 0) (q_all_0 (v := 0) H) (p := p) hp (Or.inl rfl) (fun y => absurd y (by decide))
  have hT11 : ww_u2 (q_us S 0 0) 11 p 0 11 p = 0 := ww_u2s
  have hFp : ∀ i, i < n → q_hd (ww_u2 (q_us S 0 0) 11 p 0 5) 5 i = p → ww_u2 (q_us S 0 0) 11 p 0 9 i = 0 ∧ (ww_u2 (q_us S 0 0) 11 p 0 2 i = 3 → 250 ≤ (ww_u2 (q_us S 0 0) 11 p 0 14 i).toInt ∧ 8400 ≤ (ww_u2 (q_us S 0 0) 11 p 0 13 i).toInt - 2 * (300 - (ww_u2 (q_us S 0 0) 11 p 0 14 i).toInt)) := hFp.2
  generalize ww_u2 (q_us S 0 0) 11 p 0 = T at *
  obtain ⟨hA, hB, hR, hD, hE, hF, hC, hH, hI, hJ, hu⟩ := H0
  have h6 := hA.2.1
  obtain ⟨d1, d2⟩ := hd
  rw [ww_le', show (1 : Int32).toInt = 1 from rfl] at d1
  rw [ww_le', show (2000 : Int32).toInt = 2000 from rfl] at d2
  have e : ∀ k, ¬ (k = 6 ∨ k = 7 ∨ k = 9 ∨ k = 13 ∨ k = 14 ∨ k = 15 ∨ k = 18) → q_run T n p d s k = T k := fun k h => q_run_k h
  have e5 := e 5 (by decide)
  have e12 := e 12 (by decide)
  have e27 := e 27 (by decide)
  have e28 := e 28 (by decide)
  have e31 := e 31 (by decide)
  have e32 := e 32 (by decide)
  have ewq : q_wq (q_run T n p d s) = q_wq T := funext fun i => by unfold q_wq; rw [e27]
  have ern : q_rn (q_run T n p d s) = q_rn T := funext fun i => by unfold q_rn; rw [e31]
  have erq : q_rq (q_run T n p d s) = q_rq T := funext fun i => funext fun j => by unfold q_rq; rw [e32]
  have h6i : ∀ i, i < n → q_hd (T 5) 5 i = p → (T 6 i + d).toInt = (T 6 i).toInt + d.toInt := fun i hi _ => by
    obtain ⟨⟨a1, a2, a3⟩, _⟩ := hD i hi
    exact q_sumI rfl rfl (by omega) (by omega)
  refine ⟨?_, ?_, ?_, ?_, ?_, ?_, ?_, ?_, ?_, ?_, by omega⟩
  · unfold q_run
    cases q_ff (q_bad T p d s) n 0 with
    | none => exact q_G_r1 hA
    | some j => exact q_G_r2 (q_G_r1 hA)
  · unfold q_iB q_W at hB ⊢
    rw [ewq, e 26 (by decide), e27, e28, e12]
    exact hB
  · unfold q_iR q_Rd at hR ⊢
    rw [ern, erq, e31, e32, e28, e12]
    exact hR
  · intro i hi
    rw [e 19 (by decide)]
    obtain ⟨⟨a1, a2, a3⟩, a4, a5⟩ := hD i hi
    by_cases c : q_hd (T 5) 5 i = p
    · have h9 := (hFp i hi c).1
      have hlt : (T 18 i).toInt < 100 := by
        by_cases c2 : 100 ≤ (T 18 i).toInt
        · have := a5 c2
          rw [h9] at this
          exact absurd this (by decide)
        · omega
      rw [q_run_t ⟨hi, c⟩ (by decide), q_run_t ⟨hi, c⟩ (by decide), q_go_6, h6i i hi c, q_go_18]
      have hN : (q_goN T i d).toInt.toNat ≤ 4 := by
        unfold q_goN
        by_cases c0 : T 18 i = 0
        · rw [if_pos c0]; decide
        · rw [if_neg c0]
          have x1 : (T 6 i - T 19 i).toInt = (T 6 i).toInt - (T 19 i).toInt := q_subI rfl rfl (by omega) (by omega)
          have x2 : (T 6 i + d - T 19 i).toInt = (T 6 i).toInt + d.toInt - (T 19 i).toInt := q_subI (h6i i hi c) rfl (by omega) (by omega)
          have y1 := q_divI (y := 500) x1 rfl (by omega) (by omega) (by decide)
          have y2 := q_divI (y := 500) x2 rfl (by omega) (by omega) (by decide)
          rw [show (500 : Int32).toInt = 500 from rfl] at y1 y2
          rw [q_subI y2 y1 (by omega) (by omega)]
          omega
      have hg := q_grow_b (q_goN T i d).toInt.toNat 0 (T 18 i) (by omega) a4.1 (by omega)
      refine ⟨⟨a1, by omega, by omega⟩, hg, fun y => q_run_9 ⟨hi, c⟩ ⟨i, hi, c, fun y2 => ?_⟩⟩
      rw [q_go_18, ww_lt, show (100 : Int32).toInt = 100 from rfl] at y2
      omega
    · rw [q_run_o (fun y => c y.2), q_run_o (fun y => c y.2), q_run_o (fun y => c y.2)]
      exact ⟨⟨a1, a2, by omega⟩, a4, a5⟩
  · intro i hi hki
    rw [e 2 (by decide)] at hki
    rw [e 16 (by decide), e 17 (by decide)]
    obtain ⟨⟨i1, i2⟩, ⟨i3, i4⟩, ⟨i5, i6⟩, i7⟩ := hE i hi hki
    by_cases c : q_hd (T 5) 5 i = p
    · obtain ⟨f1, f2⟩ := (hFp i hi c).2 hki
      obtain ⟨⟨a1, a2, a3⟩, _⟩ := hD i hi
      obtain ⟨w1, w2, w3⟩ := q_go_w (T := T) (i := i) (d := d) (s := s) hki
      rw [q_run_t ⟨hi, c⟩ (by decide), q_run_t ⟨hi, c⟩ (by decide), q_run_t ⟨hi, c⟩ (by decide), w1, w2, w3]
      obtain ⟨k1, k2⟩ := q_facI hs
      have xm0 : 0 ≤ d.toInt * (q_fac s).toInt ∧ d.toInt * (q_fac s).toInt ≤ 6000 := by
        constructor
        · exact Int.mul_nonneg (by omega) (by omega)
        · exact Int.le_trans (Int.mul_le_mul d2 k2 (by omega) (by omega)) (by decide)
      have xm : (d * q_fac s).toInt = d.toInt * (q_fac s).toInt := by rw [Int32.toInt_mul, Int.bmod_eq_of_le (by omega) (by omega)]
      generalize d.toInt * (q_fac s).toInt = F at xm0 xm
      have x15 : (T 15 i + d * q_fac s).toInt = (T 15 i).toInt + F := q_sumI rfl xm (by omega) (by omega)
      have y1 := q_divI (y := 100) (h6i i hi c) rfl (by omega) (by omega) (by decide)
      have y2 := q_divI (x := T 6 i) (y := 100) rfl rfl (by omega) (by omega) (by decide)
      have y3 := q_divI (y := 200) x15 rfl (by omega) (by omega) (by decide)
      have y4 := q_divI (x := T 15 i) (y := 200) rfl rfl (by omega) (by omega) (by decide)
      rw [show (100 : Int32).toInt = 100 from rfl] at y1 y2
      rw [show (200 : Int32).toInt = 200 from rfl] at y3 y4
      have u1 := q_subI y1 y2 (by omega) (by omega)
      have u2 := q_subI y3 y4 (by omega) (by omega)
      have v1 := q_subI (x := T 13 i) rfl u1 (by omega) (by omega)
      have v2 := q_subI (x := T 14 i) rfl u2 (by omega) (by omega)
      rw [v1, v2, x15]
      refine ⟨⟨by omega, by omega⟩, ⟨by omega, by omega⟩, ⟨by omega, by omega⟩, i7⟩
    · rw [q_run_o (fun y => c y.2), q_run_o (fun y => c y.2), q_run_o (fun y => c y.2)]
      exact ⟨⟨i1, i2⟩, ⟨i3, i4⟩, ⟨i5, by omega⟩, i7⟩
  · intro t ht h11
    rw [e 11 (by decide)] at h11
    rw [e 2 (by decide), e5]
    have hne : t ≠ p := fun y => by rw [y, hT11] at h11; exact absurd h11 (by decide)
    obtain ⟨f1, f2⟩ := hF t ht h11
    refine ⟨f1, fun i hi ei => ?_⟩
    have c : ¬ (i < n ∧ q_hd (T 5) 5 i = p) := fun y => hne (ei.symm.trans y.2)
    rw [q_run_o c, q_run_o c, q_run_o c]
    exact f2 i hi ei
  · rw [e 2 (by decide), e5]; exact hC
  · rw [e 4 (by decide)]; exact hH
  · intro i hi h60
    have c : ¬ (i < n ∧ q_hd (T 5) 5 i = p) := fun y => by omega
    unfold q_nil
    rw [q_run_o c, q_run_o c, q_run_o c, q_run_o c, q_run_o c, q_run_o c, q_run_o c, q_run_o c, q_run_o c, q_run_o c, q_run_o c, q_run_o c]
    exact hI i hi h60
  · obtain ⟨kk, h23, j1, ⟨j2, j2'⟩, ⟨j3, j3'⟩, j4, j5⟩ := hJ
    have hdp : (0 : Int32) < d := by rw [ww_lt, show (0 : Int32).toInt = 0 from rfl]; omega
    have h0 : (0 : Int32) < q_eS E u (nI p) (-1) d 2 u := by rw [q_eS_2]; exact hdp
    have hr : q_rH (q_eS E u (nI p) (-1) d) (u + 1) = q_rH E u := by
      show (if 0 < q_eS E u (nI p) (-1) d 2 u then _ else _) = _
      rw [if_pos h0, q_rH_eS u (Nat.le_refl _)]
    have hdn : ¬ d = 0 := fun y => by rw [y] at hdp; exact absurd hdp (by decide)
    have hl : ∀ q, q_rL (q_eS E u (nI p) (-1) d) q (u + 1) = if nI (q_hd (q_rH E u) 5 q) = nI p then q_rL E q u + d else q_rL E q u := fun q => by
      show (if 0 < q_eS E u (nI p) (-1) d 2 u then (if nI (q_hd (q_rH (q_eS E u (nI p) (-1) d) u) 5 q) = q_eS E u (nI p) (-1) d 0 u then q_rL (q_eS E u (nI p) (-1) d) q u + q_eS E u (nI p) (-1) d 2 u else q_rL (q_eS E u (nI p) (-1) d) q u) else _) = _
      rw [if_pos h0, q_rH_eS u (Nat.le_refl _), q_rL_eS u (Nat.le_refl _), q_eS_0, q_eS_2]
    refine ⟨kk, by rw [e 23 (by decide)]; exact h23, fun i hi => ?_, ⟨fun q hq => by rw [hr, e5]; exact j2 q hq, fun q hq => by rw [hr]; exact j2' q hq⟩, ⟨fun q hq => ?_, fun q hq h => ?_⟩, ?_, fun i hi ei => ?_⟩
    · by_cases c : i = u
      · rw [c, q_eS_0, q_eS_1, q_eS_2]
        exact ⟨⟨p, hp, rfl⟩, Or.inl rfl, Or.inr hdp⟩
      · rw [q_eS_o (j := 0) c, q_eS_o (j := 1) c, q_eS_o (j := 2) c]
        exact j1 i (by omega)
    · have ehd : q_hd (q_rH E u) 5 q = q_hd (T 5) 5 q := (q_hd_cg hA.2.2.1 h6 (fun j hj => (j2 j hj).symm) 5 q hq).symm
      have hlt := q_hd_lt hA.2.2.1 h6 5 q hq
      rw [hl, ehd, j3 q hq]
      by_cases c : q_hd (T 5) 5 q = p
      · rw [if_pos (congrArg nI c), q_run_t ⟨hq, c⟩ (by decide), q_go_6]
      · rw [if_neg (fun y => c ((nI_eq (by omega) (by omega)).mp y)), q_run_o (fun y => c y.2)]
    · rw [hl, q_hd_neg (by rw [j2' q hq]; decide), j3' q hq h, if_neg (fun y => by have := (nI_eq (by omega) (by omega)).mp y; omega)]
    · rw [j4, q_cnt_n (P := fun j => q_eS E u (nI p) (-1) d 2 j = 0) (fun y => hdn (q_eS_2.symm.trans y)), q_cnt_eS (Nat.le_refl _)]
    · by_cases c : i = u
      · rw [c, q_eS_2] at ei; exact absurd ei hdn
      · rw [q_eS_o (j := 2) c] at ei
        rw [q_cnt_eS (by omega), q_eS_o (j := 0) c, q_eS_o (j := 1) c, e 24 (by decide), e 25 (by decide)]
        exact j5 i (by omega) ei
end WWQ5
