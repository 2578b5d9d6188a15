theorem q_hd_cg {n : Nat} {kd ho ho' : Nat → Int32} (hg : q_gh n kd ho) (h6 : n ≤ 60) (e : ∀ j, j < n → ho j = ho' j) : ∀ (f p : Nat), p < n → q_hd ho f p = q_hd ho' f p
  | 0, p, hp => rfl
  | f + 1, p, hp => by
    rcases q_gh_cases hg h6 hp with h1 | ⟨q, hq, e1, -⟩
    · rw [q_hd_neg h1, q_hd_neg (by rw [← e p hp]; exact h1)]
    · rw [q_hd_pos e1 (by omega), q_hd_pos (q := q) (by rw [← e p hp]; exact e1) (by omega)]
      exact q_hd_cg hg h6 e f q hq
section WWQ2
variable {S S1 : Nat → Nat → Int32} {E : Nat → Nat → Int32} {z D : Nat → Nat} {n u w m b p : Nat} {v v' : Int32}
theorem q_all_rel (h : q_all S E z D n u w m b) (hp : p < n) (hv : v = 0 ∨ v = 1) (hx : v = 1 → S 2 p = 0 ∧ ∀ i, i < n → q_hd (S 5) 5 i = p → S 9 i = 0 ∧ (S 2 i = 3 → 250 ≤ (S 14 i).toInt ∧ 8500 ≤ (S 13 i).toInt)) : q_all (ww_u2 S 11 p v) E z D n u w m b := by
  obtain ⟨hA, hB, hR, hD, hE, hF, hC, hH, hI, hJ, hu⟩ := h
  refine ⟨q_G_b hA hv (by decide), hB, hR, hD, hE, fun t ht h11 => ?_, hC, hH, q_iI_u2 hI hp, hJ, hu⟩
  by_cases c : t = p
  · subst c
    rw [ww_u2s] at h11
    obtain ⟨x1, x2⟩ := hx h11
    refine ⟨x1, fun i hi e => ⟨(x2 i hi e).1, fun hk => ?_⟩⟩
    have := (x2 i hi e).2 hk
    have := (hE i hi hk).1
    exact ⟨by show 250 ≤ (S 14 i).toInt; omega, by show 8400 ≤ (S 13 i).toInt - 2 * (300 - (S 14 i).toInt); omega⟩
  · rw [ww_u2n (fun y => c y.2)] at h11
    exact hF t ht h11
theorem q_all_comes {t : Nat} (h : q_all S E z D n u w m b) (ht : t < n) (hc : q_comesC S w t v) : q_all (q_comes S w t v) E z D n u (w + 1) m b := by
  obtain ⟨hA, ⟨hW, hB1, hB2, hB3⟩, hR, hD, hE, hF, hC, hH, hI, hJ, hu⟩ := h
  obtain ⟨⟨c1, c2, c3, c4⟩, c5⟩ := hc
  have h6 := hA.2.1
  have ewn : q_wq (q_comes S w t v) w = t := by
    unfold q_wq q_comes
    show (ww_u2 (ww_u2 S 27 w (nI t)) 28 t v 27 w).toNatClampNeg = t
    rw [ww_u2n (fun y => absurd y.1 (by decide)), ww_u2s, nI_clamp (by omega)]
  have ewo : ∀ i, i < w → q_wq (q_comes S w t v) i = q_wq S i := fun i hi => by
    unfold q_wq q_comes
    show (ww_u2 (ww_u2 S 27 w (nI t)) 28 t v 27 i).toNatClampNeg = _
    rw [ww_u2n (fun y => absurd y.1 (by decide)), ww_u2n (fun y => by omega)]
  have nt : ∀ i, i < w → q_wq S i ≠ t := fun i hi e => c2 ⟨i, hi, by show S 27 i = nI t; rw [(hW.2.2 i hi).2, e]⟩
  have e28t : q_comes S w t v 28 t = v := ww_u2s
  have e28 : ∀ i, i ≠ t → q_comes S w t v 28 i = S 28 i := fun i hi => (show ww_u2 (ww_u2 S 27 w (nI t)) 28 t v 28 i = S 28 i from (ww_u2n (fun y => hi y.2)).trans (ww_u2n (fun y => absurd y.1 (by decide))))
  refine ⟨hA, ⟨⟨rfl, by omega, fun i hi => ?_⟩, fun i j hi hj e => ?_, fun i j hi hj e => ?_, fun i hi => ?_⟩, ?_, hD, hE, hF, hC, hH, ?_, hJ, hu⟩
  · by_cases c : i = w
    · subst c
      rw [ewn]
      exact ⟨ht, (show ww_u2 (ww_u2 S 27 i (nI t)) 28 t v 27 i = nI t from (ww_u2n (fun y => absurd y.1 (by decide))).trans ww_u2s)⟩
    · rw [ewo i (by omega)]
      exact ⟨(hW.2.2 i (by omega)).1, (show ww_u2 (ww_u2 S 27 w (nI t)) 28 t v 27 i = S 27 i from (ww_u2n (fun y => absurd y.1 (by decide))).trans (ww_u2n (fun y => c y.2))).trans (hW.2.2 i (by omega)).2⟩
  · by_cases ci : i = w
    · by_cases cj : j = w
      · omega
      · rw [ci, ewn, ewo j (by omega)] at e
        exact absurd e.symm (nt j (by omega))
    · by_cases cj : j = w
      · rw [cj, ewn, ewo i (by omega)] at e
        exact absurd e (nt i (by omega))
      · rw [ewo i (by omega), ewo j (by omega)] at e
        exact hB1 i j (by omega) (by omega) e
  · by_cases ci : i = w
    · by_cases cj : j = w
      · omega
      · rw [ci, ewn, ewo j (by omega), e28t, e28 _ (nt j (by omega))] at e
        exact absurd e.symm (c5 j (by omega))
    · by_cases cj : j = w
      · rw [cj, ewn, ewo i (by omega), e28t, e28 _ (nt i (by omega))] at e
        exact absurd e (c5 i (by omega))
      · rw [ewo i (by omega), ewo j (by omega), e28 _ (nt i (by omega)), e28 _ (nt j (by omega))] at e
        exact hB2 i j (by omega) (by omega) e
  · show S 12 _ = 0
    by_cases ci : i = w
    · rw [ci, ewn]; exact c3
    · rw [ewo i (by omega)]; exact hB3 i (by omega)
  · obtain ⟨r1, r2, r3, r4, r5⟩ := hR
    have nz : ∀ i, i < m → z i ≠ t := fun i hi e => by
      have := (r2 i hi).2.2
      rw [e, c3] at this
      exact absurd this (by decide)
    exact ⟨r1, r2, r3, fun i j hi hj e => r4 i j hi hj (by rw [e28 _ (nz i hi), e28 _ (nz j hj)] at e; exact e), r5⟩
  · intro i hi h60
    obtain ⟨z6, z7, z8, z9, z10, z11, z12, z15, z17, z18, z19, z28⟩ := hI i hi h60
    exact ⟨z6, z7, z8, z9, z10, z11, z12, z15, z17, z18, z19, (e28 i (by omega)).trans z28⟩
/-! the lathe -/
theorem q_td {x y : Int32} (h1 : 219 ≤ y.toInt) (h2 : y.toInt ≤ 300) (h3 : x.toInt ≤ 9000) (h4 : 8300 ≤ x.toInt - 2 * (300 - y.toInt)) : (x - 2 * (300 - y)).toInt = x.toInt - 2 * (300 - y.toInt) := by
  have e1 : (300 - y).toInt = 300 - y.toInt := by rw [Int32.toInt_sub, show (300 : Int32).toInt = 300 from rfl, Int.bmod_eq_of_le (by omega) (by omega)]
  have e2 : (2 * (300 - y)).toInt = 2 * (300 - y.toInt) := by rw [Int32.toInt_mul, e1, show (2 : Int32).toInt = 2 from rfl, Int.bmod_eq_of_le (by omega) (by omega)]
  rw [Int32.toInt_sub, e2, Int.bmod_eq_of_le (by omega) (by omega)]
theorem q_turn_o {a y k i : Nat} (hi : ¬ i = a) (hy : ¬ i = y) : q_turn S a y k i = S k i := by
  unfold q_turn q_turn2 q_true
  rw [ww_u2n (fun x => hy x.2), ww_u2n (fun x => hi x.2), ww_u2n (fun x => hy x.2), ww_u2n (fun x => hy x.2), ww_u2n (fun x => hi x.2), ww_u2n (fun x => hi x.2)]
theorem q_turn_k {a y k : Nat} (h1 : k ≠ 13) (h2 : k ≠ 14) : q_turn S a y k = S k := by
  funext i
  unfold q_turn q_turn2 q_true
  rw [ww_u2n (fun x => h1 x.1), ww_u2n (fun x => h1 x.1), ww_u2n (fun x => h2 x.1), ww_u2n (fun x => h1 x.1), ww_u2n (fun x => h2 x.1), ww_u2n (fun x => h1 x.1)]
theorem q_true2 {a y : Nat} (hne : ¬ a = y) : q_true (q_true S a) y 13 a = S 13 a - 2 * (300 - S 14 a) ∧ q_true (q_true S a) y 13 y = S 13 y - 2 * (300 - S 14 y) := by
  constructor
  · unfold q_true
    rw [ww_u2n (fun x => absurd x.1 (by decide)), ww_u2n (fun x => hne x.2), ww_u2n (fun x => absurd x.1 (by decide)), ww_u2s]
  · unfold q_true
    rw [ww_u2n (fun x => absurd x.1 (by decide)), ww_u2s, ww_u2n (fun x => absurd x.1 (by decide)), ww_u2n (fun x => hne x.2.symm), ww_u2n (fun x => hne x.2.symm), ww_u2n (fun x => absurd x.1 (by decide))]
theorem q_turn_13 {a y : Nat} : q_turn S a y 13 a = q_turnM (q_true (q_true S a) y) a y ∧ q_turn S a y 13 y = q_turnM (q_true (q_true S a) y) a y := by
  unfold q_turn q_turn2
  refine ⟨?_, ww_u2s⟩
  by_cases c : a = y
  · rw [c]; exact ww_u2s
  · rw [ww_u2n (fun x => c x.2)]; exact ww_u2s
theorem q_turn_14 {a y : Nat} : q_turn S a y 14 a = 300 ∧ q_turn S a y 14 y = 300 := by
  unfold q_turn q_turn2 q_true
  refine ⟨?_, ?_⟩
  · rw [ww_u2n (fun x => absurd x.1 (by decide)), ww_u2n (fun x => absurd x.1 (by decide))]
    by_cases c : a = y
    · rw [c]; exact ww_u2s
    · rw [ww_u2n (fun x => c x.2), ww_u2n (fun x => absurd x.1 (by decide))]; exact ww_u2s
  · rw [ww_u2n (fun x => absurd x.1 (by decide)), ww_u2n (fun x => absurd x.1 (by decide))]; exact ww_u2s
theorem q_all_turn {a y : Nat} (h : q_all S E z D n u w m b) (hp : p < n) (ha : a < n) (hy : y < n) (ka : S 2 a = 3) (ky : S 2 y = 3) (hne : ¬ a = y) (sa : S 5 a = nI p) (sy : S 5 y = nI p) : q_all (q_turn S a y) E z D n u w m b := by
  obtain ⟨hA, hB, hR, hD, hE, hF, hC, hH, hI, hJ, hu⟩ := h
  have h6 := hA.2.1
  obtain ⟨⟨a1, a2⟩, ⟨a3, a4⟩, a5⟩ := hE a ha ka
  obtain ⟨⟨y1, y2⟩, ⟨y3, y4⟩, y5⟩ := hE y hy ky
  have ea := q_td a1 a2 a3 a4
  have ey := q_td y1 y2 y3 y4
  obtain ⟨t1, t2⟩ := q_true2 (S := S) hne
  have hm : ∃ M : Int32, q_turnM (q_true (q_true S a) y) a y = M ∧ (M.toInt = (S 13 a).toInt - 2 * (300 - (S 14 a).toInt) ∨ M.toInt = (S 13 y).toInt - 2 * (300 - (S 14 y).toInt)) := by
    unfold q_turnM
    rw [t1, t2]
    by_cases c : S 13 y - 2 * (300 - S 14 y) ≤ S 13 a - 2 * (300 - S 14 a)
    · exact ⟨_, if_pos c, Or.inr ey⟩
    · exact ⟨_, if_neg c, Or.inl ea⟩
  obtain ⟨M, hM, hMM⟩ := hm
  have o13 : q_turn S a y 13 a = M ∧ q_turn S a y 13 y = M := by rw [← hM]; exact q_turn_13
  have o14 := q_turn_14 (S := S) (a := a) (y := y)
  have k : ∀ k, k ≠ 13 → k ≠ 14 → q_turn S a y k = S k := fun k h1 h2 => q_turn_k h1 h2
  have hd : q_hd (S 5) 5 a = q_hd (S 5) 5 y := by rw [q_hd_pos sa (by omega), q_hd_pos sy (by omega)]
  have ewq : q_wq (q_turn S a y) = q_wq S := funext fun i => by unfold q_wq; rw [k 27 (by decide) (by decide)]
  refine ⟨?_, hB, hR, hD, fun i hi ki => ?_, fun t ht h11 => ?_, hC, hH, hI, hJ, hu⟩
  · exact hA
  · have ki : S 2 i = 3 := ki
    obtain ⟨⟨i1, i2⟩, ⟨i3, i4⟩, i5⟩ := hE i hi ki
    refine ⟨?_, ?_, i5⟩
    · by_cases c1 : i = a
      · rw [c1, o14.1]; decide
      · by_cases c2 : i = y
        · rw [c2, o14.2]; decide
        · rw [q_turn_o c1 c2]; exact ⟨i1, i2⟩
    · by_cases c1 : i = a
      · rw [c1, o14.1, o13.1, show (300 : Int32).toInt = 300 from rfl]; omega
      · by_cases c2 : i = y
        · rw [c2, o14.2, o13.2, show (300 : Int32).toInt = 300 from rfl]; omega
        · rw [q_turn_o c1 c2, q_turn_o c1 c2]; exact ⟨i3, i4⟩
  · obtain ⟨f1, f2⟩ := hF t ht h11
    refine ⟨f1, fun i hi e => ⟨(f2 i hi e).1, fun ki => ?_⟩⟩
    have e : q_hd (S 5) 5 i = t := e
    have ki : S 2 i = 3 := ki
    by_cases c1 : i = a
    · have b1 := (f2 a ha (c1 ▸ e)).2 ka
      have b2 := (f2 y hy (hd.symm.trans (c1 ▸ e))).2 ky
      rw [c1, o14.1, o13.1, show (300 : Int32).toInt = 300 from rfl]
      omega
    · by_cases c2 : i = y
      · have b1 := (f2 a ha (hd.trans (c2 ▸ e))).2 ka
        have b2 := (f2 y hy (c2 ▸ e)).2 ky
        rw [c2, o14.2, o13.2, show (300 : Int32).toInt = 300 from rfl]
        omega
      · rw [q_turn_o c1 c2, q_turn_o c1 c2]
        exact (f2 i hi e).2 ki
/-! one part more -/
theorem q_all_part {k : Nat} {e d : Int32} (h : q_all S E z D n u w m b) (h60 : n < 60) (hk5 : k < 5) (hd : q_rg 0 3 d) : q_all (q_part S n (nI k) e d) E z D (n + 1) u w m b := by
  obtain ⟨hA, hB, hR, hD, hE, hF, hC, hH, hI, hJ, hu⟩ := h
  obtain ⟨z6, z7, z8, z9, z10, z11, z12, z15, z17, z18, z19, z28⟩ := hI n (Nat.le_refl _) h60
  obtain ⟨s2, s3, s4, s5, s13, s14⟩ := q_part_n (S := S) (n := n) (v := nI k) (e := e) (d := d)
  have so : ∀ {j : Nat}, j ≠ 0 → j ≠ 1 → j ≠ 2 → j ≠ 3 → j ≠ 4 → j ≠ 5 → j ≠ 13 → j ≠ 14 → q_part S n (nI k) e d j = S j := fun h h1 h2 h3 h4 h5 h6 h7 => q_part_o h h1 h2 h3 h4 h5 h6 h7
  have si : ∀ {i j : Nat}, i ≠ n → j ≠ 0 → j ≠ 1 → q_part S n (nI k) e d j i = S j i := fun hi h h1 => q_part_i hi h h1
  have e6 := so (j := 6) (by decide) (by decide) (by decide) (by decide) (by decide) (by decide) (by decide) (by decide)
  have e9 := so (j := 9) (by decide) (by decide) (by decide) (by decide) (by decide) (by decide) (by decide) (by decide)
  have e10 := so (j := 10) (by decide) (by decide) (by decide) (by decide) (by decide) (by decide) (by decide) (by decide)
  have e11 := so (j := 11) (by decide) (by decide) (by decide) (by decide) (by decide) (by decide) (by decide) (by decide)
  have e12 := so (j := 12) (by decide) (by decide) (by decide) (by decide) (by decide) (by decide) (by decide) (by decide)
  have e15 := so (j := 15) (by decide) (by decide) (by decide) (by decide) (by decide) (by decide) (by decide) (by decide)
  have e16 := so (j := 16) (by decide) (by decide) (by decide) (by decide) (by decide) (by decide) (by decide) (by decide)
  have e17 := so (j := 17) (by decide) (by decide) (by decide) (by decide) (by decide) (by decide) (by decide) (by decide)
  have e18 := so (j := 18) (by decide) (by decide) (by decide) (by decide) (by decide) (by decide) (by decide) (by decide)
  have e19 := so (j := 19) (by decide) (by decide) (by decide) (by decide) (by decide) (by decide) (by decide) (by decide)
  have e23 := so (j := 23) (by decide) (by decide) (by decide) (by decide) (by decide) (by decide) (by decide) (by decide)
  have e24 := so (j := 24) (by decide) (by decide) (by decide) (by decide) (by decide) (by decide) (by decide) (by decide)
  have e25 := so (j := 25) (by decide) (by decide) (by decide) (by decide) (by decide) (by decide) (by decide) (by decide)
  have e26 := so (j := 26) (by decide) (by decide) (by decide) (by decide) (by decide) (by decide) (by decide) (by decide)
  have e27 := so (j := 27) (by decide) (by decide) (by decide) (by decide) (by decide) (by decide) (by decide) (by decide)
  have e28 := so (j := 28) (by decide) (by decide) (by decide) (by decide) (by decide) (by decide) (by decide) (by decide)
  have e31 := so (j := 31) (by decide) (by decide) (by decide) (by decide) (by decide) (by decide) (by decide) (by decide)
  have e32 := so (j := 32) (by decide) (by decide) (by decide) (by decide) (by decide) (by decide) (by decide) (by decide)
  have ewq : q_wq (q_part S n (nI k) e d) = q_wq S := funext fun i => by unfold q_wq; rw [e27]
  have ern : q_rn (q_part S n (nI k) e d) = q_rn S := funext fun i => by unfold q_rn; rw [e31]
  have erq : q_rq (q_part S n (nI k) e d) = q_rq S := funext fun i => funext fun j => by unfold q_rq; rw [e32]
  have ehd : ∀ i, i < n → q_hd (q_part S n (nI k) e d 5) 5 i = q_hd (S 5) 5 i := fun i hi => (q_hd_cg hA.2.2.1 hA.2.1 (fun j hj => (si (by omega) (by decide) (by decide)).symm) 5 i hi).symm
  refine ⟨?_, ?_, ?_, ?_, ?_, ?_, ?_, ?_, ?_, ?_, hu⟩
  · obtain ⟨g1, g2, g3, g4, g5, g6, g7, g8⟩ := hA
    refine ⟨rfl, by omega, fun p hp => ?_, by unfold q_bool; rw [e9]; exact g4, by unfold q_bool; rw [e10]; exact g5, by unfold q_bool; rw [e11]; exact g6, by unfold q_bool; rw [e12]; exact g7, by unfold q_bool; rw [e17]; exact g8⟩
    by_cases c : p = n
    · rw [c, s2, s5]
      exact ⟨⟨k, hk5, rfl⟩, Or.inl rfl⟩
    · rw [si (j := 2) c (by decide) (by decide), si (j := 5) c (by decide) (by decide)]
      refine ⟨(g3 p (by omega)).1, (g3 p (by omega)).2.imp id (fun x => x.imp id (fun ⟨q, hq, y1, y2⟩ => ⟨q, by omega, y1, ?_⟩))⟩
      rw [si (j := 2) (by omega) (by decide) (by decide)]
      exact y2
  · unfold q_iB q_W at hB ⊢
    rw [ewq, e26, e27, e28, e12]
    obtain ⟨⟨b1, b2, b3⟩, b4⟩ := hB
    exact ⟨⟨b1, b2, fun i hi => ⟨by have := (b3 i hi).1; omega, (b3 i hi).2⟩⟩, b4⟩
  · unfold q_iR q_Rd at hR ⊢
    rw [ern, erq, e31, e32, e28, e12]
    obtain ⟨⟨r0, r1⟩, r2, r3, r4, r5, r6⟩ := hR
    refine ⟨⟨r0, fun r hr => ⟨(r1 r hr).1, (r1 r hr).2.1, fun j hj => ⟨by have := ((r1 r hr).2.2 j hj).1; omega, ((r1 r hr).2.2 j hj).2⟩⟩⟩, fun i hi => ⟨by have := (r2 i hi).1; omega, (r2 i hi).2⟩, r3, r4, fun p hp h12 => ?_, r6⟩
    by_cases c : p = n
    · rw [c, z12] at h12; exact absurd h12 (by decide)
    · exact r5 p (by omega) h12
  · intro i hi
    rw [e6, e9, e18, e19]
    by_cases c : i = n
    · rw [c, z6, z18, z19]
      exact ⟨⟨by decide, by decide, by show (0 : Int) ≤ 2000 * (b : Int); omega⟩, by decide, fun y => absurd y (by decide)⟩
    · exact hD i (by omega)
  · intro i hi hk
    rw [e15, e16, e17]
    by_cases c : i = n
    · rw [c, s13, s14, z15, z17]
      exact ⟨by decide, by decide, ⟨by decide, by show (0 : Int) ≤ 6000 * (b : Int); omega⟩, fun y => absurd rfl y⟩
    · rw [si c (by decide) (by decide)] at hk
      rw [si (j := 13) c (by decide) (by decide), si (j := 14) c (by decide) (by decide)]
      exact hE i (by omega) hk
  · intro t ht h11
    rw [e11] at h11
    rw [e9]
    by_cases c : t = n
    · rw [c, z11] at h11; exact absurd h11 (by decide)
    · obtain ⟨f1, f2⟩ := hF t (by omega) h11
      refine ⟨(si c (by decide) (by decide)).trans f1, fun i hi ei => ?_⟩
      by_cases c2 : i = n
      · rw [c2, q_hd_neg (by rw [s5]; decide)] at ei
        exact absurd ei.symm c
      · rw [ehd i (by omega)] at ei
        rw [si (j := 2) c2 (by decide) (by decide), si (j := 13) c2 (by decide) (by decide), si (j := 14) c2 (by decide) (by decide)]
        exact f2 i (by omega) ei
  · intro p hp j hj
    have hh := hA.2.2.1
    have n5 : ∀ p, ¬ q_part S n (nI k) e d 5 n = nI p ∨ ¬ p < 60 := fun p => by
      by_cases c : p < 60
      · left
        rw [s5, ww_eq, nI_toInt (by omega), show (-1 : Int32).toInt = -1 from rfl]
        omega
      · exact Or.inr c
    have ec : ∀ p, p < 60 → q_cnt (fun i => q_part S n (nI k) e d 5 i = nI p ∧ q_part S n (nI k) e d 2 i = nI j) (n + 1) = q_cnt (fun i => S 5 i = nI p ∧ S 2 i = nI j) n := fun p hp => by
      rw [q_cnt_n (fun y => ((n5 p).resolve_right (fun f => f hp)) y.1)]
      exact q_cnt_cg (fun i hi => by rw [si (j := 5) (by omega) (by decide) (by decide), si (j := 2) (by omega) (by decide) (by decide)])
    rw [ec p (by omega)]
    by_cases c : p = n
    · have e0 : q_cnt (fun i => S 5 i = nI p ∧ S 2 i = nI j) n = 0 := by
        have key : ∀ a, a ≤ n → q_cnt (fun i => S 5 i = nI p ∧ S 2 i = nI j) a = 0 := by
          intro a
          induction a with
          | zero => intro _; rfl
          | succ a ih =>
            intro ha
            rw [q_cnt_n (fun y => ?_)]
            · exact ih (by omega)
            · have y1 := y.1
              rcases (hh a (by omega)).2 with x | x | ⟨q, hq, x, _⟩
              · rw [x, ww_eq, nI_toInt (by omega), show (-1 : Int32).toInt = -1 from rfl] at y1; omega
              · rw [x, ww_eq, nI_toInt (by omega), show (-2 : Int32).toInt = -2 from rfl] at y1; omega
              · rw [x, nI_eq (by omega) (by omega)] at y1; omega
        exact key n (Nat.le_refl _)
      rw [e0, c, s2]
      have hpl : ∀ a b : Nat, a < 5 → b < 5 → (0 : Int) ≤ (q_places (nI a) (nI b)).toInt := by
        intro a b ha hb
        have : ∀ a b : Fin 5, (0 : Int) ≤ (q_places (nI a.val) (nI b.val)).toInt := by decide +kernel
        exact this ⟨a, ha⟩ ⟨b, hb⟩
      exact hpl k j hk5 hj
    · rw [si (j := 2) c (by decide) (by decide)]
      exact hC p (by omega) j hj
  · intro i hi
    by_cases c : i = n
    · rw [c, s4]
      obtain ⟨d1, d2⟩ := hd
      rw [ww_le', show (0 : Int32).toInt = 0 from rfl] at d1
      rw [ww_le', show (3 : Int32).toInt = 3 from rfl] at d2
      exact ⟨d1, d2⟩
    · rw [si (j := 4) c (by decide) (by decide)]
      exact hH i (by omega)
  · intro i hi h6
    unfold q_nil
    rw [e6, so (j := 7) (by decide) (by decide) (by decide) (by decide) (by decide) (by decide) (by decide) (by decide), so (j := 8) (by decide) (by decide) (by decide) (by decide) (by decide) (by decide) (by decide) (by decide), e9, e10, e11, e12, e15, e17, e18, e19, e28]
    exact hI i (by omega) h6
  · obtain ⟨kk, h23, j1, ⟨j2, j2'⟩, ⟨j3, j3'⟩, j4⟩ := hJ
    refine ⟨kk, by rw [e23]; exact h23, fun i hi => ?_, ⟨fun p hp => ?_, fun p hp => j2' p (by omega)⟩, ⟨fun p hp => ?_, fun p hp h => j3' p (by omega) h⟩, by rw [e24, e25]; exact j4⟩
    · obtain ⟨⟨p, hp, x1⟩, x2, x3⟩ := j1 i hi
      exact ⟨⟨p, by omega, x1⟩, x2.imp id (fun y => y.imp id (fun ⟨q, hq, y⟩ => ⟨q, by omega, y⟩)), x3⟩
    · by_cases c : p = n
      · rw [c, s5]; exact j2' n (Nat.le_refl _)
      · rw [si (j := 5) c (by decide) (by decide)]; exact j2 p (by omega)
    · rw [e6]
      by_cases c : p = n
      · rw [c, z6]; exact j3' n (Nat.le_refl _) h60
      · exact j3 p (by omega)
end WWQ2
