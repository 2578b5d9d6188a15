/-! ===== what holds of the content in every run: the parts of it, by slots ===== -/
def q_iD (s6 s9 s18 s19 : Nat → Int32) (n b : Nat) : Prop := ∀ i, i < n → (0 ≤ (s19 i).toInt ∧ (s19 i).toInt ≤ (s6 i).toInt ∧ (s6 i).toInt ≤ 2000 * (b : Int)) ∧ (0 ≤ (s18 i).toInt ∧ (s18 i).toInt ≤ 300) ∧ (100 ≤ (s18 i).toInt → s9 i = 1)
def q_iE (s2 s13 s14 s15 s16 s17 : Nat → Int32) (n b : Nat) : Prop := ∀ i, i < n → s2 i = 3 → (219 ≤ (s14 i).toInt ∧ (s14 i).toInt ≤ 300) ∧ ((s13 i).toInt ≤ 9000 ∧ 8300 ≤ (s13 i).toInt - 2 * (300 - (s14 i).toInt)) ∧ (0 ≤ (s15 i).toInt ∧ (s15 i).toInt ≤ 6000 * (b : Int)) ∧ (¬ s17 i = 0 → 200 ≤ (s16 i).toInt)
def q_iF (s2 s5 s9 s11 s13 s14 : Nat → Int32) (n : Nat) : Prop := ∀ t, t < n → s11 t = 1 → s2 t = 0 ∧ ∀ i, i < n → q_hd s5 5 i = t → s9 i = 0 ∧ (s2 i = 3 → 250 ≤ (s14 i).toInt ∧ 8400 ≤ (s13 i).toInt - 2 * (300 - (s14 i).toInt))
def q_iC (s2 s5 : Nat → Int32) (n : Nat) : Prop := ∀ p, p < n → ∀ k, k < 5 → ((q_cnt (fun j => s5 j = nI p ∧ s2 j = nI k) n : Nat) : Int) ≤ (q_places (s2 p) (nI k)).toInt
def q_iH (s4 : Nat → Int32) (n : Nat) : Prop := ∀ i, i < n → 0 ≤ (s4 i).toInt ∧ (s4 i).toInt ≤ 3
def q_iI (S : Nat → Nat → Int32) (n : Nat) : Prop := ∀ i, n ≤ i → i < 60 → q_nil S i
/-- the log and the content -/
def q_iJ (E : Nat → Nat → Int32) (u : Nat) (s5 s6 s24 s25 : Nat → Int32) (n k : Nat) : Prop := (∀ i, i < u → (∃ p, p < n ∧ E 0 i = nI p) ∧ (E 1 i = -1 ∨ E 1 i = -2 ∨ ∃ q, q < n ∧ E 1 i = nI q) ∧ (E 2 i = 0 ∨ 0 < E 2 i)) ∧ ((∀ p, p < n → q_rH E u p = s5 p) ∧ ∀ p, n ≤ p → q_rH E u p = -1) ∧ ((∀ p, p < n → q_rL E p u = s6 p) ∧ ∀ p, n ≤ p → p < 60 → q_rL E p u = 0) ∧ (k = q_cnt (fun j => E 2 j = 0) u ∧ ∀ i, i < u → E 2 i = 0 → s24 (q_cnt (fun j => E 2 j = 0) i) = E 0 i ∧ s25 (q_cnt (fun j => E 2 j = 0) i) = E 1 i)
/-- those that wait -/
def q_iB (S : Nat → Nat → Int32) (n w : Nat) : Prop := q_W S n w ∧ (∀ i j, i < w → j < w → q_wq S i = q_wq S j → i = j) ∧ (∀ i j, i < w → j < w → S 28 (q_wq S i) = S 28 (q_wq S j) → i = j) ∧ ∀ i, i < w → S 12 (q_wq S i) = 0
/-- those that stand: z i stands on the road D i, behind as many as stood there before it -/
def q_iR (S : Nat → Nat → Int32) (z D : Nat → Nat) (n m : Nat) : Prop := (m ≤ 8 ∧ q_Rd S n) ∧ (∀ i, i < m → z i < n ∧ D i < 3 ∧ S 12 (z i) = 1) ∧ (∀ i j, i < m → j < m → z i = z j → i = j) ∧ (∀ i j, i < m → j < m → S 28 (z i) = S 28 (z j) → i = j) ∧ (∀ p, p < n → S 12 p = 1 → ∃ i, i < m ∧ z i = p) ∧ (∀ r, r < 3 → q_rn S r = q_cnt (fun j => D j = r) m) ∧ ∀ i, i < m → q_rq S (D i) (q_cnt (fun j => D j = D i) i) = z i
def q_all (S : Nat → Nat → Int32) (E : Nat → Nat → Int32) (z D : Nat → Nat) (n u w m b : Nat) : Prop := q_G S n ∧ q_iB S n w ∧ q_iR S z D n m ∧ q_iD (S 6) (S 9) (S 18) (S 19) n b ∧ q_iE (S 2) (S 13) (S 14) (S 15) (S 16) (S 17) n b ∧ q_iF (S 2) (S 5) (S 9) (S 11) (S 13) (S 14) n ∧ q_iC (S 2) (S 5) n ∧ q_iH (S 4) n ∧ q_iI S n ∧ (∃ k, S 23 0 = nI k ∧ q_iJ E u (S 5) (S 6) (S 24) (S 25) n k) ∧ u ≤ b
section WWQ1
variable {S S1 : Nat → Nat → Int32} {E : Nat → Nat → Int32} {z D : Nat → Nat} {n u w m b p : Nat} {v v' : Int32}
theorem q_all_b (h : q_all S E z D n u w m b) : q_all S E z D n u w m (b + 1) := by
  obtain ⟨hA, hB, hR, hD, hE, hF, hC, hH, hI, hJ, hu⟩ := h
  refine ⟨hA, hB, hR, fun i hi => ?_, fun i hi hk => ?_, hF, hC, hH, hI, hJ, by omega⟩
  · obtain ⟨⟨a1, a2, a3⟩, a4⟩ := hD i hi
    exact ⟨⟨a1, a2, by omega⟩, a4⟩
  · obtain ⟨a1, a2, ⟨a3, a4⟩, a5⟩ := hE i hi hk
    exact ⟨a1, a2, ⟨a3, by omega⟩, a5⟩
/-- the slots that matter here -/
def q_sl (k : Nat) : Bool := (1 ≤ k && k ≤ 6) || (9 ≤ k && k ≤ 19) || (23 ≤ k && k ≤ 28) || (31 ≤ k && k ≤ 32)
theorem q_all_cg (h : q_all S E z D n u w m b) (e : ∀ k, q_sl k = true → S1 k = S k) (hI' : q_iI S1 n) : q_all S1 E z D n u w m b := by
  obtain ⟨hA, hB, hR, hD, hE, hF, hC, hH, hI, hJ, hu⟩ := h
  have e1 := e 1 rfl
  have e2 := e 2 rfl
  have e4 := e 4 rfl
  have e5 := e 5 rfl
  have e6 := e 6 rfl
  have e9 := e 9 rfl
  have e10 := e 10 rfl
  have e11 := e 11 rfl
  have e12 := e 12 rfl
  have e17 := e 17 rfl
  have e26 := e 26 rfl
  have e27 := e 27 rfl
  have e28 := e 28 rfl
  have e31 := e 31 rfl
  have e32 := e 32 rfl
  have ewq : q_wq S1 = q_wq S := funext fun i => by unfold q_wq; rw [e27]
  have ern : q_rn S1 = q_rn S := funext fun i => by unfold q_rn; rw [e31]
  have erq : q_rq S1 = q_rq S := funext fun i => funext fun j => by unfold q_rq; rw [e32]
  refine ⟨?_, ?_, ?_, ?_, ?_, ?_, ?_, ?_, hI', ?_, hu⟩
  · obtain ⟨g1, g2, g3, g4, g5, g6, g7, g8⟩ := hA
    exact ⟨by rw [e1]; exact g1, g2, by rw [e2, e5]; exact g3, by unfold q_bool; rw [e9]; exact g4, by unfold q_bool; rw [e10]; exact g5, by unfold q_bool; rw [e11]; exact g6, by unfold q_bool; rw [e12]; exact g7, by unfold q_bool; rw [e17]; exact g8⟩
  · unfold q_iB q_W at hB ⊢
    rw [ewq, e26, e27, e28, e12]
    exact hB
  · unfold q_iR q_Rd at hR ⊢
    rw [ern, erq, e31, e32, e28, e12]
    exact hR
  · rw [e6, e9, e 18 rfl, e 19 rfl]; exact hD
  · rw [e2, e 13 rfl, e 14 rfl, e 15 rfl, e 16 rfl, e17]; exact hE
  · rw [e2, e5, e9, e11, e 13 rfl, e 14 rfl]; exact hF
  · rw [e2, e5]; exact hC
  · rw [e4]; exact hH
  · rw [e 23 rfl, e5, e6, e 24 rfl, e 25 rfl]; exact hJ
theorem q_iI_u2 {k i : Nat} (h : q_iI S n) (hi : i < n) : q_iI (ww_u2 S k i v) n := fun j hj h60 => by
  have e : ∀ k', ww_u2 S k i v k' j = S k' j := fun k' => ww_u2n (fun y => by omega)
  unfold q_nil
  rw [e, e, e, e, e, e, e, e, e, e, e, e]
  exact h j hj h60
theorem q_sl_ne {k j : Nat} (hk : q_sl k = true) (hj : q_sl j = false) : k ≠ j := fun e => by rw [e, hj] at hk; cases hk
theorem q_all_u2 {k i : Nat} (h : q_all S E z D n u w m b) (hk : q_sl k = false) (hI' : q_iI (ww_u2 S k i v) n) : q_all (ww_u2 S k i v) E z D n u w m b := q_all_cg h (fun k' hk' => funext fun j => ww_u2n (fun y => q_sl_ne hk' hk y.1)) hI'
theorem q_iI_us {k : Nat} (h : q_iI S n) (hk : k = 0 ∨ 20 ≤ k ∧ k ≠ 28) : q_iI (q_us S k v) n := fun j hj h60 => by
  have e : ∀ k', k' ≠ k → q_us S k v k' j = S k' j := fun k' hne => if_neg hne
  unfold q_nil
  rw [e 6 (by omega), e 7 (by omega), e 8 (by omega), e 9 (by omega), e 10 (by omega), e 11 (by omega), e 12 (by omega), e 15 (by omega), e 17 (by omega), e 18 (by omega), e 19 (by omega), e 28 (by omega)]
  exact h j hj h60
theorem q_all_0 (h : q_all S E z D n u w m b) : q_all (q_us S 0 v) E z D n u w m b := q_all_cg h (fun k' hk' => funext fun j => if_neg (q_sl_ne hk' rfl)) (q_iI_us h.2.2.2.2.2.2.2.2.1 (Or.inl rfl))
/-! the small operations -/
theorem q_all_limits (h : q_all S E z D n u w m b) {k : Nat} (e d f : Int32) : q_all (q_limits S k e d f) E z D n u w m b := by
  have hI := h.2.2.2.2.2.2.2.2.1
  unfold q_limits
  refine q_all_cg h (fun k' hk' => funext fun j => ?_) (fun j hj h60 => hI j hj h60)
  rw [ww_u2n (fun y => q_sl_ne hk' rfl y.1), ww_u2n (fun y => q_sl_ne hk' rfl y.1), ww_u2n (fun y => q_sl_ne hk' rfl y.1)]
  exact if_neg (q_sl_ne hk' rfl)
theorem q_all_examine (h : q_all S E z D n u w m b) (hp : p < n) : q_all (ww_u2 (ww_u2 S 7 p v) 8 p v') E z D n u w m b := by
  have h1 := q_all_u2 (v := v) (i := p) h (k := 7) rfl (q_iI_u2 h.2.2.2.2.2.2.2.2.1 hp)
  exact q_all_u2 h1 (k := 8) rfl (q_iI_u2 h1.2.2.2.2.2.2.2.2.1 hp)
theorem q_all_waive (h : q_all S E z D n u w m b) (hp : p < n) : q_all (ww_u2 S 8 p v) E z D n u w m b := q_all_u2 (v := v) (i := p) h (k := 8) rfl (q_iI_u2 h.2.2.2.2.2.2.2.2.1 hp)
theorem q_all_gate (h : q_all S E z D n u w m b) (hp : p < n) (hk : S 2 p = 3) (hv : q_rg (-5) 5 v) : q_all (ww_u2 (ww_u2 S 16 p (S 14 p + v)) 17 p 1) E z D n u w m b := by
  obtain ⟨hA, hB, hR, hD, hE, hF, hC, hH, hI, hJ, hu⟩ := h
  refine ⟨q_G_b (q_G_u hA (by decide)) (Or.inr rfl) (by decide), hB, hR, hD, fun i hi hk => ?_, hF, hC, hH, q_iI_u2 (q_iI_u2 hI hp) hp, hJ, hu⟩
  obtain ⟨a1, a2, a3, a5⟩ := hE i hi hk
  refine ⟨a1, a2, a3, fun h17 => ?_⟩
  obtain ⟨v1, v2⟩ := hv
  rw [ww_le', show (-5 : Int32).toInt = -5 from rfl] at v1
  rw [ww_le', show (5 : Int32).toInt = 5 from rfl] at v2
  by_cases c : i = p
  · subst c
    rw [show ww_u2 (ww_u2 S 16 i (S 14 i + v)) 17 i 1 16 i = S 14 i + v from (ww_u2n (fun y => absurd y.1 (by decide))).trans ww_u2s, Int32.toInt_add, Int.bmod_eq_of_le (by omega) (by omega)]
    omega
  · rw [ww_u2n (fun y => c y.2), ww_u2n (fun y => c y.2)] at h17
    rw [ww_u2n (fun y => c y.2), ww_u2n (fun y => c y.2)]
    exact a5 h17
theorem q_all_flaw (h : q_all S E z D n u w m b) (hp : p < n) (hv : q_rg 1 99 v) : q_all (ww_u2 (ww_u2 S 18 p v) 19 p (S 6 p)) E z D n u w m b := by
  obtain ⟨hA, hB, hR, hD, hE, hF, hC, hH, hI, hJ, hu⟩ := h
  refine ⟨q_G_u (q_G_u hA (by decide)) (by decide), hB, hR, fun i hi => ?_, hE, hF, hC, hH, q_iI_u2 (q_iI_u2 hI hp) hp, hJ, hu⟩
  obtain ⟨⟨a1, a2, a3⟩, a4, a5⟩ := hD i hi
  obtain ⟨v1, v2⟩ := hv
  rw [ww_le', show (1 : Int32).toInt = 1 from rfl] at v1
  rw [ww_le', show (99 : Int32).toInt = 99 from rfl] at v2
  by_cases c : i = p
  · subst c
    rw [show ww_u2 (ww_u2 S 18 i v) 19 i (S 6 i) 19 i = S 6 i from ww_u2s, show ww_u2 (ww_u2 S 18 i v) 19 i (S 6 i) 18 i = v from (ww_u2n (fun y => absurd y.1 (by decide))).trans ww_u2s, show ww_u2 (ww_u2 S 18 i v) 19 i (S 6 i) 6 i = S 6 i from rfl]
    exact ⟨⟨by omega, by omega, a3⟩, ⟨by omega, by omega⟩, fun y => by omega⟩
  · rw [ww_u2n (k := 19) (k' := 19) (fun y => c y.2), ww_u2n (k := 19) (k' := 18) (fun y => c y.2), ww_u2n (k := 18) (k' := 18) (fun y => c y.2), ww_u2n (k := 18) (k' := 19) (fun y => c y.2)]
    exact ⟨⟨a1, a2, a3⟩, a4, a5⟩
theorem q_all_clear (h : q_all S E z D n u w m b) (hp : p < n) : q_all (ww_u2 (ww_u2 S 18 p 0) 9 p 0) E z D n u w m b := by
  obtain ⟨hA, hB, hR, hD, hE, hF, hC, hH, hI, hJ, hu⟩ := h
  refine ⟨q_G_b (q_G_u hA (by decide)) (Or.inl rfl) (by decide), hB, hR, fun i hi => ?_, hE, fun t ht h11 => ?_, hC, hH, q_iI_u2 (q_iI_u2 hI hp) hp, hJ, hu⟩
  · obtain ⟨⟨a1, a2, a3⟩, a4, a5⟩ := hD i hi
    by_cases c : i = p
    · subst c
      rw [show ww_u2 (ww_u2 S 18 i 0) 9 i 0 18 i = 0 from (ww_u2n (fun y => absurd y.1 (by decide))).trans ww_u2s]
      exact ⟨⟨a1, a2, a3⟩, ⟨by decide, by decide⟩, fun y => absurd y (by decide)⟩
    · rw [ww_u2n (k := 9) (k' := 18) (fun y => c y.2), ww_u2n (k := 18) (k' := 18) (fun y => c y.2), ww_u2n (k := 9) (k' := 9) (fun y => c y.2)]
      exact ⟨⟨a1, a2, a3⟩, a4, a5⟩
  · obtain ⟨a1, a2⟩ := hF t ht h11
    refine ⟨a1, fun i hi e => ⟨?_, (a2 i hi e).2⟩⟩
    by_cases c : i = p
    · rw [c]; exact ww_u2s
    · rw [ww_u2n (fun y => c y.2)]
      exact (a2 i hi e).1
/-- the head of p is no longer released, and p is held -/
theorem q_all_holds (h : q_all S E z D n u w m b) (hp : p < n) : q_all (q_holds S p) E z D n u w m b := by
  obtain ⟨hA, hB, hR, hD, hE, hF, hC, hH, hI, hJ, hu⟩ := h
  have hd := q_hd_lt hA.2.2.1 hA.2.1 5 p hp
  refine ⟨q_G_b (q_G_b hA (Or.inr rfl) (by decide)) (Or.inl rfl) (by decide), hB, hR, fun i hi => ?_, hE, fun t ht h11 => ?_, hC, hH, q_iI_u2 (q_iI_u2 hI hp) hd, hJ, hu⟩
  · obtain ⟨a1, a4, a5⟩ := hD i hi
    refine ⟨a1, a4, fun y => ?_⟩
    by_cases c : i = p
    · subst c; exact (ww_u2n (fun y => absurd y.1 (by decide))).trans ww_u2s
    · exact (ww_u2n (fun y => absurd y.1 (by decide))).trans ((ww_u2n (fun y => c y.2)).trans (a5 y))
  · by_cases c : t = q_hd (S 5) 5 p
    · rw [c, show q_holds S p 11 (q_hd (S 5) 5 p) = 0 from ww_u2s] at h11
      exact absurd h11 (by decide)
    · have h11' : S 11 t = 1 := ((show q_holds S p 11 t = S 11 t from (ww_u2n (fun y => c y.2)).trans (ww_u2n (fun y => absurd y.1 (by decide)))).symm).trans h11
      obtain ⟨a1, a2⟩ := hF t ht h11'
      refine ⟨a1, fun i hi e => ⟨?_, (a2 i hi e).2⟩⟩
      have hne : i ≠ p := fun y => c (by rw [← y]; exact e.symm)
      exact (ww_u2n (fun y => absurd y.1 (by decide))).trans ((ww_u2n (fun y => hne y.2)).trans (a2 i hi e).1)
theorem q_all_10 (h : q_all S E z D n u w m b) (hp : p < n) (hv : v = 0 ∨ v = 1) : q_all (ww_u2 S 10 p v) E z D n u w m b := by
  obtain ⟨hA, hB, hR, hD, hE, hF, hC, hH, hI, hJ, hu⟩ := h
  exact ⟨q_G_b hA hv (by decide), hB, hR, hD, hE, hF, hC, hH, q_iI_u2 hI hp, hJ, hu⟩
theorem q_all_recall (h : q_all S E z D n u w m b) : q_all (q_rc S v n) E z D n u w m b := by
  have e : ∀ k, k ≠ 10 → k ≠ 11 → q_rc S v n k = S k := fun k h1 h2 => q_rc_k (by omega)
  obtain ⟨hA, hB, hR, hD, hE, hF, hC, hH, hI, hJ, hu⟩ := h
  have e11 : ∀ i, q_rc S v n 11 i = 1 → S 11 i = 1 := fun i hi => by
    unfold q_rc at hi
    rw [q_if_f (fun y => absurd y.1 (by decide))] at hi
    by_cases c : (11 : Nat) = 11 ∧ ∃ q, q < n ∧ q_hit S v q ∧ q_hd (S 5) 5 q = i
    · rw [q_if_t c] at hi; exact absurd hi (by decide)
    · rw [q_if_f c] at hi; exact hi
  have ewq : q_wq (q_rc S v n) = q_wq S := funext fun i => by unfold q_wq; rw [e 27 (by decide) (by decide)]
  have ern : q_rn (q_rc S v n) = q_rn S := funext fun i => by unfold q_rn; rw [e 31 (by decide) (by decide)]
  have erq : q_rq (q_rc S v n) = q_rq S := funext fun i => funext fun j => by unfold q_rq; rw [e 32 (by decide) (by decide)]
  refine ⟨q_G_rc hA, ?_, ?_, ?_, ?_, ?_, ?_, ?_, ?_, ?_, hu⟩
  · unfold q_iB q_W at hB ⊢
    rw [ewq, e 26 (by decide) (by decide), e 27 (by decide) (by decide), e 28 (by decide) (by decide), e 12 (by decide) (by decide)]
    exact hB
  · unfold q_iR q_Rd at hR ⊢
    rw [ern, erq, e 31 (by decide) (by decide), e 32 (by decide) (by decide), e 28 (by decide) (by decide), e 12 (by decide) (by decide)]
    exact hR
  · rw [e 6 (by decide) (by decide), e 9 (by decide) (by decide), e 18 (by decide) (by decide), e 19 (by decide) (by decide)]; exact hD
  · rw [e 2 (by decide) (by decide), e 13 (by decide) (by decide), e 14 (by decide) (by decide), e 15 (by decide) (by decide), e 16 (by decide) (by decide), e 17 (by decide) (by decide)]; exact hE
  · rw [e 2 (by decide) (by decide), e 5 (by decide) (by decide), e 9 (by decide) (by decide), e 13 (by decide) (by decide), e 14 (by decide) (by decide)]
    exact fun t ht h11 => hF t ht (e11 t h11)
  · rw [e 2 (by decide) (by decide), e 5 (by decide) (by decide)]; exact hC
  · rw [e 4 (by decide) (by decide)]; exact hH
  · intro i hi h60
    obtain ⟨z6, z7, z8, z9, z10, z11, z12, z15, z17, z18, z19, z28⟩ := hI i hi h60
    unfold q_nil
    rw [e 6 (by decide) (by decide), e 7 (by decide) (by decide), e 8 (by decide) (by decide), e 9 (by decide) (by decide), e 12 (by decide) (by decide), e 15 (by decide) (by decide), e 17 (by decide) (by decide), e 18 (by decide) (by decide), e 19 (by decide) (by decide), e 28 (by decide) (by decide)]
    refine ⟨z6, z7, z8, z9, ?_, ?_, z12, z15, z17, z18, z19, z28⟩
    · unfold q_rc
      rw [q_if_f (fun y => by have := y.2.1; omega), q_if_f (fun y => absurd y.1 (by decide))]
      exact z10
    · unfold q_rc
      rw [q_if_f (fun y => absurd y.1 (by decide))]
      by_cases c : (11 : Nat) = 11 ∧ ∃ q, q < n ∧ q_hit S v q ∧ q_hd (S 5) 5 q = i
      · rw [q_if_t c]
      · rw [q_if_f c]; exact z11
  · rw [e 23 (by decide) (by decide), e 5 (by decide) (by decide), e 6 (by decide) (by decide), e 24 (by decide) (by decide), e 25 (by decide) (by decide)]; exact hJ
end WWQ1
