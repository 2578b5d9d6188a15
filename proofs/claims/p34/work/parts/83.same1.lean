/-! ===== the class's answers and the model's ===== -/
section WWQ9
variable {S X : Nat → Nat → Int32} {E : Nat → Nat → Int32} {z D d : Nat → Nat} {n u w m b p r k i t a y : Nat} {v s : Int32} {P Q : Nat → Prop}
theorem q_fj_cg {P R : Nat → Prop} {v : Int32} : ∀ {m i j : Nat}, (∀ p, i ≤ p → p < i + m → (P p ↔ R p)) → q_fj P v m i j = q_fj R v m i j
  | 0, _, _, _ => rfl
  | m + 1, i, j, h => by
    unfold q_fj
    have h0 := h i (Nat.le_refl _) (by omega)
    rw [q_fj_cg (m := m) (i := i + 1) (j := j + 1) (fun p h1 h2 => h p (by omega) (by omega)), q_fj_cg (m := m) (i := i + 1) (j := j) (fun p h1 h2 => h p (by omega) (by omega)), q_if_cg h0]
theorem q_fj_at {P : Nat → Prop} {k : Nat} (hk : k < 2 ^ 31) : ∀ {m i q : Nat}, i ≤ q → q < i + m → i + m < 2 ^ 31 → P q → q_cnt P q = k → q_fj P (nI k) m i (q_cnt P i) = some q
  | 0, i, q, h1, h2, _, _, _ => by omega
  | m + 1, i, q, h1, h2, h5, hp, hc => by
    have hle := q_cnt_le P i
    unfold q_fj
    by_cases c : P i
    · rw [q_if_t c]
      by_cases e : i = q
      · subst e
        rw [if_pos (congrArg nI hc)]
      · have := q_cnt_lt2 (P := P) (show i < q by omega) c
        rw [if_neg (fun x => by have := (nI_eq (by omega) hk).mp x; omega), ← q_cnt_s c]
        exact q_fj_at hk (by omega) (by omega) (by omega) hp hc
    · rw [q_if_f c, ← q_cnt_n c]
      have : i ≠ q := fun e => c (e ▸ hp)
      exact q_fj_at hk (by omega) (by omega) (by omega) hp hc
theorem q_fj_of {P : Nat → Prop} {k m q : Nat} (hk : k < 2 ^ 31) (hm : m < 2 ^ 31) (h2 : q < m) (hp : P q) (hc : q_cnt P q = k) : q_fj P (nI k) m 0 0 = some q := q_fj_at (i := 0) hk (Nat.zero_le _) (by omega) (by omega) hp hc
theorem q_nth_of {Q : Nat → Prop} : ∀ {m v i c : Nat}, i ≤ c → c < i + m → Q c → q_cnt Q c = q_cnt Q i + v → q_nth Q m v i = c
  | 0, v, i, c, h1, h2, _, _ => by omega
  | m + 1, v, i, c, h1, h2, hq, hc => by
    by_cases ci : Q i
    · match v, hc with
      | 0, hc =>
        rw [q_nth_t0 ci]
        by_cases e : i = c
        · exact e
        · have := q_cnt_lt2 (P := Q) (show i < c by omega) ci
          omega
      | v + 1, hc =>
        rw [q_nth_t ci]
        have : i ≠ c := fun e => by rw [e] at hc; omega
        refine q_nth_of (by omega) (by omega) hq ?_
        rw [q_cnt_s ci]
        omega
    · rw [q_nth_f ci]
      have : i ≠ c := fun e => ci (e ▸ hq)
      refine q_nth_of (by omega) (by omega) hq ?_
      rw [q_cnt_n ci]
      exact hc
/-! moves -/
theorem q_mov_cnt {s5 s6 s24 s25 : Nat → Int32} (h : q_iJ E u s5 s6 s24 s25 n k) {v : Int32} : ∀ i, i ≤ u → q_cnt (q_mov E v) i = q_cnt (fun c => s24 c = v) (q_cnt (fun j => E 2 j = 0) i)
  | 0, _ => rfl
  | i + 1, hi => by
    have ih := q_mov_cnt h (v := v) i (by omega)
    by_cases c : E 2 i = 0
    · have h5 := h.2.2.2.2 i (by omega) c
      rw [q_cnt_s (P := fun j => E 2 j = 0) c]
      by_cases c2 : E 0 i = v
      · rw [q_cnt_s (P := q_mov E v) ⟨c2, c⟩, q_cnt_s (P := fun c => s24 c = v) (h5.1.trans c2), ih]
      · rw [q_cnt_n (P := q_mov E v) (fun x => c2 x.1), q_cnt_n (P := fun c => s24 c = v) (fun x => c2 (h5.1.symm.trans x)), ih]
    · rw [q_cnt_n (P := fun j => E 2 j = 0) c, q_cnt_n (P := q_mov E v) (fun x => c x.2), ih]
theorem q_mov_mv (h : q_iJ E u (S 5) (S 6) (S 24) (S 25) n k) : q_cnt (q_mov E (nI p)) u = q_mv S k p := by
  rw [q_mov_cnt h u (Nat.le_refl _), ← h.2.2.2.1]
  rfl
theorem q_cof_eq (h : q_iJ E u (S 5) (S 6) (S 24) (S 25) n k) : ∀ j, j ≤ 8 → q_cof S E u p j = q_ofP S k p j := by
  intro j hj
  have hv : j = 0 ∨ j = 1 ∨ j = 2 ∨ j = 3 ∨ j = 4 ∨ j = 5 ∨ j = 6 ∨ j = 7 ∨ j = 8 := by omega
  rcases hv with rfl | rfl | rfl | rfl | rfl | rfl | rfl | rfl | rfl
  · rfl
  · rfl
  · rfl
  · rfl
  · rfl
  · rfl
  · rfl
  · rfl
  · show nI (q_cnt (q_mov E (nI p)) u) = nI (q_mv S k p)
    rw [q_mov_mv h]
theorem q_trace_t (h : q_iJ E u (S 5) (S 6) (S 24) (S 25) n k) (hu : u < 2 ^ 31) {j : Nat} (hj : j < q_mv S k p) : ∃ e, q_fj (q_mov E (nI p)) (nI j) u 0 0 = some e ∧ E 1 e = S 25 (q_nth (fun c => S 24 c = nI p) k j 0) := by
  have hj' : j < q_cnt (q_mov E (nI p)) u := by rw [q_mov_mv h]; exact hj
  have hle := q_cnt_le (q_mov E (nI p)) u
  obtain ⟨e, he, h1, h2⟩ := q_cnt_at hj'
  refine ⟨e, q_fj_of (by omega) hu he h1 h2, ?_⟩
  have h5 := h.2.2.2.2 e he h1.2
  have hc := q_mov_cnt h (v := nI p) e (by omega)
  have hn : q_nth (fun c => S 24 c = nI p) k j 0 = q_cnt (fun j => E 2 j = 0) e := by
    refine q_nth_of (Nat.zero_le _) ?_ (h5.1.trans h1.1) ?_
    · rw [Nat.zero_add, h.2.2.2.1]
      exact q_cnt_lt2 (P := fun j => E 2 j = 0) he h1.2
    · rw [← hc, h2]
      exact (Nat.zero_add j).symm
  rw [hn]
  exact h5.2.symm
theorem q_trace_f (h : q_iJ E u (S 5) (S 6) (S 24) (S 25) n k) (hu : u < 2 ^ 31) (hv : ¬ (0 ≤ v.toInt ∧ v.toInt < (q_mv S k p : Int))) : q_fj (q_mov E (nI p)) v u 0 0 = none := by
  cases hq : q_fj (q_mov E (nI p)) v u 0 0 with
  | none => rfl
  | some e =>
    have he := (q_fj_some hq)
    have hc := q_fj_cnt (i := 0) hq
    have hlt := q_cnt_lt2 (P := q_mov E (nI p)) (show e < u by omega) he.2.2
    rw [q_mov_mv h] at hlt
    have hle := q_cnt_le (q_mov E (nI p)) e
    exfalso
    apply hv
    rw [← hc, nI_toInt (by omega)]
    omega
/-! bars -/
theorem q_all_5 : q_any P 5 ↔ P 0 ∨ P 1 ∨ P 2 ∨ P 3 ∨ P 4 := by
  constructor
  · rintro ⟨k, hk, h⟩
    have : k = 0 ∨ k = 1 ∨ k = 2 ∨ k = 3 ∨ k = 4 := by omega
    rcases this with rfl | rfl | rfl | rfl | rfl
    · exact Or.inl h
    · exact Or.inr (Or.inl h)
    · exact Or.inr (Or.inr (Or.inl h))
    · exact Or.inr (Or.inr (Or.inr (Or.inl h)))
    · exact Or.inr (Or.inr (Or.inr (Or.inr h)))
  · rintro (h | h | h | h | h)
    · exact ⟨0, by decide, h⟩
    · exact ⟨1, by decide, h⟩
    · exact ⟨2, by decide, h⟩
    · exact ⟨3, by decide, h⟩
    · exact ⟨4, by decide, h⟩
theorem q_room_empty (hG : q_G S n) (hC : q_iC (S 2) (S 5) n) (hp : p < n) : q_any (q_room S n p) 5 ↔ q_empty S n p := by
  have h6 := hG.2.1
  have hc := hC p hp
  have er : ∀ k, k < 5 → (q_room S n p k ↔ ((q_cnt (fun j => S 5 j = nI p ∧ S 2 j = nI k) n : Nat) : Int) < (q_places (S 2 p) (nI k)).toInt) := fun k hk => by
    unfold q_room q_inK
    rw [ww_lt, nI_toInt (by have := q_cnt_le (fun j => S 5 j = nI p ∧ S 2 j = nI k) n; omega)]
  have es : q_in S n (nI p) = q_cnt (fun j => S 5 j = nI p ∧ S 2 j = nI 0) n + q_cnt (fun j => S 5 j = nI p ∧ S 2 j = nI 1) n + q_cnt (fun j => S 5 j = nI p ∧ S 2 j = nI 2) n + q_cnt (fun j => S 5 j = nI p ∧ S 2 j = nI 3) n + q_cnt (fun j => S 5 j = nI p ∧ S 2 j = nI 4) n := by
    have h5 : 0 + q_cnt (fun j => S 5 j = nI p ∧ S 2 j = nI 0) n + q_cnt (fun j => S 5 j = nI p ∧ S 2 j = nI 1) n + q_cnt (fun j => S 5 j = nI p ∧ S 2 j = nI 2) n + q_cnt (fun j => S 5 j = nI p ∧ S 2 j = nI 3) n + q_cnt (fun j => S 5 j = nI p ∧ S 2 j = nI 4) n = q_cnt (fun j => S 5 j = nI p) n := q_inB_5 (p := p) hG.2.2.1
    show q_cnt (fun j => S 5 j = nI p) n = _
    omega
  rw [q_all_5, er 0 (by decide), er 1 (by decide), er 2 (by decide), er 3 (by decide), er 4 (by decide)]
  unfold q_empty
  rw [es]
  have c0 := hc 0 (by decide)
  have c1 := hc 1 (by decide)
  have c2 := hc 2 (by decide)
  have c3 := hc 3 (by decide)
  have c4 := hc 4 (by decide)
  generalize q_cnt (fun j => S 5 j = nI p ∧ S 2 j = nI 0) n = x0 at *
  generalize q_cnt (fun j => S 5 j = nI p ∧ S 2 j = nI 1) n = x1 at *
  generalize q_cnt (fun j => S 5 j = nI p ∧ S 2 j = nI 2) n = x2 at *
  generalize q_cnt (fun j => S 5 j = nI p ∧ S 2 j = nI 3) n = x3 at *
  generalize q_cnt (fun j => S 5 j = nI p ∧ S 2 j = nI 4) n = x4 at *
  obtain ⟨κ, hκ, e⟩ := (hG.2.2.1 p hp).1
  rw [e] at c0 c1 c2 c3 c4 ⊢
  have hv : κ = 0 ∨ κ = 1 ∨ κ = 2 ∨ κ = 3 ∨ κ = 4 := by omega
  rcases hv with rfl | rfl | rfl | rfl | rfl
  · rw [show (q_places (nI 0) (nI 0)).toInt = 0 by decide] at c0 ⊢
    rw [show (q_places (nI 0) (nI 1)).toInt = 2 by decide] at c1 ⊢
    rw [show (q_places (nI 0) (nI 2)).toInt = 0 by decide] at c2 ⊢
    rw [show (q_places (nI 0) (nI 3)).toInt = 0 by decide] at c3 ⊢
    rw [show (q_places (nI 0) (nI 4)).toInt = 0 by decide] at c4 ⊢
    have e1 : ¬ nI 0 = 2 := by decide
    have e2 : nI 0 < 2 := by decide
    simp only [e1, e2, false_and, true_and, false_or]
    omega
  · rw [show (q_places (nI 1) (nI 0)).toInt = 0 by decide] at c0 ⊢
    rw [show (q_places (nI 1) (nI 1)).toInt = 0 by decide] at c1 ⊢
    rw [show (q_places (nI 1) (nI 2)).toInt = 2 by decide] at c2 ⊢
    rw [show (q_places (nI 1) (nI 3)).toInt = 0 by decide] at c3 ⊢
    rw [show (q_places (nI 1) (nI 4)).toInt = 0 by decide] at c4 ⊢
    have e1 : ¬ nI 1 = 2 := by decide
    have e2 : nI 1 < 2 := by decide
    simp only [e1, e2, false_and, true_and, false_or]
    omega
  · rw [show (q_places (nI 2) (nI 0)).toInt = 0 by decide] at c0 ⊢
    rw [show (q_places (nI 2) (nI 1)).toInt = 0 by decide] at c1 ⊢
    rw [show (q_places (nI 2) (nI 2)).toInt = 0 by decide] at c2 ⊢
    rw [show (q_places (nI 2) (nI 3)).toInt = 2 by decide] at c3 ⊢
    rw [show (q_places (nI 2) (nI 4)).toInt = 1 by decide] at c4 ⊢
    have e1 : nI 2 = 2 := by decide
    have e2 : ¬ nI 2 < 2 := by decide
    simp only [e1, e2, false_and, true_and, or_false]
    omega
  · rw [show (q_places (nI 3) (nI 0)).toInt = 0 by decide] at c0 ⊢
    rw [show (q_places (nI 3) (nI 1)).toInt = 0 by decide] at c1 ⊢
    rw [show (q_places (nI 3) (nI 2)).toInt = 0 by decide] at c2 ⊢
    rw [show (q_places (nI 3) (nI 3)).toInt = 0 by decide] at c3 ⊢
    rw [show (q_places (nI 3) (nI 4)).toInt = 0 by decide] at c4 ⊢
    have e1 : ¬ nI 3 = 2 := by decide
    have e2 : ¬ nI 3 < 2 := by decide
    simp only [e1, e2, false_and, or_false]
    exact ⟨fun x => by omega, fun x => x.elim⟩
  · rw [show (q_places (nI 4) (nI 0)).toInt = 0 by decide] at c0 ⊢
    rw [show (q_places (nI 4) (nI 1)).toInt = 0 by decide] at c1 ⊢
    rw [show (q_places (nI 4) (nI 2)).toInt = 0 by decide] at c2 ⊢
    rw [show (q_places (nI 4) (nI 3)).toInt = 0 by decide] at c3 ⊢
    rw [show (q_places (nI 4) (nI 4)).toInt = 0 by decide] at c4 ⊢
    have e1 : ¬ nI 4 = 2 := by decide
    have e2 : ¬ nI 4 < 2 := by decide
    simp only [e1, e2, false_and, or_false]
    exact ⟨fun x => by omega, fun x => x.elim⟩
/-- the wheels within, by the one and by the other -/
theorem q_cw_isw (hG : q_G S n) (hp : p < n) (hk : 1 ≤ (S 2 p).toInt) (hi : i < n) : q_cw S p i ↔ q_isw S (nI p) i := by
  have h6 := hG.2.1
  have hg := hG.2.2.1
  unfold q_cw q_isw
  by_cases c3 : S 2 i = 3
  · rcases q_gh_cases hg h6 hi with h1 | ⟨q, hq, e, hl⟩
    · exact ⟨fun x => absurd x.2 (q_wi_n h1), fun x => absurd h1 x.2.1⟩
    · rw [c3, show (3 : Int32).toInt = 3 from rfl] at hl
      have en : ¬ S 5 i < 0 := by rw [e]; exact nI_pos (by omega)
      have ec : (S 5 i).toNatClampNeg = q := by rw [e]; exact nI_clamp (by omega)
      have e1 : q_wi (S 5) p 5 (S 5 i) ↔ S 5 i = nI p ∨ q_wi (S 5) p 4 (S 5 q) := by
        show (¬ S 5 i < 0 ∧ (S 5 i = nI p ∨ q_wi (S 5) p 4 (S 5 (S 5 i).toNatClampNeg))) ↔ _
        rw [ec]
        exact ⟨fun x => x.2, fun x => ⟨en, x⟩⟩
      rw [e1, ec]
      have e2 : q_wi (S 5) p 4 (S 5 q) ↔ S 5 q = nI p := by
        rcases q_gh_cases hg h6 hq with g1 | ⟨q2, hq2, f, fl⟩
        · refine ⟨fun x => absurd x (q_wi_n g1), fun x => absurd g1 (by rw [x]; exact nI_pos (by omega))⟩
        · have fc : (S 5 q).toNatClampNeg = q2 := by rw [f]; exact nI_clamp (by omega)
          have e3 : ¬ q_wi (S 5) p 3 (S 5 q2) := fun x => by
            rcases q_gh_cases hg h6 hq2 with g2 | ⟨q3, hq3, f2, fl2⟩
            · exact absurd x (q_wi_n g2)
            · have fc2 : (S 5 q2).toNatClampNeg = q3 := by rw [f2]; exact nI_clamp (by omega)
              have k3 := q_gh_kd hg hq3
              have x2 : S 5 q2 = nI p ∨ q_wi (S 5) p 2 (S 5 (S 5 q2).toNatClampNeg) := x.2
              rw [fc2] at x2
              rcases x2 with x2 | x2
              · rw [f2] at x2
                have := (nI_eq (by omega) (by omega)).mp x2
                rw [this] at fl2
                omega
              · rcases q_gh_cases hg h6 hq3 with g3 | ⟨q4, hq4, f3, fl3⟩
                · exact absurd x2 (q_wi_n g3)
                · have := q_gh_kd hg hq4
                  omega
          show (¬ S 5 q < 0 ∧ (S 5 q = nI p ∨ q_wi (S 5) p 3 (S 5 (S 5 q).toNatClampNeg))) ↔ _
          rw [fc]
          exact ⟨fun x => x.2.resolve_right e3, fun x => ⟨by rw [f]; exact nI_pos (by omega), Or.inl x⟩⟩
      rw [e2]
      exact ⟨fun x => ⟨x.1, en, x.2⟩, fun x => ⟨x.1, x.2.2⟩⟩
  · exact ⟨fun x => absurd x.1 c3, fun x => absurd x.1 c3⟩
theorem q_spread (hG : q_G S n) (hE : q_iE (S 2) (S 13) (S 14) (S 15) (S 16) (S 17) n b) (hp : p < n) (hk : 1 ≤ (S 2 p).toInt) : ∀ i, i ≤ n → (q_clo S p i = 9000 ∧ q_chi S p i = 0 ∧ q_lo S (nI p) i = 1000000 ∧ q_hi S (nI p) i = -1000000) ∨ (q_clo S p i = q_lo S (nI p) i ∧ q_chi S p i = q_hi S (nI p) i ∧ (q_lo S (nI p) i).toInt ≤ 9000 ∧ 0 ≤ (q_hi S (nI p) i).toInt)
  | 0, _ => Or.inl ⟨rfl, rfl, rfl, rfl⟩
  | i + 1, h => by
    have ih := q_spread hG hE hp hk i (by omega)
    have ec := q_cw_isw hG hp hk (show i < n by omega)
    by_cases c : q_isw S (nI p) i
    · have cc := ec.mpr c
      obtain ⟨⟨b1, b2⟩, ⟨b3, b4⟩, _⟩ := hE i (by omega) c.1
      have h1 : q_clo S p (i + 1) = if S 13 i < q_clo S p i then S 13 i else q_clo S p i := q_if_t cc
      have h2 : q_chi S p (i + 1) = if q_chi S p i < S 13 i then S 13 i else q_chi S p i := q_if_t cc
      right
      rcases ih with ⟨i1, i2, i3, i4⟩ | ⟨i1, i2, i3, i4⟩
      · have l1 : q_lo S (nI p) (i + 1) = S 13 i := q_if_t ⟨c, by rw [i3, ww_lt, show (1000000 : Int32).toInt = 1000000 from rfl]; omega⟩
        have l2 : q_hi S (nI p) (i + 1) = S 13 i := q_if_t ⟨c, by rw [i4, ww_lt, show (-1000000 : Int32).toInt = -1000000 from rfl]; omega⟩
        rw [h1, h2, l1, l2, i1, i2]
        refine ⟨?_, ?_, by omega, by omega⟩
        · by_cases x : S 13 i < 9000
          · rw [if_pos x]
          · rw [if_neg x, ww_eq]
            rw [ww_lt] at x
            rw [show (9000 : Int32).toInt = 9000 from rfl] at x ⊢
            omega
        · rw [if_pos (by rw [ww_lt, show (0 : Int32).toInt = 0 from rfl]; omega)]
      · rw [h1, h2, i1, i2]
        by_cases x : S 13 i < q_lo S (nI p) i
        · have l1 : q_lo S (nI p) (i + 1) = S 13 i := q_if_t ⟨c, x⟩
          rw [l1, if_pos x]
          by_cases x2 : q_hi S (nI p) i < S 13 i
          · have l2 : q_hi S (nI p) (i + 1) = S 13 i := q_if_t ⟨c, x2⟩
            rw [l2, if_pos x2]
            exact ⟨rfl, rfl, by omega, by omega⟩
          · have l2 : q_hi S (nI p) (i + 1) = q_hi S (nI p) i := q_if_f (fun y => x2 y.2)
            rw [l2, if_neg x2]
            exact ⟨rfl, rfl, by omega, i4⟩
        · have l1 : q_lo S (nI p) (i + 1) = q_lo S (nI p) i := q_if_f (fun y => x y.2)
          rw [l1, if_neg x]
          by_cases x2 : q_hi S (nI p) i < S 13 i
          · have l2 : q_hi S (nI p) (i + 1) = S 13 i := q_if_t ⟨c, x2⟩
            rw [l2, if_pos x2]
            exact ⟨rfl, rfl, i3, by omega⟩
          · have l2 : q_hi S (nI p) (i + 1) = q_hi S (nI p) i := q_if_f (fun y => x2 y.2)
            rw [l2, if_neg x2]
            exact ⟨rfl, rfl, i3, i4⟩
    · have h1 : q_clo S p (i + 1) = q_clo S p i := q_if_f (fun y => c (ec.mp y))
      have h2 : q_chi S p (i + 1) = q_chi S p i := q_if_f (fun y => c (ec.mp y))
      have l1 : q_lo S (nI p) (i + 1) = q_lo S (nI p) i := q_if_f (fun y => c y.1)
      have l2 : q_hi S (nI p) (i + 1) = q_hi S (nI p) i := q_if_f (fun y => c y.1)
      rw [h1, h2, l1, l2]
      exact ih
theorem q_cap_apart (hG : q_G S n) (hE : q_iE (S 2) (S 13) (S 14) (S 15) (S 16) (S 17) n b) (hp : p < n) : q_cap S n p ↔ q_apart S n p := by
  unfold q_cap q_apart q_sp
  by_cases hk : 1 ≤ (S 2 p).toInt
  · rcases q_spread hG hE hp hk n (Nat.le_refl _) with ⟨e1, e2, e3, e4⟩ | ⟨e1, e2, _, _⟩
    · rw [e1, e2, e3, e4]
      constructor
      · rintro (⟨_, x⟩ | ⟨_, x⟩) <;> exact absurd x (by decide)
      · rintro (⟨_, x⟩ | ⟨_, x⟩) <;> exact absurd x (by decide)
    · rw [e1, e2]
  · have c2 : ¬ S 2 p = 2 := fun x => hk (by rw [x]; decide)
    have c1 : ¬ S 2 p = 1 := fun x => hk (by rw [x]; decide)
    exact ⟨fun x => x.elim (fun y => absurd y.1 c2) (fun y => absurd y.1 c1), fun x => x.elim (fun y => absurd y.1 c2) (fun y => absurd y.1 c1)⟩
theorem q_so_bars (H : q_all S E z D n u w m b) (hp : p < n) : q_so S n p r ↔ q_bars S n p r := by
  have hG := H.1
  have e1 := q_room_empty hG H.2.2.2.2.2.2.1 hp
  have e6 := q_cap_apart hG H.2.2.2.2.1 hp
  have e7 : q_cdue S p ↔ q_due S p := by
    unfold q_cdue q_due
    rw [ww_le', ww_le', ww_lt, ww_lt, show (0 : Int32).toInt = 0 from rfl]
    omega
  unfold q_so q_bars
  rw [e1, e6, e7]
theorem q_clow_low (H : q_all S E z D n u w m b) : q_clow S n t r = q_low S n t r := q_ff_cg (fun p _ h2 => by rw [q_so_bars H (by omega)])
theorem q_fbar_bar (H : q_all S E z D n u w m b) (t : Nat) : ∀ m r, 1 ≤ r → (q_bar S n t m r = none ∧ q_fbar S n t m r = 0) ∨ ∃ r' p, q_bar S n t m r = some (r', p) ∧ q_fbar S n t m r = r' ∧ q_clow S n t r' = some p ∧ r ≤ r' ∧ r' < r + m ∧ p < n
  | 0, r, _ => Or.inl ⟨rfl, rfl⟩
  | m + 1, r, h => by
    unfold q_bar q_fbar
    rw [← q_clow_low H]
    cases hq : q_clow S n t r with
    | some p => exact Or.inr ⟨r, p, rfl, rfl, hq, Nat.le_refl _, by omega, by have := (q_ff_some hq).2.1; omega⟩
    | none =>
      rcases q_fbar_bar H t m (r + 1) (by omega) with x | ⟨r', p, x1, x2, x3, x4, x5, x6⟩
      · exact Or.inl x
      · exact Or.inr ⟨r', p, x1, x2, x3, by omega, by omega, x6⟩
theorem q_bars_eq (H : q_all S E z D n u w m b) : nI (q_fbar S n t 7 1) = nI (q_code (q_bar S n t 7 1)) / 100 := by
  have h6 := H.1.2.1
  rcases q_fbar_bar H t 7 1 (by decide) with ⟨e1, e2⟩ | ⟨r', p, e1, e2, e3, e4, e5, e6⟩
  · rw [e1, e2]; decide
  · rw [e1, e2]
    show nI r' = nI (100 * r' + p) / 100
    have h1 : (nI (100 * r' + p)).toInt = ((100 * r' + p : Nat) : Int) := nI_toInt (by omega)
    have h2 := q_divI (y := 100) h1 rfl (by omega) (by omega) (by decide)
    rw [ww_eq, h2, nI_toInt (by omega), show (100 : Int32).toInt = 100 from rfl]
    omega
theorem q_by_eq (H : q_all S E z D n u w m b) : q_cby S n t = if nI (q_code (q_bar S n t 7 1)) = 0 then -1 else nI (q_code (q_bar S n t 7 1)) - nI (q_code (q_bar S n t 7 1)) / 100 * 100 := by
  have h6 := H.1.2.1
  unfold q_cby
  rcases q_fbar_bar H t 7 1 (by decide) with ⟨e1, e2⟩ | ⟨r', p, e1, e2, e3, e4, e5, e6⟩
  · rw [e1, e2, if_pos rfl]
    rfl
  · rw [e1, e2, if_neg (by omega), e3]
    show nI p = if nI (100 * r' + p) = 0 then -1 else nI (100 * r' + p) - nI (100 * r' + p) / 100 * 100
    have h1 : (nI (100 * r' + p)).toInt = ((100 * r' + p : Nat) : Int) := nI_toInt (by omega)
    rw [if_neg (fun x => by rw [ww_eq, h1, show (0 : Int32).toInt = 0 from rfl] at x; omega)]
    have h2 := q_divI (y := 100) h1 rfl (by omega) (by omega) (by decide)
    rw [show (100 : Int32).toInt = 100 from rfl] at h2
    have h3 : (nI (100 * r' + p) / 100 * 100).toInt = ((100 * r' + p : Nat) : Int) / 100 * 100 := by rw [Int32.toInt_mul, h2, show (100 : Int32).toInt = 100 from rfl, Int.bmod_eq_of_le (by omega) (by omega)]
    rw [ww_eq, q_subI h1 h3 (by omega) (by omega), nI_toInt (by omega)]
    omega
/-- none bars: what the release then knows -/
theorem q_rel_ok (H : q_all S E z D n u w m b) (h0 : q_fbar S n t 7 1 = 0) : ∀ i, i < n → q_hd (S 5) 5 i = t → S 9 i = 0 ∧ (S 2 i = 3 → 250 ≤ (S 14 i).toInt ∧ 8500 ≤ (S 13 i).toInt) := by
  have key : ∀ m r, 1 ≤ r → q_fbar S n t m r = 0 → ∀ r', r ≤ r' → r' < r + m → q_clow S n t r' = none := by
    intro m
    induction m with
    | zero => intro r _ _ r' h1 h2; omega
    | succ m ih =>
      intro r hr h r' h1 h2
      unfold q_fbar at h
      cases hq : q_clow S n t r with
      | some p => rw [hq] at h; have h : r = 0 := h; omega
      | none =>
        rw [hq] at h
        by_cases e : r' = r
        · rw [e]; exact hq
        · exact ih (r + 1) (by omega) h r' (by omega) (by omega)
  intro i hi e
  have k2 := q_ff_none (key 7 1 (by decide) h0 2 (by decide) (by decide)) i (Nat.zero_le _) (by omega)
  have k5 := q_ff_none (key 7 1 (by decide) h0 5 (by decide) (by decide)) i (Nat.zero_le _) (by omega)
  refine ⟨(H.1.2.2.2.1 i).resolve_right (fun x => k2 ⟨e, q_so_2.mpr x⟩), fun hk => ?_⟩
  have hw : ¬ q_worn S i := fun x => k5 ⟨e, q_so_5.mpr x⟩
  constructor
  · have : ¬ S 14 i < 250 := fun x => hw ⟨hk, Or.inr x⟩
    rw [ww_lt, show (250 : Int32).toInt = 250 from rfl] at this
    omega
  · have : ¬ S 13 i < 8500 := fun x => hw ⟨hk, Or.inl x⟩
    rw [ww_lt, show (8500 : Int32).toInt = 8500 from rfl] at this
    omega
/-! foretell -/
theorem q_fore_eq (H : q_all S E z D n u w m b) (hp : p < n) (hk : S 2 p = 3) : q_cfore S p v s = q_fore S p v s := by
  unfold q_cfore q_fore
  by_cases c : S 17 p = 0
  · rw [if_pos c, if_pos rfl, if_pos c]
  · rw [if_neg c, if_neg c]
    have h16 := (H.2.2.2.2.1 p hp hk).2.2.2 c
    rw [if_neg (fun x => by rw [x] at h16; exact absurd h16 (by decide))]
    by_cases c2 : S 16 p - 250 ≤ 0
    · rw [if_pos c2, if_neg (fun x => by rw [ww_lt] at x; rw [ww_le'] at c2; omega)]
      rw [ww_eq, Int32.toInt_div, show ((0 : Int32) * 200).toInt = 0 from rfl, Int.zero_tdiv]
      decide
    · rw [if_neg c2, if_pos (by rw [ww_lt]; rw [ww_le'] at c2; omega)]
/-! the lathe's pair -/
theorem q_ws_low : ∀ i, ((∀ j, j < i → ¬ q_isS S p j) → q_ws S (nI p) (¬ (0 : Int32) = 0) i = -1) ∧ ∀ a, a < i → q_isS S p a → (∀ j, j < a → ¬ q_isS S p j) → a < 2 ^ 31 → q_ws S (nI p) (¬ (0 : Int32) = 0) i = nI a
  | 0 => ⟨fun _ => rfl, fun a h => by omega⟩
  | i + 1 => by
    obtain ⟨h1, h2⟩ := q_ws_low i
    refine ⟨fun h => ?_, fun a ha hs hn hb => ?_⟩
    · rw [q_ws_f (fun x => h i (by omega) x.1)]
      exact h1 (fun j hj => h j (by omega))
    · by_cases e : a = i
      · rw [e, q_ws_t ⟨e ▸ hs, Or.inr (h1 (fun j hj => hn j (by omega)))⟩]
      · rw [q_ws_f (fun x => ?_)]
        · exact h2 a (by omega) hs hn hb
        · rcases x.2 with y | y
          · exact y rfl
          · rw [h2 a (by omega) hs hn hb, ww_eq, nI_toInt hb, show (-1 : Int32).toInt = -1 from rfl] at y
            omega
theorem q_ws_high : ∀ i y, y < i → q_isS S p y → (∀ j, y < j → j < i → ¬ q_isS S p j) → q_ws S (nI p) (¬ (1 : Int32) = 0) i = nI y
  | 0, y, h, _, _ => by omega
  | i + 1, y, h, hs, hn => by
    by_cases e : y = i
    · rw [e, q_ws_t ⟨e ▸ hs, Or.inl (by decide)⟩]
    · rw [q_ws_f (fun x => hn i (by omega) (by omega) x.1)]
      exact q_ws_high i y (by omega) hs (fun j h1 h2 => hn j h1 (by omega))
theorem q_pair_of (H : q_all S E z D n u w m b) (hp : p < n) (hk : S 2 p = 2) (h : ¬ nI (q_inK S n (nI p) 3) < 2) : ∃ a y, q_pair S n p a y ∧ q_ws S (nI p) (¬ (0 : Int32) = 0) n = nI a ∧ q_ws S (nI p) (¬ (1 : Int32) = 0) n = nI y ∧ S 5 a = nI p ∧ S 5 y = nI p := by
  have h6 := H.1.2.1
  have hc := H.2.2.2.2.2.2.1 p hp 3 (by decide)
  rw [hk, show (q_places 2 (nI 3)).toInt = 2 by decide] at hc
  have hle := q_cnt_le (fun j => S 5 j = nI p ∧ S 2 j = nI 3) n
  have e3 : q_cnt (q_isS S p) n = 2 := by
    have e : q_inK S n (nI p) 3 = q_cnt (q_isS S p) n := rfl
    have e' : q_cnt (fun j => S 5 j = nI p ∧ S 2 j = nI 3) n = q_cnt (q_isS S p) n := rfl
    rw [e, ww_lt, nI_toInt (by rw [← e']; omega), show (2 : Int32).toInt = 2 from rfl] at h
    rw [e'] at hc
    omega
  obtain ⟨a, ha, sa, ca⟩ := q_cnt_at (P := q_isS S p) (show 0 < q_cnt (q_isS S p) n by omega)
  obtain ⟨y, hy, sy, cy⟩ := q_cnt_at (P := q_isS S p) (show 1 < q_cnt (q_isS S p) n by omega)
  have f0 := q_fj_of (k := 0) (by decide) (show n < 2 ^ 31 by omega) ha sa ca
  have f1 := q_fj_of (k := 1) (by decide) (show n < 2 ^ 31 by omega) hy sy cy
  have hne : ¬ a = y := fun e => by rw [e] at ca; omega
  refine ⟨a, y, ⟨f0, f1, ha, hy, sa.2, sy.2, hne⟩, (q_ws_low n).2 a ha sa (fun j hj x => ?_) (by omega), q_ws_high n y hy sy (fun j h1 h2 x => ?_), sa.1, sy.1⟩
  · have := q_cnt_lt2 (P := q_isS S p) hj x
    omega
  · have h3 := q_cnt_lt2 (P := q_isS S p) h2 x
    have h4 := q_cnt_lt2 (P := q_isS S p) h1 sy
    omega
theorem q_pair_no (h6 : n ≤ 60) (hq : q_pair S n p a y) : ¬ nI (q_inK S n (nI p) 3) < 2 := by
  have h1 := q_fj_cnt (i := 0) hq.2.1
  have hy := q_fj_some hq.2.1
  have hle := q_cnt_le (q_isS S p) y
  have e1 : q_cnt (q_isS S p) y = 1 := by
    rw [ww_eq, nI_toInt (by omega), show (1 : Int32).toInt = 1 from rfl] at h1
    omega
  have h2 := q_cnt_lt2 (P := q_isS S p) (show y < n by omega) hy.2.2
  have e : q_inK S n (nI p) 3 = q_cnt (q_isS S p) n := rfl
  have hle2 := q_cnt_le (q_isS S p) n
  rw [e, ww_lt, nI_toInt (by omega), show (2 : Int32).toInt = 2 from rfl]
  omega
theorem q_turnV_eq (hne : ¬ a = y) : S 13 a + S 13 y - 2 * q_turnM (q_true (q_true S a) y) a y = q_turnV S a y := by
  obtain ⟨t1, t2⟩ := q_true2 (S := S) hne
  have t3 : q_true S a 14 y = S 14 y := by
    unfold q_true
    rw [ww_u2n (fun x => hne x.2.symm), ww_u2n (fun x => absurd x.1 (by decide))]
  unfold q_turnV
  rw [t1, t2, t3]
  generalize q_turnM (q_true (q_true S a) y) a y = M
  grind
/-! the roads -/
theorem q_road_eq (H : q_all S E z D n u w m b) (hr : r < 3) (hk : k < 2 ^ 31) : q_on (fun i => nI (z i)) (q_fj (fun i => D i = r) (nI k) m 0 0) = if k < q_rn S r then S 32 (4 * r + k) else -1 := by
  obtain ⟨hA, hB, ⟨⟨r0, r1⟩, r2, r3, r4, r5, r6, r7⟩, _⟩ := H
  by_cases c : k < q_rn S r
  · rw [if_pos c]
    rw [r6 r hr] at c
    obtain ⟨i, hi, e1, e2⟩ := q_cnt_at c
    rw [q_fj_of hk (by omega) hi e1 e2]
    have h7 := r7 i hi
    rw [e1, e2] at h7
    rw [← r6 r hr] at c
    have h3 := ((r1 r hr).2.2 k c).2
    rw [h3, h7]
    rfl
  · rw [if_neg c]
    cases hq : q_fj (fun i => D i = r) (nI k) m 0 0 with
    | none => rfl
    | some i =>
      have hi := q_fj_some hq
      have hc := q_fj_cnt (i := 0) hq
      have hle := q_cnt_le (fun i => D i = r) i
      have e := (nI_eq (by omega) hk).mp hc
      have := q_cnt_lt2 (P := fun i => D i = r) (show i < m by omega) hi.2.2
      rw [r6 r hr] at c
      omega
end WWQ9
