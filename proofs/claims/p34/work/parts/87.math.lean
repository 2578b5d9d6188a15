/-! ===== what holds at the law's head, and what its steps keep ===== -/
def q_LI (S : Nat → Nat → Int32) (w m : Nat) (wa : Int32) : Prop := (∀ q, q < 23 → S 2 q = nI (q_KD q)) ∧ (S 5 0 = -1 ∧ S 5 19 = -1) ∧ (S 21 3 = 1500 ∧ S 22 3 = 400) ∧ (∀ q, q < 23 → S 12 q = 1 → q = 0 ∨ q = 19) ∧ ((wa = 0 ∧ w = 0) ∨ (wa = 1 ∧ w = 1 ∧ m = 0 ∧ (q_wq S 0 = 0 ∨ q_wq S 0 = 19)))
def q_lk (k : Nat) : Bool := k == 2 || k == 5 || k == 12 || k == 21 || k == 22 || k == 27
theorem q_lk_ne {k j : Nat} (hk : q_lk k = true) (hj : q_lk j = false) : k ≠ j := fun e => by rw [e, hj] at hk; cases hk
/-! counts -/
theorem q_cnt_ins {P R : Nat → Prop} {p : Nat} (e : ∀ j, j ≠ p → (P j ↔ R j)) (hP : ¬ P p) (hR : R p) : ∀ n, p < n → q_cnt R n = q_cnt P n + 1
  | 0, h => by omega
  | n + 1, h => by
    by_cases c : n = p
    · subst c
      rw [q_cnt_s hR, q_cnt_n hP, q_cnt_cg (fun j hj => e j (by omega))]
    · have ih := q_cnt_ins e hP hR n (by omega)
      by_cases c2 : P n
      · rw [q_cnt_s c2, q_cnt_s ((e n c).mp c2), ih]
      · rw [q_cnt_n c2, q_cnt_n (fun y => c2 ((e n c).mpr y)), ih]
theorem q_cnt_mo {P R : Nat → Prop} (e : ∀ j, P j → R j) : ∀ n, q_cnt P n ≤ q_cnt R n
  | 0 => Nat.le_refl _
  | n + 1 => by
    have ih := q_cnt_mo e n
    by_cases c : P n
    · rw [q_cnt_s c, q_cnt_s (e n c)]; omega
    · rw [q_cnt_n c]
      by_cases c2 : R n
      · rw [q_cnt_s c2]; omega
      · rw [q_cnt_n c2]; exact ih
section WWL2
variable {S S1 : Nat → Nat → Int32} {n w m p t k i : Nat} {wa v : Int32}
theorem q_LI_cg (hL : q_LI S w m wa) (e : ∀ k, q_lk k = true → S1 k = S k) : q_LI S1 w m wa := by
  have ewq : q_wq S1 0 = q_wq S 0 := by unfold q_wq; rw [e 27 rfl]
  unfold q_LI at hL ⊢
  rw [e 2 rfl, e 5 rfl, e 12 rfl, e 21 rfl, e 22 rfl, ewq]
  exact hL
theorem q_LI_u2 (hL : q_LI S w m wa) (hk : q_lk k = false) : q_LI (ww_u2 S k i v) w m wa := q_LI_cg hL (fun k' hk' => funext fun j => ww_u2n (fun y => q_lk_ne hk' hk y.1))
theorem q_LI_run {d s : Int32} (hL : q_LI S w m wa) : q_LI (q_run (ww_u2 (q_us S 0 0) 11 p 0) n p d s) w m wa := q_LI_cg hL (fun k hk => by
  rw [q_run_k (by
    refine fun y => ?_
    rcases y with y | y | y | y | y | y | y <;> rw [y] at hk <;> exact absurd hk (by decide))]
  exact funext fun j => (ww_u2n (fun y => q_lk_ne hk (by decide) y.1)).trans (if_neg (q_lk_ne hk (by decide))))
/-- hosts anew -/
theorem q_LI_5 {x : Int32} (hL : q_LI S w m wa) (h0 : p = 0 ∨ p = 19 → x = -1) (e5 : S1 5 = ww_u2 S 5 p x 5) (e : ∀ k, q_lk k = true → k ≠ 5 → S1 k = S k) : q_LI S1 w m wa := by
  obtain ⟨h1, ⟨a1, a2⟩, h3⟩ := hL
  have ewq : q_wq S1 0 = q_wq S 0 := by unfold q_wq; rw [e 27 rfl (by decide)]
  have k5 : ∀ j, j = 0 ∨ j = 19 → S 5 j = -1 → S1 5 j = -1 := fun j hj h => by
    rw [e5]
    by_cases c : j = p
    · rw [c, ww_u2s, h0 (by omega)]
    · rw [ww_u2n (fun y => c y.2), h]
  refine ⟨?_, ⟨k5 0 (by decide) a1, k5 19 (by decide) a2⟩, ?_⟩
  · rw [e 2 rfl (by decide)]; exact h1
  · rw [e 12 rfl (by decide), e 21 rfl (by decide), e 22 rfl (by decide), ewq]
    exact h3
theorem q_LI_scrap (hL : q_LI S w m wa) : q_LI (q_moves (q_us S 0 0) 21 k (-2)) w m wa := q_LI_5 (p := 21) (x := -2) hL (fun y => by omega) rfl (fun k' hk h5 => by
  have e : q_moves (q_us S 0 0) 21 k (-2) k' = S k' := by
    unfold q_moves
    refine funext fun j => (if_neg (q_lk_ne hk (by decide))).trans ?_
    rw [ww_u2n (fun y => q_lk_ne hk (j := 25) (by decide) y.1), ww_u2n (fun y => q_lk_ne hk (j := 24) (by decide) y.1), ww_u2n (fun y => h5 y.1)]
    exact if_neg (q_lk_ne hk (by decide))
  exact e)
theorem q_LI_take (hL : q_LI S w m wa) : q_LI (q_take S k p) w m wa := q_LI_5 (p := p) (x := -1) hL (fun _ => rfl) rfl (fun k' hk h5 => by
  unfold q_take q_moves
  refine funext fun j => (if_neg (q_lk_ne hk (by decide))).trans ?_
  rw [ww_u2n (fun y => q_lk_ne hk (j := 25) (by decide) y.1), ww_u2n (fun y => q_lk_ne hk (j := 24) (by decide) y.1), ww_u2n (fun y => h5 y.1), ww_u2n (fun y => q_lk_ne hk (j := 11) (by decide) y.1)]
  exact if_neg (q_lk_ne hk (by decide)))
theorem q_LI_fit (hL : q_LI S w m wa) (h0 : ¬ (p = 0 ∨ p = 19)) : q_LI (q_fit S k p t) w m wa := q_LI_5 (p := p) (x := nI t) hL (fun y => absurd y h0) rfl (fun k' hk h5 => by
  unfold q_fit q_moves
  refine funext fun j => (ww_u2n (fun y => q_lk_ne hk (j := 11) (by decide) y.1)).trans ((if_neg (q_lk_ne hk (by decide))).trans ?_)
  rw [ww_u2n (fun y => q_lk_ne hk (j := 25) (by decide) y.1), ww_u2n (fun y => q_lk_ne hk (j := 24) (by decide) y.1), ww_u2n (fun y => h5 y.1)]
  exact if_neg (q_lk_ne hk (by decide)))
theorem q_LI_turn {a y : Nat} (hL : q_LI S w m wa) : q_LI (q_turn S a y) w m wa := q_LI_cg hL (fun k hk => q_turn_k (q_lk_ne hk (by decide)) (q_lk_ne hk (by decide)))
theorem q_LI_holds (hL : q_LI S w m wa) : q_LI (q_holds S p) w m wa := q_LI_u2 (q_LI_u2 hL (by decide)) (by decide)
theorem q_LI_recall (hL : q_LI S w m wa) : q_LI (q_rc S v n) w m wa := q_LI_cg hL (fun k hk => funext fun i => (q_if_f (fun y => q_lk_ne hk (j := 10) (by decide) y.1)).trans (q_if_f (fun y => q_lk_ne hk (j := 11) (by decide) y.1)))
theorem q_LI_comes (hL : q_LI S 0 0 0) (hp : p = 0 ∨ p = 19) : q_LI (q_comes (q_us S 0 0) 0 p v) 1 0 1 := by
  obtain ⟨h1, h2, h3, h4, h5⟩ := hL
  refine ⟨h1, h2, h3, h4, Or.inr ⟨rfl, rfl, rfl, ?_⟩⟩
  have e : q_wq (q_comes (q_us S 0 0) 0 p v) 0 = p := by
    unfold q_wq
    rw [show q_comes (q_us S 0 0) 0 p v 27 0 = nI p from rfl, nI_clamp (by omega)]
  rw [e]
  exact hp
theorem q_LI_night (hL : q_LI S 1 0 1) (e : ∀ k, ww_us k = true → S1 k = q_st S 1 k) : q_LI S1 0 1 0 := by
  obtain ⟨h1, h2, h3, h4, h5⟩ := hL
  have e2 : S1 2 = S 2 := e 2 rfl
  have e5 : S1 5 = S 5 := e 5 rfl
  have e21 : S1 21 = S 21 := e 21 rfl
  have e22 : S1 22 = S 22 := e 22 rfl
  have e12 : S1 12 = q_st S 1 12 := e 12 rfl
  refine ⟨by rw [e2]; exact h1, by rw [e5]; exact h2, by rw [e21, e22]; exact h3, fun q hq hS => ?_, Or.inl ⟨rfl, rfl⟩⟩
  rw [e12] at hS
  rcases h5 with ⟨h5, -⟩ | ⟨-, -, -, h5⟩
  · exact absurd h5 (by decide)
  · rcases q_st_12 1 hS with h | ⟨j, hj, h⟩
    · exact h4 q hq h
    · have : j = 0 := by omega
      subst this
      omega
theorem q_LI_out {q : Nat} (hL : q_LI S 0 m 0) (e : ∀ k, ww_us k = true → S1 k = ww_u2 S 12 q 0 k) : q_LI S1 0 (m - 1) 0 := by
  obtain ⟨h1, h2, h3, h4, h5⟩ := hL
  have e2 : S1 2 = S 2 := e 2 rfl
  have e5 : S1 5 = S 5 := e 5 rfl
  have e21 : S1 21 = S 21 := e 21 rfl
  have e22 : S1 22 = S 22 := e 22 rfl
  have e12 : S1 12 = ww_u2 S 12 q 0 12 := e 12 rfl
  refine ⟨by rw [e2]; exact h1, by rw [e5]; exact h2, by rw [e21, e22]; exact h3, fun j hj hS => ?_, Or.inl ⟨rfl, rfl⟩⟩
  rw [e12] at hS
  by_cases c : j = q
  · rw [c, ww_u2s] at hS
    exact absurd hS (by decide)
  · rw [ww_u2n (fun y => c y.2)] at hS
    exact h4 j hj hS
theorem q_LI_w0 (hL : q_LI S w m 0) : w = 0 := by
  rcases hL.2.2.2.2 with ⟨-, h⟩ | ⟨h, -⟩
  · exact h
  · exact absurd h (by decide)
theorem q_LI_any (hL : q_LI S w m wa) (hm : 0 < m) : wa = 0 ∧ w = 0 := by
  rcases hL.2.2.2.2 with h | ⟨-, -, h, -⟩
  · exact h
  · omega
theorem q_LI_1 (hL : q_LI S w m wa) (h : ¬ wa = 0) : wa = 1 ∧ w = 1 ∧ m = 0 := by
  rcases hL.2.2.2.2 with h' | ⟨h1, h2, h3, -⟩
  · exact absurd h'.1 h
  · exact ⟨h1, h2, h3⟩
/-! what bars, by the slots that it reads -/
def q_lb (k : Nat) : Bool := k == 2 || (5 ≤ k && k ≤ 10) || k == 13 || k == 14 || k == 20 || k == 21
theorem q_cw_cg (e : ∀ k, q_lb k = true → S1 k = S k) {b : Nat} : q_cw S1 b = q_cw S b := by
  unfold q_cw
  rw [e 2 rfl, e 5 rfl]
theorem q_chi_cg (e : ∀ k, q_lb k = true → S1 k = S k) {b : Nat} : ∀ i, q_chi S1 b i = q_chi S b i ∧ q_clo S1 b i = q_clo S b i
  | 0 => ⟨rfl, rfl⟩
  | i + 1 => by
    obtain ⟨h1, h2⟩ := q_chi_cg e (b := b) i
    unfold q_chi q_clo
    rw [h1, h2, q_cw_cg e, e 13 rfl]
    exact ⟨rfl, rfl⟩
theorem q_so_cg (e : ∀ k, q_lb k = true → S1 k = S k) {r : Nat} : q_so S1 n p r = q_so S n p r := by
  have e1 : q_cap S1 n p = q_cap S n p := by
    unfold q_cap q_sp
    rw [(q_chi_cg e n).1, (q_chi_cg e n).2, e 2 rfl]
  have e2 : q_room S1 n p = q_room S n p := by
    unfold q_room q_inK
    rw [e 5 rfl, e 2 rfl]
  unfold q_so q_life q_worn q_cdue q_kd
  rw [e1, e2, e 2 rfl, e 6 rfl, e 7 rfl, e 8 rfl, e 9 rfl, e 10 rfl, e 13 rfl, e 14 rfl, e 20 rfl, e 21 rfl]
theorem q_clow_cg (e : ∀ k, q_lb k = true → S1 k = S k) {r : Nat} : q_clow S1 n t r = q_clow S n t r := by
  unfold q_clow
  rw [e 5 rfl, show (fun p => q_hd (S 5) 5 p = t ∧ q_so S1 n p r) = fun p => q_hd (S 5) 5 p = t ∧ q_so S n p r from funext fun p => by rw [q_so_cg e]]
theorem q_fbar_cg (e : ∀ k, q_lb k = true → S1 k = S k) : ∀ m r, q_fbar S1 n t m r = q_fbar S n t m r
  | 0, _ => rfl
  | m + 1, r => by
    unfold q_fbar
    rw [q_clow_cg e, q_fbar_cg e m (r + 1)]
theorem q_fbar_so : ∀ m r, ¬ q_fbar S n t m r = 0 → ∃ p, q_clow S n t (q_fbar S n t m r) = some p
  | 0, _, h => absurd rfl h
  | m + 1, r, h => by
    unfold q_fbar at h ⊢
    cases hc : q_clow S n t r with
    | some p =>
      rw [hc] at h
      exact ⟨p, hc⟩
    | none =>
      rw [hc] at h
      exact q_fbar_so m (r + 1) h
theorem q_cby_1 (h60 : n ≤ 60) : q_cby S n t = -1 ↔ q_fbar S n t 7 1 = 0 := by
  unfold q_cby
  by_cases c : q_fbar S n t 7 1 = 0
  · rw [if_pos c]
    exact ⟨fun _ => c, fun _ => rfl⟩
  · rw [if_neg c]
    obtain ⟨p, hp⟩ := q_fbar_so 7 1 c
    have hlt := (q_ff_some hp).2.1
    rw [hp]
    refine ⟨fun y => ?_, fun y => absurd y c⟩
    have y : nI p = -1 := y
    rw [ww_eq, nI_toInt (by omega), show (-1 : Int32).toInt = -1 from rfl] at y
    omega
theorem q_fbar_n : nI (q_fbar S n t 7 1) = 0 ↔ q_fbar S n t 7 1 = 0 := by
  have h := q_fbar_le7 (S := S) (n := n) (t := t)
  rw [ww_eq, nI_toInt (by omega), show (0 : Int32).toInt = 0 from rfl]
  omega
/-! the run -/
theorem q_run_6 {d s : Int32} (hn : i < n) : q_run (ww_u2 (q_us S 0 0) 11 p 0) n p d s 6 i = if q_hd (S 5) 5 i = p then S 6 i + d else S 6 i := by
  rw [q_run_r1 (by decide)]
  have e5 : ww_u2 (q_us S 0 0) 11 p 0 5 = S 5 := rfl
  by_cases c : q_hd (S 5) 5 i = p
  · rw [if_pos c]
    exact (q_if_t ⟨Nat.zero_le _, hn, c⟩).trans q_go_6
  · rw [if_neg c]
    exact q_if_f (fun y => c y.2.2)
/-! a fit -/
theorem q_fit_in (hp : p < n) (h5 : S 5 p = -1) (ht : t < 60) : q_inK (q_fit S k p t) n (nI t) (S 2 p) = q_inK S n (nI t) (S 2 p) + 1 := by
  have e : q_inK (q_fit S k p t) n (nI t) (S 2 p) = q_cnt (fun j => ww_u2 S 5 p (nI t) 5 j = nI t ∧ S 2 j = S 2 p) n := rfl
  rw [e]
  refine q_cnt_ins (P := fun j => S 5 j = nI t ∧ S 2 j = S 2 p) (fun j hj => ?_) (fun y => ?_) ⟨ww_u2s, rfl⟩ n hp
  · rw [ww_u2n (fun y => hj y.2)]
  · have y := y.1
    rw [h5, ww_eq, nI_toInt (by omega), show (-1 : Int32).toInt = -1 from rfl] at y
    omega
theorem q_fit_lt (hp : p < n) (h5 : S 5 p = -1) (ht : t < 60) : q_inK S n (nI t) (S 2 p) < q_in (q_fit S k p t) n (nI t) := by
  have h := q_fit_in (k := k) hp h5 ht
  have h2 : q_inK (q_fit S k p t) n (nI t) (S 2 p) ≤ q_in (q_fit S k p t) n (nI t) := q_cnt_mo (fun j y => y.1) n
  omega
/-! the lathe -/
theorem q_turn_0 {a y : Nat} (hne : ¬ a = y) (ha : (219 ≤ (S 14 a).toInt ∧ (S 14 a).toInt ≤ 300) ∧ (S 13 a).toInt ≤ 9000 ∧ 8300 ≤ (S 13 a).toInt - 2 * (300 - (S 14 a).toInt)) (hy : (219 ≤ (S 14 y).toInt ∧ (S 14 y).toInt ≤ 300) ∧ (S 13 y).toInt ≤ 9000 ∧ 8300 ≤ (S 13 y).toInt - 2 * (300 - (S 14 y).toInt)) : (0 : Int32) ≤ S 13 a + S 13 y - 2 * q_turnM (q_true (q_true S a) y) a y := by
  obtain ⟨t1, t2⟩ := q_true2 (S := S) hne
  unfold q_turnM
  rw [t1, t2]
  have e300 : (300 : Int32).toInt = 300 := rfl
  have e2 : (2 : Int32).toInt = 2 := rfl
  have f : ∀ x : Nat, (219 ≤ (S 14 x).toInt ∧ (S 14 x).toInt ≤ 300) ∧ (S 13 x).toInt ≤ 9000 ∧ 8300 ≤ (S 13 x).toInt - 2 * (300 - (S 14 x).toInt) → (S 13 x - 2 * (300 - S 14 x)).toInt = (S 13 x).toInt - 2 * (300 - (S 14 x).toInt) := fun x h => by
    have k1 : (300 - S 14 x).toInt = 300 - (S 14 x).toInt := q_subI e300 rfl (by omega) (by omega)
    have k2 : (2 * (300 - S 14 x)).toInt = 2 * (300 - (S 14 x).toInt) := by rw [Int32.toInt_mul, e2, k1, Int.bmod_eq_of_le (by omega) (by omega)]
    exact q_subI rfl k2 (by omega) (by omega)
  have fa := f a ha
  have fy := f y hy
  generalize S 13 a - 2 * (300 - S 14 a) = A at fa ⊢
  generalize S 13 y - 2 * (300 - S 14 y) = B at fy ⊢
  have hs : (S 13 a + S 13 y).toInt = (S 13 a).toInt + (S 13 y).toInt := by rw [Int32.toInt_add, Int.bmod_eq_of_le (by omega) (by omega)]
  rw [ww_le', show (0 : Int32).toInt = 0 from rfl]
  by_cases c : B ≤ A
  · rw [if_pos c]
    rw [ww_le'] at c
    have h2 : (2 * B).toInt = 2 * B.toInt := by rw [Int32.toInt_mul, e2, Int.bmod_eq_of_le (by omega) (by omega)]
    rw [q_subI hs h2 (by omega) (by omega)]
    omega
  · rw [if_neg c]
    rw [ww_le'] at c
    have h2 : (2 * A).toInt = 2 * A.toInt := by rw [Int32.toInt_mul, e2, Int.bmod_eq_of_le (by omega) (by omega)]
    rw [q_subI hs h2 (by omega) (by omega)]
    omega
theorem q_turn_again {a y : Nat} (hne : ¬ a = y) : q_turn S a y 13 a + q_turn S a y 13 y - 2 * q_turnM (q_true (q_true (q_turn S a y) a) y) a y = 0 := by
  obtain ⟨t1, t2⟩ := q_true2 (S := q_turn S a y) hne
  obtain ⟨k1, k2⟩ := q_turn_13 (S := S) (a := a) (y := y)
  obtain ⟨f1, f2⟩ := q_turn_14 (S := S) (a := a) (y := y)
  rw [k1, f1] at t1
  rw [k2, f2] at t2
  have e0 : q_turnM (q_true (q_true (q_turn S a y) a) y) a y = q_turnM (q_true (q_true S a) y) a y - 2 * (300 - 300) := by
    show (if q_true (q_true (q_turn S a y) a) y 13 y ≤ q_true (q_true (q_turn S a y) a) y 13 a then q_true (q_true (q_turn S a y) a) y 13 y else q_true (q_true (q_turn S a y) a) y 13 a) = _
    rw [t1, t2, if_pos (Int32.le_refl _)]
  rw [e0, k1, k2]
  generalize q_turnM (q_true (q_true S a) y) a y = M
  grind
/-! foretold -/
theorem q_fore_1 {e : Int32} (hf : 219 ≤ (S 14 p).toInt ∧ (S 14 p).toInt ≤ 300) (he : q_rg (-5) 5 e) : q_fore (ww_u2 (ww_u2 S 16 p (S 14 p + e)) 17 p 1) p 1 0 = if S 14 p + e ≤ 250 then 0 else 200 * (S 14 p + e - 250) := by
  obtain ⟨v1, v2⟩ := he
  rw [ww_le', show (-5 : Int32).toInt = -5 from rfl] at v1
  rw [ww_le', show (5 : Int32).toInt = 5 from rfl] at v2
  have e17 : ww_u2 (ww_u2 S 16 p (S 14 p + e)) 17 p 1 17 p = 1 := ww_u2s
  have e16 : ww_u2 (ww_u2 S 16 p (S 14 p + e)) 17 p 1 16 p = S 14 p + e := (ww_u2n (fun y => absurd y.1 (by decide))).trans ww_u2s
  unfold q_fore
  rw [e17, e16, if_neg (by decide)]
  have hs : (S 14 p + e).toInt = (S 14 p).toInt + e.toInt := by rw [Int32.toInt_add, Int.bmod_eq_of_le (by omega) (by omega)]
  generalize S 14 p + e = x at hs ⊢
  have hx : (x - 250).toInt = x.toInt - 250 := q_subI rfl (show (250 : Int32).toInt = 250 from rfl) (by omega) (by omega)
  by_cases c : x ≤ 250
  · rw [if_pos c, if_pos]
    rw [ww_le', show (250 : Int32).toInt = 250 from rfl] at c
    rw [ww_le', hx, show (0 : Int32).toInt = 0 from rfl]
    omega
  · rw [if_neg c, if_neg]
    · rw [show (1 : Int32) * q_fac 0 = 1 from by decide, ww_eq, Int32.toInt_div, show (1 : Int32).toInt = 1 from rfl, Int.tdiv_one, Int32.mul_comm]
      exact Int.bmod_eq_of_le (by have := (200 * (x - 250)).le_toInt; omega) (by have := (200 * (x - 250)).toInt_lt; omega)
    · rw [ww_le', show (250 : Int32).toInt = 250 from rfl] at c
      rw [ww_le', hx, show (0 : Int32).toInt = 0 from rfl]
      omega
/-- the same pair -/
theorem q_pair_eq {a y a' y' : Nat} (e2 : S1 2 = S 2) (e5 : S1 5 = S 5) (h : q_pair S n p a y) (h' : q_pair S1 n p a' y') : a' = a ∧ y' = y := by
  have e : q_isS S1 p = q_isS S p := by unfold q_isS; rw [e2, e5]
  obtain ⟨h1, h2, -⟩ := h
  obtain ⟨k1, k2, -⟩ := h'
  rw [e] at k1 k2
  exact ⟨Option.some.inj (k1.symm.trans h1), Option.some.inj (k2.symm.trans h2)⟩
end WWL2
