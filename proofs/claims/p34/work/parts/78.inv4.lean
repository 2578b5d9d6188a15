section WWQ4
variable {S S1 : Nat → Nat → Int32} {E : Nat → Nat → Int32} {z D : Nat → Nat} {n u w m b p k : Nat} {v v' t : Int32} {kd ho : Nat → Int32}
/-- heads behind a fit -/
theorem q_hd_fit2 {h : Nat} (hg : q_gh n kd ho) (h6 : n ≤ 60) (hh : h < n) (hlt : (kd h).toInt < (kd p).toInt) : ∀ (f i : Nat), i < n → (kd i).toInt < f → q_hd (fun j => if j = p then nI h else ho j) f i = q_hd ho f i ∨ q_hd (fun j => if j = p then nI h else ho j) f i = q_hd ho 5 h
  | 0, i, hi, hf => by have := (q_gh_kd hg hi).1; omega
  | f + 1, i, hi, hf => by
    by_cases c : i = p
    · right
      rw [q_hd_pos (q := h) (if_pos c) (by omega), q_hd_set hg h6 hlt f h hh (Int.le_refl _)]
      have := (q_gh_kd hg hh).2
      rw [c] at hf
      exact q_hd_stab hg h6 f 5 h hh (by omega) (by omega)
    · rcases q_gh_cases hg h6 hi with h1 | ⟨q, hq, e, hl⟩
      · left
        rw [q_hd_neg h1, q_hd_neg (by show (if i = p then nI h else ho i) < 0; rw [if_neg c]; exact h1)]
      · rw [q_hd_pos (q := q) (ho := ho) e (by omega), q_hd_pos (q := q) (ho := fun j => if j = p then nI h else ho j) (by show (if i = p then nI h else ho i) = nI q; rw [if_neg c]; exact e) (by omega)]
        exact q_hd_fit2 hg h6 hh hlt f q hq (by omega)
/-- heads when p is a top -/
theorem q_hd_cut (hg : q_gh n kd ho) (h6 : n ≤ 60) {t : Int32} (ht : t < 0) : ∀ (f i : Nat), i < n → q_hd (fun j => if j = p then t else ho j) f i = q_hd ho f i ∨ q_hd (fun j => if j = p then t else ho j) f i = p
  | 0, i, hi => Or.inl rfl
  | f + 1, i, hi => by
    by_cases c : i = p
    · right
      rw [q_hd_neg (by show (if i = p then t else ho i) < 0; rw [if_pos c]; exact ht), c]
    · rcases q_gh_cases hg h6 hi with h1 | ⟨q, hq, e, hl⟩
      · left
        rw [q_hd_neg h1, q_hd_neg (by show (if i = p then t else ho i) < 0; rw [if_neg c]; exact h1)]
      · rw [q_hd_pos (q := q) (ho := ho) e (by omega), q_hd_pos (q := q) (ho := fun j => if j = p then t else ho j) (by show (if i = p then t else ho i) = nI q; rw [if_neg c]; exact e) (by omega)]
        exact q_hd_cut hg h6 ht f q hq
theorem q_gh_cut (hg : q_gh n kd ho) {t : Int32} (ht : t = -1 ∨ t = -2) : q_gh n kd (fun j => if j = p then t else ho j) := by
  intro q hq
  refine ⟨(hg q hq).1, ?_⟩
  show (if q = p then t else ho q) = -1 ∨ (if q = p then t else ho q) = -2 ∨ ∃ r, r < n ∧ (if q = p then t else ho q) = nI r ∧ _
  by_cases e : q = p
  · rw [if_pos e]
    exact ht.imp id Or.inl
  · rw [if_neg e]
    exact (hg q hq).2
theorem q_cnt_imp {P R : Nat → Prop} : ∀ {n : Nat}, (∀ i, i < n → P i → R i) → q_cnt P n ≤ q_cnt R n
  | 0, _ => Nat.le_refl _
  | n + 1, h => by
    have ih := q_cnt_imp (P := P) (R := R) (n := n) (fun i hi => h i (by omega))
    by_cases c : P n
    · rw [q_cnt_s c, q_cnt_s (h n (by omega) c)]; omega
    · rw [q_cnt_n c]
      have := q_cnt_mono (P := R) (show n ≤ n + 1 by omega)
      omega
theorem q_cnt_add {P R : Nat → Prop} {p : Nat} : ∀ {n : Nat}, (∀ i, i < n → i ≠ p → (R i ↔ P i)) → q_cnt R n ≤ q_cnt P n + 1
  | 0, _ => by show 0 ≤ _; omega
  | n + 1, h => by
    by_cases c : n = p
    · have e : q_cnt R n = q_cnt P n := q_cnt_cg (fun i hi => h i (by omega) (by omega))
      have := q_cnt_mono (P := P) (show n ≤ n + 1 by omega)
      by_cases c2 : R n
      · rw [q_cnt_s c2]; omega
      · rw [q_cnt_n c2]; omega
    · have ih := q_cnt_add (P := P) (R := R) (p := p) (n := n) (fun i hi hne => h i (by omega) hne)
      have e := h n (by omega) c
      by_cases c2 : P n
      · rw [q_cnt_s c2, q_cnt_s (e.mpr c2)]; omega
      · rw [q_cnt_n c2, q_cnt_n (fun y => c2 (e.mp y))]; omega
theorem q_nI_neg {q : Nat} {t : Int32} (ht : t < 0) (hq : q < 60) : ¬ t = nI q := fun e => by rw [e] at ht; exact absurd ht (nI_pos (by omega))
theorem q_all_fit {h : Nat} (H : q_all S E z D n u w m b) (hb5 : b ≤ 1000) (hk4 : k < 4000) (h23 : S 23 0 = nI k) (hp : p < n) (hh : h < n) (hc : q_fitP S p h) (hs : q_fitS S n p h) : q_all (q_fit S k p h) (q_eS E u (nI p) (nI h) 0) z D n (u + 1) w m (b + 1) := by
  have hA := H.1
  have h6 := hA.2.1
  have hd := q_hd_lt hA.2.2.1 h6 5 h hh
  obtain ⟨c1, c2, c3, c4, c5, c6, c7⟩ := hs
  have hlt : (S 2 h).toInt < (S 2 p).toInt := q_places_lt hc (q_gh_kd hA.2.2.1 hh).1 (q_gh_kd hA.2.2.1 hh).2
  have H0 := q_all_rel (v := 0) (q_all_0 (v := 0) H) (p := q_hd (S 5) 5 h) hd (Or.inl rfl) (fun y => absurd y (by decide))
  have e23 : ww_u2 (q_us S 0 0) 11 (q_hd (S 5) 5 h) 0 23 0 = nI k := h23
  have H1 := q_all_move (t := nI h) H0 hb5 hk4 e23 hp (Or.inr (Or.inr ⟨h, hh, rfl⟩)) (q_gh_set hA.2.2.1 hh hlt) ?_ ?_
  · refine cast (congrArg (fun T => q_all T _ z D n (u + 1) w m (b + 1)) ?_) H1
    unfold q_fit q_moves
    funext j i
    show (if j = 23 then nI (k + 1) else ww_u2 (ww_u2 (ww_u2 (ww_u2 (q_us S 0 0) 11 (q_hd (S 5) 5 h) 0) 5 p (nI h)) 24 k (nI p)) 25 k (nI h) j i) = ww_u2 (q_us (ww_u2 (ww_u2 (ww_u2 (q_us S 0 0) 5 p (nI h)) 24 k (nI p)) 25 k (nI h)) 23 (nI (k + 1))) 11 (q_hd (S 5) 5 h) 0 j i
    rw [ww_u2_cm (k := 11) (k' := 5) (fun y => absurd y.1 (by decide)), ww_u2_cm (k := 11) (k' := 24) (fun y => absurd y.1 (by decide)), ww_u2_cm (k := 11) (k' := 25) (fun y => absurd y.1 (by decide))]
    by_cases cj : j = 23
    · rw [if_pos cj, cj, ww_u2n (fun y => absurd y.1 (by decide))]
      exact (if_pos rfl).symm
    · rw [if_neg cj]
      by_cases cji : j = 11 ∧ i = q_hd (S 5) 5 h
      · obtain ⟨rfl, rfl⟩ := cji
        rw [ww_u2s, ww_u2s]
      · rw [ww_u2n cji, ww_u2n cji]
        exact (if_neg cj).symm
  · intro t ht h11
    have hF := H0.2.2.2.2.2.1 t ht h11
    refine ⟨hF.1, fun i hi e => ?_⟩
    rcases q_hd_fit2 hA.2.2.1 h6 hh hlt 5 i hi (by have := (q_gh_kd hA.2.2.1 hi).2; omega) with x | x
    · exact hF.2 i hi (x.symm.trans e)
    · have et : t = q_hd (S 5) 5 h := e.symm.trans x
      rw [et] at h11
      exact absurd (ww_u2s.symm.trans h11) (by decide)
  · intro q hq j hj
    have hC := H.2.2.2.2.2.2.1 q hq j hj
    have hle : q_cnt (fun i => (if i = p then nI h else S 5 i) = nI q ∧ S 2 i = nI j) n ≤ q_cnt (fun i => S 5 i = nI q ∧ S 2 i = nI j) n + 1 := q_cnt_add (p := p) (fun i hi hne => by rw [if_neg hne])
    by_cases cq : q = h ∧ S 2 p = nI j
    · obtain ⟨rfl, ej⟩ := cq
      rw [ww_lt] at c5
      have e2 : q_inK S n (nI q) (S 2 p) = q_cnt (fun i => S 5 i = nI q ∧ S 2 i = nI j) n := by unfold q_inK; rw [ej]
      rw [e2, ej, nI_toInt (by have := q_cnt_le (fun i => S 5 i = nI q ∧ S 2 i = nI j) n; omega)] at c5
      show ((q_cnt (fun i => (if i = p then nI q else S 5 i) = nI q ∧ S 2 i = nI j) n : Nat) : Int) ≤ (q_places (S 2 q) (nI j)).toInt
      omega
    · have hle2 : q_cnt (fun i => (if i = p then nI h else S 5 i) = nI q ∧ S 2 i = nI j) n ≤ q_cnt (fun i => S 5 i = nI q ∧ S 2 i = nI j) n := q_cnt_imp (fun i hi y => by
        by_cases ci : i = p
        · rw [if_pos ci] at y
          exact absurd ⟨((nI_eq (by omega) (by omega)).mp y.1).symm, ci ▸ y.2⟩ cq
        · rw [if_neg ci] at y; exact y)
      show ((q_cnt (fun i => (if i = p then nI h else S 5 i) = nI q ∧ S 2 i = nI j) n : Nat) : Int) ≤ (q_places (S 2 q) (nI j)).toInt
      omega
theorem q_iC_cut {t : Int32} (hC : q_iC (S 2) (S 5) n) (h6 : n ≤ 60) (ht : t < 0) : q_iC (S 2) (fun j => if j = p then t else S 5 j) n := by
  intro q hq j hj
  have hC := hC q hq j hj
  have hle2 : q_cnt (fun i => (if i = p then t else S 5 i) = nI q ∧ S 2 i = nI j) n ≤ q_cnt (fun i => S 5 i = nI q ∧ S 2 i = nI j) n := q_cnt_imp (fun i hi y => by
    by_cases ci : i = p
    · rw [if_pos ci] at y
      exact absurd y.1 (q_nI_neg ht (by omega))
    · rw [if_neg ci] at y; exact y)
  show ((q_cnt (fun i => (if i = p then t else S 5 i) = nI q ∧ S 2 i = nI j) n : Nat) : Int) ≤ (q_places (S 2 q) (nI j)).toInt
  omega
theorem q_all_take (H : q_all S E z D n u w m b) (hb5 : b ≤ 1000) (hk4 : k < 4000) (h23 : S 23 0 = nI k) (hp : p < n) (hc : q_takeS S p) : q_all (q_take S k p) (q_eS E u (nI p) (-1) 0) z D n (u + 1) w m (b + 1) := by
  have hA := H.1
  have h6 := hA.2.1
  have hd := q_hd_lt hA.2.2.1 h6 5 p hp
  have H0 := q_all_rel (v := 0) (q_all_0 (v := 0) H) (p := q_hd (S 5) 5 p) hd (Or.inl rfl) (fun y => absurd y (by decide))
  have e23 : ww_u2 (q_us S 0 0) 11 (q_hd (S 5) 5 p) 0 23 0 = nI k := h23
  refine q_all_move (t := -1) H0 hb5 hk4 e23 hp (Or.inl rfl) (q_gh_cut hA.2.2.1 (Or.inl rfl)) ?_ (q_iC_cut H.2.2.2.2.2.2.1 h6 (by decide))
  intro t ht h11
  have hF := H0.2.2.2.2.2.1 t ht h11
  refine ⟨hF.1, fun i hi e => ?_⟩
  rcases q_hd_cut hA.2.2.1 h6 (t := -1) (p := p) (by decide) 5 i hi with x | x
  · exact hF.2 i hi (x.symm.trans e)
  · have et : t = p := e.symm.trans x
    have h2 : S 2 p = 0 := et ▸ hF.1
    exact absurd (q_top hA hp h2) hc.1
theorem q_all_scrap (H : q_all S E z D n u w m b) (hb5 : b ≤ 1000) (hk4 : k < 4000) (h23 : S 23 0 = nI k) (hp : p < n) (hc : S 5 p = -1) : q_all (q_moves (q_us S 0 0) p k (-2)) (q_eS E u (nI p) (-2) 0) z D n (u + 1) w m (b + 1) := by
  have hA := H.1
  have h6 := hA.2.1
  have H0 := q_all_0 (v := 0) H
  have e23 : q_us S 0 0 23 0 = nI k := h23
  refine q_all_move (t := -2) H0 hb5 hk4 e23 hp (Or.inr (Or.inl rfl)) (q_gh_cut hA.2.2.1 (Or.inr rfl)) ?_ (q_iC_cut H.2.2.2.2.2.2.1 h6 (by decide))
  intro t ht h11
  have hF := H.2.2.2.2.2.1 t ht h11
  refine ⟨hF.1, fun i hi e => ?_⟩
  have key : ∀ (f i : Nat), i < n → q_hd (fun j => if j = p then (-2 : Int32) else S 5 j) f i = q_hd (S 5) f i := by
    intro f
    induction f with
    | zero => intro i _; rfl
    | succ f ih =>
      intro i hi
      by_cases c : i = p
      · rw [q_hd_neg (by show (if i = p then (-2 : Int32) else S 5 i) < 0; rw [if_pos c]; decide), q_hd_neg (by rw [c, hc]; decide)]
      · rcases q_gh_cases hA.2.2.1 h6 hi with h1 | ⟨q, hq, e, hl⟩
        · rw [q_hd_neg h1, q_hd_neg (by show (if i = p then (-2 : Int32) else S 5 i) < 0; rw [if_neg c]; exact h1)]
        · rw [q_hd_pos (q := q) (ho := S 5) e (by omega), q_hd_pos (q := q) (ho := fun j => if j = p then (-2 : Int32) else S 5 j) (by show (if i = p then (-2 : Int32) else S 5 i) = nI q; rw [if_neg c]; exact e) (by omega)]
          exact ih q hq
  exact hF.2 i hi ((key 5 i hi).symm.trans e)
/-! the run -/
theorem q_grow_1 {x : Int32} (h0 : 0 ≤ x.toInt) (h1 : x.toInt ≤ 1000) : (x + (1 + x / 10)).toInt = x.toInt + 1 + x.toInt / 10 := by
  have e0 : (x / 10).toInt = x.toInt / 10 := by rw [Int32.toInt_div, show (10 : Int32).toInt = 10 from rfl, Int.tdiv_eq_ediv_of_nonneg h0, Int.bmod_eq_of_le (by omega) (by omega)]
  have e1 : (1 + x / 10).toInt = 1 + x.toInt / 10 := by rw [Int32.toInt_add, e0, show (1 : Int32).toInt = 1 from rfl, Int.bmod_eq_of_le (by omega) (by omega)]
  rw [Int32.toInt_add, e1, Int.bmod_eq_of_le (by omega) (by omega)]
  omega
theorem q_grow_b : ∀ (c j : Nat) (x : Int32), c + j ≤ 4 → 0 ≤ x.toInt → x.toInt ≤ 99 + 26 * (j : Int) → 0 ≤ (q_grow c x).toInt ∧ (q_grow c x).toInt ≤ 300
  | 0, j, x, hc, h0, h1 => ⟨h0, by show x.toInt ≤ 300; omega⟩
  | c + 1, j, x, hc, h0, h1 => by
    have e := q_grow_1 h0 (by omega)
    exact q_grow_b c (j + 1) _ (by omega) (by rw [e]; omega) (by rw [e]; omega)
theorem q_sumI {x y : Int32} {a c : Int} (hx : x.toInt = a) (hy : y.toInt = c) (h1 : -2000000000 ≤ a + c) (h2 : a + c ≤ 2000000000) : (x + y).toInt = a + c := by rw [Int32.toInt_add, hx, hy, Int.bmod_eq_of_le (by omega) (by omega)]
theorem q_subI {x y : Int32} {a c : Int} (hx : x.toInt = a) (hy : y.toInt = c) (h1 : -2000000000 ≤ a - c) (h2 : a - c ≤ 2000000000) : (x - y).toInt = a - c := by rw [Int32.toInt_sub, hx, hy, Int.bmod_eq_of_le (by omega) (by omega)]
theorem q_divI {x y : Int32} {a c : Int} (hx : x.toInt = a) (hy : y.toInt = c) (h0 : 0 ≤ a) (h1 : a ≤ 2000000000) (hc : 2 ≤ c) : (x / y).toInt = a / c := by
  rw [Int32.toInt_div, hx, hy, Int.tdiv_eq_ediv_of_nonneg h0]
  have h2 : a / c ≤ a := Int.ediv_le_self c h0
  have h3 : 0 ≤ a / c := Int.ediv_nonneg h0 (by omega)
  rw [Int.bmod_eq_of_le (by omega) (by omega)]
theorem q_facI {s : Int32} (h : q_rg 0 3 s) : 1 ≤ (q_fac s).toInt ∧ (q_fac s).toInt ≤ 3 := by
  obtain ⟨h1, h2⟩ := h
  rw [ww_le', show (0 : Int32).toInt = 0 from rfl] at h1
  rw [ww_le', show (3 : Int32).toInt = 3 from rfl] at h2
  have : s = 0 ∨ s = 1 ∨ s = 2 ∨ s = 3 := by
    rw [ww_eq, ww_eq, ww_eq, ww_eq, show (0 : Int32).toInt = 0 from rfl, show (1 : Int32).toInt = 1 from rfl, show (2 : Int32).toInt = 2 from rfl, show (3 : Int32).toInt = 3 from rfl]
    omega
  rcases this with rfl | rfl | rfl | rfl <;> decide
end WWQ4
