/-! ===== the model's small methods ===== -/
/-- hosts: each part has a kind below 5, and is in the store, scrapped, or in a part of a lower kind -/
def q_gh (n : Nat) (kd ho : Nat → Int32) : Prop := ∀ p, p < n → (∃ k, k < 5 ∧ kd p = nI k) ∧ (ho p = -1 ∨ ho p = -2 ∨ ∃ q, q < n ∧ ho p = nI q ∧ (kd q).toInt < (kd p).toInt)
def q_hd (ho : Nat → Int32) : Nat → Nat → Nat
  | 0, p => p
  | f + 1, p => if ho p < 0 then p else q_hd ho f (ho p).toNatClampNeg
theorem q_hd_neg {ho : Nat → Int32} {f p : Nat} (h : ho p < 0) : q_hd ho f p = p := by
  cases f with
  | zero => rfl
  | succ f => exact if_pos h
theorem q_hd_pos {ho : Nat → Int32} {f p q : Nat} (h : ho p = nI q) (hq : q < 2 ^ 31) : q_hd ho (f + 1) p = q_hd ho f q := by
  show (if ho p < 0 then p else q_hd ho f (ho p).toNatClampNeg) = _
  rw [h, if_neg (nI_pos hq), nI_clamp hq]
theorem q_gh_kd {n : Nat} {kd ho : Nat → Int32} (h : q_gh n kd ho) {p : Nat} (hp : p < n) : 0 ≤ (kd p).toInt ∧ (kd p).toInt < 5 := by
  obtain ⟨⟨k, hk, e⟩, -⟩ := h p hp
  rw [e, nI_toInt (by omega)]
  omega
theorem q_gh_cases {n : Nat} {kd ho : Nat → Int32} (h : q_gh n kd ho) (hn : n ≤ 60) {p : Nat} (hp : p < n) : ho p < 0 ∨ ∃ q, q < n ∧ ho p = nI q ∧ (kd q).toInt < (kd p).toInt := by
  obtain ⟨-, h1 | h1 | h1⟩ := h p hp
  · left; rw [h1]; decide
  · left; rw [h1]; decide
  · exact Or.inr h1
theorem q_hd_lt {n : Nat} {kd ho : Nat → Int32} (h : q_gh n kd ho) (hn : n ≤ 60) : ∀ (f p : Nat), p < n → q_hd ho f p < n
  | 0, p, hp => hp
  | f + 1, p, hp => by
    rcases q_gh_cases h hn hp with h1 | ⟨q, hq, e, -⟩
    · rw [q_hd_neg h1]; exact hp
    · rw [q_hd_pos e (by omega)]; exact q_hd_lt h hn f q hq
section WWN
variable {g : ww_G} {M : ww_M} {x : Nat} {ar : Nat → Nat} {n : Nat}
theorem ww_sub1 {n : Nat} (h : n < 2 ^ 30) : (nI n - 1).toInt = (n : Int) - 1 := by
  have h1 := pk_sub_toInt (a := n) (b := 1) h (by decide)
  exact h1
end WWN
/-! ===== the mathematics of the state: S k i is the model's slot k at i ===== -/
noncomputable def q_cnt (P : Nat → Prop) : Nat → Nat
  | 0 => 0
  | n + 1 => q_cnt P n + q_if (P n) 1 0
theorem q_cnt_le (P : Nat → Prop) : ∀ n, q_cnt P n ≤ n
  | 0 => Nat.le_refl _
  | n + 1 => by
    have h := q_cnt_le P n
    unfold q_cnt
    by_cases hp : P n
    · rw [q_if_t hp]; omega
    · rw [q_if_f hp]; omega
theorem q_cnt_s {P : Nat → Prop} {n : Nat} (h : P n) : q_cnt P (n + 1) = q_cnt P n + 1 := by
  show q_cnt P n + q_if (P n) 1 0 = _
  rw [q_if_t h]
theorem q_cnt_n {P : Nat → Prop} {n : Nat} (h : ¬ P n) : q_cnt P (n + 1) = q_cnt P n := by
  show q_cnt P n + q_if (P n) 1 0 = _
  rw [q_if_f h]; rfl
theorem q_cnt_cg {P R : Nat → Prop} : ∀ {n : Nat}, (∀ p, p < n → (P p ↔ R p)) → q_cnt P n = q_cnt R n
  | 0, _ => rfl
  | n + 1, h => by
    show q_cnt P n + q_if (P n) 1 0 = q_cnt R n + q_if (R n) 1 0
    rw [q_cnt_cg (fun p hp => h p (by omega)), q_if_cg (h n (by omega))]
/-- one of the first n is so -/
def q_any (P : Nat → Prop) (n : Nat) : Prop := ∃ k, k < n ∧ P k
theorem q_any_0 {P : Nat → Prop} : ¬ q_any P 0 := fun ⟨k, h, _⟩ => by omega
theorem q_any_s {P : Nat → Prop} {n : Nat} : q_any P (n + 1) ↔ q_any P n ∨ P n := by
  constructor
  · rintro ⟨k, h1, h2⟩
    by_cases h : k = n
    · subst h; exact Or.inr h2
    · exact Or.inl ⟨k, by omega, h2⟩
  · rintro (⟨k, h1, h2⟩ | h)
    · exact ⟨k, by omega, h2⟩
    · exact ⟨n, by omega, h⟩
/-- the first one from i on, of m -/
noncomputable def q_ff (P : Nat → Prop) : Nat → Nat → Option Nat
  | 0, _ => none
  | m + 1, i => q_if (P i) (some i) (q_ff P m (i + 1))
theorem q_ff_t {P : Nat → Prop} {m i : Nat} (h : P i) : q_ff P (m + 1) i = some i := q_if_t h
theorem q_ff_f {P : Nat → Prop} {m i : Nat} (h : ¬ P i) : q_ff P (m + 1) i = q_ff P m (i + 1) := q_if_f h
theorem q_ff_some {P : Nat → Prop} : ∀ {m i p : Nat}, q_ff P m i = some p → i ≤ p ∧ p < i + m ∧ P p
  | 0, _, _, h => by cases h
  | m + 1, i, p, h => by
    unfold q_ff at h
    by_cases hp : P i
    · rw [q_if_t hp] at h
      cases h
      exact ⟨Nat.le_refl _, by omega, hp⟩
    · rw [q_if_f hp] at h
      have := q_ff_some h
      exact ⟨by omega, by omega, this.2.2⟩
theorem q_ff_none {P : Nat → Prop} : ∀ {m i : Nat}, q_ff P m i = none → ∀ p, i ≤ p → p < i + m → ¬ P p
  | 0, _, _, p, h1, h2 => by omega
  | m + 1, i, h, p, h1, h2 => by
    unfold q_ff at h
    by_cases hp : P i
    · rw [q_if_t hp] at h; cases h
    · rw [q_if_f hp] at h
      by_cases e : p = i
      · subst e; exact hp
      · exact q_ff_none h p (by omega) (by omega)
theorem q_ff_cg {P R : Nat → Prop} : ∀ {m i : Nat}, (∀ p, i ≤ p → p < i + m → (P p ↔ R p)) → q_ff P m i = q_ff R m i
  | 0, _, _ => rfl
  | m + 1, i, h => by
    unfold q_ff
    have h0 := h i (Nat.le_refl _) (by omega)
    by_cases hp : P i
    · rw [q_if_t hp, q_if_t (h0.mp hp)]
    · rw [q_if_f hp, q_if_f (fun z => hp (h0.mpr z))]
      exact q_ff_cg (fun p h1 h2 => h p (by omega) (by omega))
/-- a slot's truth -/
def q_bool (S : Nat → Nat → Int32) (k : Nat) : Prop := ∀ i, S k i = 0 ∨ S k i = 1
noncomputable def q_in (S : Nat → Nat → Int32) (n : Nat) (h : Int32) : Nat := q_cnt (fun p => S 5 p = h) n
noncomputable def q_inK (S : Nat → Nat → Int32) (n : Nat) (h k : Int32) : Nat := q_cnt (fun p => S 5 p = h ∧ S 2 p = k) n
def q_places (h k : Int32) : Int32 := if h = 2 then (if k = 3 then 2 else if k = 4 then 1 else 0) else if (h = 0 ∨ h = 1) ∧ k = h + 1 then 2 else 0
def q_empty (S : Nat → Nat → Int32) (n p : Nat) : Prop := (S 2 p = 2 ∧ q_in S n (nI p) < 3) ∨ (S 2 p < 2 ∧ q_in S n (nI p) < 2)
def q_worn (S : Nat → Nat → Int32) (p : Nat) : Prop := S 2 p = 3 ∧ (S 13 p < 8500 ∨ S 14 p < 250)
def q_kd (S : Nat → Nat → Int32) (p : Nat) : Nat := (S 2 p).toNatClampNeg
def q_due (S : Nat → Nat → Int32) (p : Nat) : Prop := 0 < S 21 (q_kd S p) ∧ S 21 (q_kd S p) + S 8 p < S 7 p
def q_isw (S : Nat → Nat → Int32) (h : Int32) (p : Nat) : Prop := S 2 p = 3 ∧ ¬ S 5 p < 0 ∧ (S 5 p = h ∨ S 5 (S 5 p).toNatClampNeg = h)
noncomputable def q_lo (S : Nat → Nat → Int32) (h : Int32) : Nat → Int32
  | 0 => 1000000
  | i + 1 => q_if (q_isw S h i ∧ S 13 i < q_lo S h i) (S 13 i) (q_lo S h i)
noncomputable def q_hi (S : Nat → Nat → Int32) (h : Int32) : Nat → Int32
  | 0 => -1000000
  | i + 1 => q_if (q_isw S h i ∧ q_hi S h i < S 13 i) (S 13 i) (q_hi S h i)
def q_apart (S : Nat → Nat → Int32) (n p : Nat) : Prop := (S 2 p = 2 ∧ 20 < q_hi S (nI p) n - q_lo S (nI p) n) ∨ (S 2 p = 1 ∧ 60 < q_hi S (nI p) n - q_lo S (nI p) n)
def q_life (S : Nat → Nat → Int32) (p : Nat) : Prop := 0 < S 20 (q_kd S p) ∧ S 20 (q_kd S p) < S 6 p
/-- what bars: 1 to 7 -/
def q_bars (S : Nat → Nat → Int32) (n p r : Nat) : Prop := (r = 1 ∧ q_empty S n p) ∨ (r = 2 ∧ S 9 p = 1) ∨ (r = 3 ∧ S 10 p = 1) ∨ (r = 4 ∧ q_life S p) ∨ (r = 5 ∧ q_worn S p) ∨ (r = 6 ∧ q_apart S n p) ∨ (r = 7 ∧ q_due S p)
/-! ===== the model's reading methods ===== -/
section WWN
variable {g : ww_G} {M : ww_M} {x : Nat} {ar : Nat → Nat} {n w : Nat}
/-- the factor of a season -/
def q_fac (s : Int32) : Int32 := if s = 3 then 2 else s + 1
/-- the lower, or the higher, wheelset in h -/
noncomputable def q_ws (S : Nat → Nat → Int32) (h : Int32) (hi : Prop) : Nat → Int32
  | 0 => -1
  | i + 1 => q_if ((S 5 i = h ∧ S 2 i = 3) ∧ (hi ∨ q_ws S h hi i = -1)) (nI i) (q_ws S h hi i)
theorem q_ws_t {S : Nat → Nat → Int32} {h : Int32} {hi : Prop} {i : Nat} (z : (S 5 i = h ∧ S 2 i = 3) ∧ (hi ∨ q_ws S h hi i = -1)) : q_ws S h hi (i + 1) = nI i := q_if_t z
theorem q_ws_f {S : Nat → Nat → Int32} {h : Int32} {hi : Prop} {i : Nat} (z : ¬ ((S 5 i = h ∧ S 2 i = 3) ∧ (hi ∨ q_ws S h hi i = -1))) : q_ws S h hi (i + 1) = q_ws S h hi i := q_if_f z
end WWN
section WWN
variable {g : ww_G} {M : ww_M} {x : Nat} {ar : Nat → Nat} {n w : Nat}
theorem q_lo_t {S : Nat → Nat → Int32} {h : Int32} {i : Nat} (z : q_isw S h i ∧ S 13 i < q_lo S h i) : q_lo S h (i + 1) = S 13 i := q_if_t z
theorem q_lo_f {S : Nat → Nat → Int32} {h : Int32} {i : Nat} (z : ¬ (q_isw S h i ∧ S 13 i < q_lo S h i)) : q_lo S h (i + 1) = q_lo S h i := q_if_f z
theorem q_hi_t {S : Nat → Nat → Int32} {h : Int32} {i : Nat} (z : q_isw S h i ∧ q_hi S h i < S 13 i) : q_hi S h (i + 1) = S 13 i := q_if_t z
theorem q_hi_f {S : Nat → Nat → Int32} {h : Int32} {i : Nat} (z : ¬ (q_isw S h i ∧ q_hi S h i < S 13 i)) : q_hi S h (i + 1) = q_hi S h i := q_if_f z
theorem q_kd_of {S : Nat → Nat → Int32} {n p : Nat} (hg : q_gh n (S 2) (S 5)) (hp : p < n) : S 2 p = nI (q_kd S p) ∧ q_kd S p < 5 := by
  obtain ⟨⟨k, hk, e⟩, -⟩ := hg p hp
  have e2 : q_kd S p = k := by unfold q_kd; rw [e]; exact nI_clamp (by omega)
  rw [e2]
  exact ⟨e, hk⟩
theorem q_bars_1 {S : Nat → Nat → Int32} {n p : Nat} : q_bars S n p 1 ↔ q_empty S n p := by simp [q_bars]
theorem q_bars_2 {S : Nat → Nat → Int32} {n p : Nat} : q_bars S n p 2 ↔ S 9 p = 1 := by simp [q_bars]
theorem q_bars_3 {S : Nat → Nat → Int32} {n p : Nat} : q_bars S n p 3 ↔ S 10 p = 1 := by simp [q_bars]
theorem q_bars_4 {S : Nat → Nat → Int32} {n p : Nat} : q_bars S n p 4 ↔ q_life S p := by simp [q_bars]
theorem q_bars_5 {S : Nat → Nat → Int32} {n p : Nat} : q_bars S n p 5 ↔ q_worn S p := by simp [q_bars]
theorem q_bars_6 {S : Nat → Nat → Int32} {n p : Nat} : q_bars S n p 6 ↔ q_apart S n p := by simp [q_bars]
theorem q_bars_7 {S : Nat → Nat → Int32} {n p : Nat} : q_bars S n p 7 ↔ q_due S p := by simp [q_bars]
theorem ww_b_of {v : Int32} (h : v = 0 ∨ v = 1) : v = ww_b (v = 1) := by
  rcases h with h | h
  · rw [ww_b_f (by rw [h]; decide)]; exact h
  · rw [ww_b_t h]; exact h
/-- the part that is first so, of the tree of t -/
noncomputable def q_low (S : Nat → Nat → Int32) (n t r : Nat) : Option Nat := q_ff (fun p => q_hd (S 5) 5 p = t ∧ q_bars S n p r) n 0
noncomputable def q_bar (S : Nat → Nat → Int32) (n t : Nat) : Nat → Nat → Option (Nat × Nat)
  | 0, _ => none
  | m + 1, r => match q_low S n t r with
    | some p => some (r, p)
    | none => q_bar S n t m (r + 1)
def q_code : Option (Nat × Nat) → Nat
  | none => 0
  | some (r, p) => 100 * r + p
end WWN
/-! ===== the model's writing methods: parts ===== -/
def q_us (S : Nat → Nat → Int32) (k : Nat) (v : Int32) : Nat → Nat → Int32 := fun k' i => if k' = k then v else S k' i
theorem ww_sI_le {M : ww_M} {f x : Nat} {c : Int32} (h : c ≤ 0) : ww_I (ww_sI M f x c) f x ≤ 0 := by rw [show ww_I (ww_sI M f x c) f x = c from ww_u2s]; exact h
theorem ww_sI_nle {M : ww_M} {f x : Nat} {c : Int32} (h : ¬ c ≤ 0) : ¬ ww_I (ww_sI M f x c) f x ≤ 0 := by rw [show ww_I (ww_sI M f x c) f x = c from ww_u2s]; exact h
theorem ww_sI_eq {M : ww_M} {f x : Nat} {c d : Int32} (h : c = d) : ww_I (ww_sI M f x c) f x = d := (show ww_I (ww_sI M f x c) f x = c from ww_u2s).trans h
theorem ww_sI_ne {M : ww_M} {f x : Nat} {c d : Int32} (h : ¬ c = d) : ¬ ww_I (ww_sI M f x c) f x = d := by rw [show ww_I (ww_sI M f x c) f x = c from ww_u2s]; exact h
/-- the model with its code of what was thrown -/
def ww_cd (M : ww_M) (x : Nat) (c : Int32) : ww_M := ww_sI M 320 x c
section WWN
variable {g : ww_G} {M : ww_M} {x : Nat} {ar : Nat → Nat} {n w : Nat}
/-- in a range -/
def q_rg (lo hi v : Int32) : Prop := lo ≤ v ∧ v ≤ hi
/-- the model with one part more -/
def ww_mpart (M : ww_M) (x : Nat) (ar : Nat → Nat) (n : Nat) (k e d : Int32) : ww_M := ww_sI (ww_sX (ww_sX (ww_sX (ww_sX (ww_sX (ww_sX (ww_cd M x 0) (ar 2) n k) (ar 3) n e) (ar 4) n d) (ar 5) n (-1)) (ar 13) n 9000) (ar 14) n 300) 321 x (nI (n + 1))
def ww_mlimits (M : ww_M) (x : Nat) (ar : Nat → Nat) (k : Nat) (e d f : Int32) : ww_M := ww_sX (ww_sX (ww_sX (ww_cd M x 0) (ar 20) k e) (ar 21) k d) (ar 22) k f
def ww_mmoves (M : ww_M) (x : Nat) (ar : Nat → Nat) (p w : Nat) (to : Int32) : ww_M := ww_sI (ww_sX (ww_sX (ww_sX M (ar 5) p to) (ar 24) w (nI p)) (ar 25) w to) 343 x (nI (w + 1))
end WWN
section WWN
variable {g : ww_G} {M : ww_M} {x : Nat} {ar : Nat → Nat} {n w : Nat}
/-- it, and what it is in, stands on a road -/
def q_bound (S : Nat → Nat → Int32) (p : Nat) : Prop := S 12 (q_hd (S 5) 5 p) = 1
def q_fitP (S : Nat → Nat → Int32) (p h : Nat) : Prop := ¬ q_places (S 2 h) (S 2 p) = 0
def q_fitS (S : Nat → Nat → Int32) (n p h : Nat) : Prop := S 5 p = -1 ∧ S 9 p = 0 ∧ ¬ S 5 h = -2 ∧ ¬ q_bound S h ∧ nI (q_inK S n (nI h) (S 2 p)) < q_places (S 2 h) (S 2 p) ∧ S 4 p - S 4 h ≤ 1 ∧ -1 ≤ S 4 p - S 4 h
/-- no such part -/
def q_noP (n : Nat) (p : Int32) : Prop := ¬ (0 ≤ p.toInt ∧ p.toInt < (n : Int))
/-- the model behind a fit -/
def ww_mfit (M : ww_M) (x : Nat) (ar : Nat → Nat) (w p h : Nat) : ww_M := ww_sX (ww_mmoves (ww_cd (ww_cd M x 0) x 0) x ar p w (nI h)) (ar 11) (q_hd (ww_X M (ar 5)) 5 h) 0
theorem q_hd_set {n : Nat} {kd ho : Nat → Int32} (hg : q_gh n kd ho) (h6 : n ≤ 60) {p h : Nat} (hlt : (kd h).toInt < (kd p).toInt) : ∀ (f q : Nat), q < n → (kd q).toInt ≤ (kd h).toInt → q_hd (fun j => if j = p then nI h else ho j) f q = q_hd ho f q
  | 0, q, _, _ => rfl
  | f + 1, q, hq, hk => by
    have hne : q ≠ p := fun z => by subst z; omega
    rcases q_gh_cases hg h6 hq with h1 | ⟨r, hr, e, hl⟩
    · rw [q_hd_neg h1, q_hd_neg (by show (if q = p then nI h else ho q) < 0; rw [if_neg hne]; exact h1)]
    · rw [q_hd_pos e (by omega), q_hd_pos (q := r) (by show (if q = p then nI h else ho q) = nI r; rw [if_neg hne]; exact e) (by omega)]
      exact q_hd_set hg h6 hlt f r hr (by omega)
theorem q_hd_stab {n : Nat} {kd ho : Nat → Int32} (hg : q_gh n kd ho) (h6 : n ≤ 60) : ∀ (f f' q : Nat), q < n → (kd q).toInt < f → (kd q).toInt < f' → q_hd ho f q = q_hd ho f' q
  | 0, _, q, hq, h1, _ => by have := (q_gh_kd hg hq).1; omega
  | _ + 1, 0, q, hq, _, h1 => by have := (q_gh_kd hg hq).1; omega
  | f + 1, f' + 1, q, hq, h1, h2 => by
    rcases q_gh_cases hg h6 hq with h3 | ⟨r, hr, e, hl⟩
    · rw [q_hd_neg h3, q_hd_neg h3]
    · rw [q_hd_pos e (by omega), q_hd_pos e (by omega)]
      exact q_hd_stab hg h6 f f' r hr (by omega) (by omega)
theorem q_gh_set {n : Nat} {kd ho : Nat → Int32} (hg : q_gh n kd ho) {p h : Nat} (hh : h < n) (hlt : (kd h).toInt < (kd p).toInt) : q_gh n kd (fun j => if j = p then nI h else ho j) := by
  intro q hq
  refine ⟨(hg q hq).1, ?_⟩
  show (if q = p then nI h else ho q) = -1 ∨ (if q = p then nI h else ho q) = -2 ∨ ∃ r, r < n ∧ (if q = p then nI h else ho q) = nI r ∧ _
  by_cases e : q = p
  · subst e
    rw [if_pos rfl]
    exact Or.inr (Or.inr ⟨h, hh, rfl, hlt⟩)
  · rw [if_neg e]
    exact (hg q hq).2
theorem q_places_lt {h k : Int32} (hz : ¬ q_places h k = 0) (h0 : 0 ≤ h.toInt) (h5 : h.toInt < 5) : h.toInt < k.toInt := by
  unfold q_places at hz
  by_cases h1 : h = 2
  · subst h1
    rw [if_pos rfl] at hz
    by_cases h2 : k = 3
    · subst h2; decide
    · rw [if_neg h2] at hz
      by_cases h3 : k = 4
      · subst h3; decide
      · rw [if_neg h3] at hz; exact absurd rfl hz
  · rw [if_neg h1] at hz
    by_cases h2 : (h = 0 ∨ h = 1) ∧ k = h + 1
    · obtain ⟨h3, rfl⟩ := h2
      rcases h3 with rfl | rfl <;> decide
    · rw [if_neg h2] at hz; exact absurd rfl hz
theorem ww_row_X {M : ww_M} {a i : Nat} {v : Int32} : ww_X (ww_sX M a i v) a = fun j => if j = i then v else ww_X M a j := by
  funext j
  show ww_u2 (ww_X M) a i v a j = _
  unfold ww_u2
  by_cases h : j = i
  · rw [if_pos ⟨rfl, h⟩, if_pos h]
  · rw [if_neg (fun z => h z.2), if_neg h]
theorem ww_row_n {M : ww_M} {a b i : Nat} {v : Int32} (h : b ≠ a) : ww_X (ww_sX M a i v) b = ww_X M b := ww_upd_Xn h
end WWN
/-! ===== the model changed in its content alone ===== -/
section WWU
variable {g : ww_G} {M M1 : ww_M} {x : Nat} {ar : Nat → Nat} {n w : Nat} {S' : Nat → Nat → Int32}
theorem ww_C_mono {Y : ww_Yd} {d mc ms : Nat} {av : List Value} {Q Q' : Option Value → ww_M → Prop} {X X' : String → ww_M → Prop} (h : ww_C g Y d mc ms av M Q X) (hq : ∀ v M', Q v M' → Q' v M') (hx : ∀ E M', X E M' → X' E M') : ww_C g Y d mc ms av M Q' X' := by
  intro l hl p e h1 h2 h3 s m args below h4 h5 h6 h7
  obtain ⟨n, o, a1, a2, a3, a4⟩ := h l hl p e h1 h2 h3 s m args below h4 h5 h6 h7
  refine ⟨n, o, a1, a2, a3, ?_⟩
  rcases a4 with ⟨⟨⟨v, M', e1, e2, e3⟩, e4⟩, e5⟩ | ⟨q, e0, E, ce, L, ⟨⟨M', e2, e3⟩, e4⟩, e5⟩
  · exact Or.inl ⟨⟨⟨v, M', e1, hq v M' e2, e3⟩, e4⟩, e5⟩
  · exact Or.inr ⟨q, e0, E, ce, L, ⟨⟨M', hx E M' e2, e3⟩, e4⟩, e5⟩
theorem ww_A_mono {Y : ww_Yd} {d kc ks pc : Nat} {lv : List (Nat × Value)} {st : List Value} {Q Q' : Option Value → ww_M → Prop} {X X' : String → ww_M → Prop} (h : ww_A g Y d kc ks M pc lv st Q X) (hq : ∀ v M', Q v M' → Q' v M') (hx : ∀ E M', X E M' → X' E M') : ww_A g Y d kc ks M pc lv st Q' X' := by
  intro p l e R s m args below meth c H locs cells slots mc ms ls C B hl hH hS T hT X0
  obtain ⟨t, a1, o, b1, b2, b3⟩ := h p l e R s m args below meth c H locs cells slots mc ms ls C B hl hH hS T hT X0
  refine ⟨t, a1, o, b1, b2, ?_⟩
  rcases b3 with ⟨⟨⟨v, M', e1, e2, e3⟩, e4⟩, e5⟩ | ⟨q, e0, E, ce, L, ⟨⟨M', e2, e3⟩, e4⟩, e5⟩
  · exact Or.inl ⟨⟨⟨v, M', e1, hq v M' e2, e3⟩, e4⟩, e5⟩
  · exact Or.inr ⟨q, e0, E, ce, L, ⟨⟨M', hx E M' e2, e3⟩, e4⟩, e5⟩
theorem ww_sX_sX {a i : Nat} {v v' : Int32} : ww_sX (ww_sX M a i v) a i v' = ww_sX M a i v' := by
  have e : ww_u2 (ww_X (ww_sX M a i v)) a i v' = ww_u2 (ww_X M) a i v' := by
    funext b j
    show (if b = a ∧ j = i then v' else ww_u2 (ww_X M) a i v b j) = if b = a ∧ j = i then v' else ww_X M b j
    by_cases h : b = a ∧ j = i
    · rw [if_pos h, if_pos h]
    · rw [if_neg h, if_neg h]; exact if_neg h
  unfold ww_sX at e ⊢
  simp only [e]
theorem ww_sX_id {a i : Nat} {v : Int32} (h : ww_X M a i = v) : ww_sX M a i v = M := by
  have e : ww_u2 (ww_X M) a i v = ww_X M := by
    funext b j
    unfold ww_u2
    by_cases hb : b = a ∧ j = i
    · rw [if_pos hb, hb.1, hb.2, h]
    · rw [if_neg hb]
  unfold ww_sX
  rw [e]
  rfl
def q_takeS (S : Nat → Nat → Int32) (p : Nat) : Prop := ¬ S 5 p < 0 ∧ ¬ q_bound S p
def ww_mtake (M : ww_M) (x : Nat) (ar : Nat → Nat) (w p : Nat) : ww_M := ww_mmoves (ww_sX (ww_cd M x 0) (ar 11) (q_hd (ww_X M (ar 5)) 5 p) 0) x ar p w (-1)
/-- p waits for the night -/
def q_wait (S : Nat → Nat → Int32) (w : Nat) (v : Int32) : Prop := q_any (fun k => S 27 k = v) w
def q_scrapS (S : Nat → Nat → Int32) (n w p : Nat) : Prop := S 5 p = -1 ∧ q_in S n (nI p) = 0 ∧ ¬ q_bound S p ∧ ¬ q_wait S w (nI p)
end WWU
/-! ===== the model walked over its content ===== -/
section WWP
variable {g : ww_G} {Y : ww_Yd} {d kc ks : Nat} {M M1 : ww_M} {pc : Nat} {lv : List (Nat × Value)} {st : List Value} {Q : Option Value → ww_M → Prop} {X : String → ww_M → Prop} {x : Nat} {ar : Nat → Nat} {k j : Nat} {i v : Int32} {S1 : Nat → Nat → Int32}
theorem q_us_s {S : Nat → Nat → Int32} {k i : Nat} {v : Int32} : q_us S k v k i = v := if_pos rfl
theorem q_us_n {S : Nat → Nat → Int32} {k k' i : Nat} {v : Int32} (h : k' ≠ k) : q_us S k v k' i = S k' i := if_neg h
end WWP
def q_grow : Nat → Int32 → Int32
  | 0, v => v
  | n + 1, v => q_grow n (v + (1 + v / 10))
/-- a wheelset that turned -/
def q_goW (S : Nat → Nat → Int32) (p : Nat) (d s : Int32) : Nat → Nat → Int32 := ww_u2 (ww_u2 (ww_u2 (ww_u2 (ww_u2 S 6 p (S 6 p + d)) 7 p (S 7 p + d)) 15 p (S 15 p + d * q_fac s)) 13 p (S 13 p - ((S 6 p + d) / 100 - S 6 p / 100))) 14 p (S 14 p - ((S 15 p + d * q_fac s) / 200 - S 15 p / 200))
def q_goK (S : Nat → Nat → Int32) (p : Nat) (d : Int32) : Nat → Nat → Int32 := ww_u2 (ww_u2 S 6 p (S 6 p + d)) 7 p (S 7 p + d)
def q_goN (S : Nat → Nat → Int32) (p : Nat) (d : Int32) : Int32 := if S 18 p = 0 then 0 else (S 6 p + d - S 19 p) / 500 - (S 6 p - S 19 p) / 500
/-- p went d kilometres with s -/
def q_go (S : Nat → Nat → Int32) (p : Nat) (d s : Int32) : Nat → Nat → Int32 := ww_u2 (if S 2 p = 3 then q_goW S p d s else q_goK S p d) 18 p (q_grow (q_goN S p d).toInt.toNat (S 18 p))
theorem ww_u2_u2 {S : Nat → Nat → Int32} {k i : Nat} {v v' : Int32} : ww_u2 (ww_u2 S k i v) k i v' = ww_u2 S k i v' := by
  funext b j
  show (if b = k ∧ j = i then v' else if b = k ∧ j = i then v else S b j) = if b = k ∧ j = i then v' else S b j
  by_cases h : b = k ∧ j = i
  · rw [if_pos h, if_pos h]
  · rw [if_neg h, if_neg h, if_neg h]
theorem ww_u2_id {S : Nat → Nat → Int32} {k i : Nat} {v : Int32} (h : S k i = v) : ww_u2 S k i v = S := by
  funext b j
  show (if b = k ∧ j = i then v else S b j) = S b j
  by_cases hb : b = k ∧ j = i
  · rw [if_pos hb, hb.1, hb.2, h]
  · rw [if_neg hb]
section WWG
variable {g : ww_G} {M : ww_M} {x : Nat} {ar : Nat → Nat} {n w : Nat}
end WWG
/-! ===== the model's operations over its content ===== -/
/-- what every call finds: n parts, their trees, the truths -/
def q_G (S : Nat → Nat → Int32) (n : Nat) : Prop := S 1 0 = nI n ∧ n ≤ 60 ∧ q_gh n (S 2) (S 5) ∧ q_bool S 9 ∧ q_bool S 10 ∧ q_bool S 11 ∧ q_bool S 12 ∧ q_bool S 17
theorem q_us_us {S : Nat → Nat → Int32} {k : Nat} {v v' : Int32} : q_us (q_us S k v) k v' = q_us S k v' := by
  funext b j
  show (if b = k then v' else if b = k then v else S b j) = if b = k then v' else S b j
  by_cases h : b = k
  · rw [if_pos h, if_pos h]
  · rw [if_neg h, if_neg h, if_neg h]
theorem q_G_c {S : Nat → Nat → Int32} {n : Nat} {c : Int32} (h : q_G S n) : q_G (q_us S 0 c) n := h
theorem q_G_u {S : Nat → Nat → Int32} {n k i : Nat} {v : Int32} (h : q_G S n) (hk : ¬ (k = 1 ∨ k = 2 ∨ k = 5 ∨ k = 9 ∨ k = 10 ∨ k = 11 ∨ k = 12 ∨ k = 17)) : q_G (ww_u2 S k i v) n := by
  obtain ⟨h1, h2, h3, h4, h5, h6, h7, h8⟩ := h
  have e : ∀ b, b ≠ k → ww_u2 S k i v b = S b := fun b hb => by
    funext j
    exact ww_u2n (fun z => hb z.1)
  refine ⟨?_, h2, ?_, ?_, ?_, ?_, ?_, ?_⟩
  · rw [e 1 (by omega)]; exact h1
  · rw [e 2 (by omega), e 5 (by omega)]; exact h3
  · intro a; rw [e 9 (by omega)]; exact h4 a
  · intro a; rw [e 10 (by omega)]; exact h5 a
  · intro a; rw [e 11 (by omega)]; exact h6 a
  · intro a; rw [e 12 (by omega)]; exact h7 a
  · intro a; rw [e 17 (by omega)]; exact h8 a
theorem q_bool_u {S : Nat → Nat → Int32} {k k' i : Nat} {v : Int32} (h : q_bool S k') (hv : v = 0 ∨ v = 1) : q_bool (ww_u2 S k i v) k' := by
  intro a
  show (if k' = k ∧ a = i then v else S k' a) = 0 ∨ (if k' = k ∧ a = i then v else S k' a) = 1
  by_cases e : k' = k ∧ a = i
  · rw [if_pos e]; exact hv
  · rw [if_neg e]; exact h a
theorem q_G_b {S : Nat → Nat → Int32} {n k i : Nat} {v : Int32} (h : q_G S n) (hv : v = 0 ∨ v = 1) (hk : ¬ (k = 1 ∨ k = 2 ∨ k = 5)) : q_G (ww_u2 S k i v) n := by
  obtain ⟨h1, h2, h3, h4, h5, h6, h7, h8⟩ := h
  have e : ∀ b, b ≠ k → ww_u2 S k i v b = S b := fun b hb => by
    funext j
    exact ww_u2n (fun z => hb z.1)
  refine ⟨?_, h2, ?_, q_bool_u h4 hv, q_bool_u h5 hv, q_bool_u h6 hv, q_bool_u h7 hv, q_bool_u h8 hv⟩
  · rw [e 1 (by omega)]; exact h1
  · rw [e 2 (by omega), e 5 (by omega)]; exact h3
section WWV
variable {g : ww_G} {M M1 : ww_M} {x : Nat} {ar : Nat → Nat} {n w : Nat} {S1 : Nat → Nat → Int32}
/-! examine -/
def q_exam (S : Nat → Nat → Int32) (p : Nat) : Prop := ¬ S 21 (q_kd S p) ≤ 0 ∧ ¬ S 7 p < S 21 (q_kd S p) - S 22 (q_kd S p) ∧ ¬ S 5 p = -2 ∧ ¬ q_bound S p
/-! waive -/
def q_waive (S : Nat → Nat → Int32) (p : Nat) : Prop := ¬ S 21 (q_kd S p) = 0 ∧ S 8 p ≤ 0
/-! flaw -/
end WWV
/-! the code's slot is of no matter to them -/
theorem q_lo_us {S : Nat → Nat → Int32} {c h : Int32} : ∀ {n : Nat}, q_lo (q_us S 0 c) h n = q_lo S h n
  | 0 => rfl
  | i + 1 => by
    show q_if (q_isw S h i ∧ S 13 i < q_lo (q_us S 0 c) h i) (S 13 i) (q_lo (q_us S 0 c) h i) = q_if (q_isw S h i ∧ S 13 i < q_lo S h i) (S 13 i) (q_lo S h i)
    rw [q_lo_us]
theorem q_hi_us {S : Nat → Nat → Int32} {c h : Int32} : ∀ {n : Nat}, q_hi (q_us S 0 c) h n = q_hi S h n
  | 0 => rfl
  | i + 1 => by
    show q_if (q_isw S h i ∧ q_hi (q_us S 0 c) h i < S 13 i) (S 13 i) (q_hi (q_us S 0 c) h i) = q_if (q_isw S h i ∧ q_hi S h i < S 13 i) (S 13 i) (q_hi S h i)
    rw [q_hi_us]
theorem q_bars_us {S : Nat → Nat → Int32} {c : Int32} {n p r : Nat} : q_bars (q_us S 0 c) n p r = q_bars S n p r := by
  unfold q_bars q_apart
  rw [q_lo_us, q_hi_us]
  rfl
theorem q_low_us {S : Nat → Nat → Int32} {c : Int32} {n t r : Nat} : q_low (q_us S 0 c) n t r = q_low S n t r := by
  unfold q_low
  refine q_ff_cg (fun p _ _ => ?_)
  rw [q_bars_us]
  exact Iff.rfl
theorem q_bar_us {S : Nat → Nat → Int32} {c : Int32} {n t : Nat} : ∀ {m r : Nat}, q_bar (q_us S 0 c) n t m r = q_bar S n t m r
  | 0, _ => rfl
  | m + 1, r => by
    unfold q_bar
    rw [q_low_us, q_bar_us]
section WWV
variable {g : ww_G} {M M1 : ww_M} {x : Nat} {ar : Nat → Nat} {n w : Nat} {S1 : Nat → Nat → Int32}
/-! holds, look -/
def q_holds (S : Nat → Nat → Int32) (p : Nat) : Nat → Nat → Int32 := ww_u2 (ww_u2 S 9 p 1) 11 (q_hd (S 5) 5 p) 0
def q_look (S : Nat → Nat → Int32) (p : Nat) (v : Int32) : Prop := ¬ S 5 p = -2 ∧ ¬ q_bound S p ∧ (v = 0 ∨ S 5 p = -1)
/-- what the flaw comes to there: held -/
def q_lookV (S : Nat → Nat → Int32) (p : Nat) (v : Int32) : Prop := ¬ S 18 p < (if v = 0 then 10 else 3)
/-! clear -/
def q_clear (S : Nat → Nat → Int32) (p : Nat) : Prop := ¬ S 9 p = 0 ∧ ¬ q_bound S p
/-! release, bars, barredBy, isReleased -/
theorem q_top {S : Nat → Nat → Int32} (hG : q_G S n) {p : Nat} (hp : p < n) (hk : S 2 p = 0) : S 5 p < 0 := by
  rcases q_gh_cases hG.2.2.1 hG.2.1 hp with h1 | ⟨q, hq, e, hl⟩
  · exact h1
  · have := (q_gh_kd hG.2.2.1 hq).1
    rw [hk] at hl
    exact absurd hl (by rw [show (0 : Int32).toInt = 0 from rfl]; omega)
/-! gate -/
/-! foretell -/
def q_fore (S : Nat → Nat → Int32) (p : Nat) (v s : Int32) : Int32 := if S 17 p = 0 then -1 else if S 16 p - 250 ≤ 0 then 0 else (S 16 p - 250) * 200 / (v * q_fac s)
theorem q_fac_ne {v s : Int32} (hv : q_rg 1 2000 v) (hs : q_rg 0 3 s) : ¬ v * q_fac s = 0 := by
  obtain ⟨h1, h2⟩ := hv
  obtain ⟨h3, h4⟩ := hs
  rw [ww_le'] at h1 h2 h3 h4
  have e1 : (1 : Int32).toInt = 1 := rfl
  have e2 : (2000 : Int32).toInt = 2000 := rfl
  have e3 : (0 : Int32).toInt = 0 := rfl
  have e4 : (3 : Int32).toInt = 3 := rfl
  have hs : s = 0 ∨ s = 1 ∨ s = 2 ∨ s = 3 := by
    rw [ww_eq, ww_eq, ww_eq, ww_eq, e3, e1, e4, show (2 : Int32).toInt = 2 from rfl]
    omega
  intro z
  rw [ww_eq, Int32.toInt_mul, e3] at z
  rcases hs with rfl | rfl | rfl | rfl
  · rw [show (q_fac 0).toInt = 1 from by decide, Int.bmod_eq_of_le (by omega) (by omega)] at z; omega
  · rw [show (q_fac 1).toInt = 2 from by decide, Int.bmod_eq_of_le (by omega) (by omega)] at z; omega
  · rw [show (q_fac 2).toInt = 3 from by decide, Int.bmod_eq_of_le (by omega) (by omega)] at z; omega
  · rw [show (q_fac 3).toInt = 2 from by decide, Int.bmod_eq_of_le (by omega) (by omega)] at z; omega
end WWV
section WWW
variable {g : ww_G} {M M1 : ww_M} {x : Nat} {ar : Nat → Nat} {n w : Nat} {S1 : Nat → Nat → Int32}
/-! host, head, lifeAnew, ofPart, trace, wheel -/
def q_wheel (S : Nat → Nat → Int32) (p : Nat) (v : Int32) : Int32 := if v = 0 then S 13 p else if v = 1 then S 14 p else if S 17 p = 0 then -1 else S 16 p
/-- the moves of p -/
noncomputable def q_mv (S : Nat → Nat → Int32) (w p : Nat) : Nat := q_cnt (fun k => S 24 k = nI p) w
noncomputable def q_ofP (S : Nat → Nat → Int32) (w p : Nat) : Nat → Int32
  | 0 => S 2 p | 1 => S 3 p | 2 => S 4 p | 3 => S 6 p | 4 => S 7 p | 5 => S 8 p | 6 => S 9 p | 7 => S 10 p | _ => nI (q_mv S w p)
/-! trace: the k-th move of p -/
/-- where the j-th of the rows that are so stands, from i on, of m -/
noncomputable def q_nth (P : Nat → Prop) : Nat → Nat → Nat → Nat
  | 0, _, i => i
  | m + 1, j, i => q_if (P i) (if j = 0 then i else q_nth P m (j - 1) (i + 1)) (q_nth P m j (i + 1))
theorem q_nth_t0 {P : Nat → Prop} {m i : Nat} (h : P i) : q_nth P (m + 1) 0 i = i := q_if_t h
theorem q_nth_t {P : Nat → Prop} {m j i : Nat} (h : P i) : q_nth P (m + 1) (j + 1) i = q_nth P m j (i + 1) := q_if_t h
theorem q_nth_f {P : Nat → Prop} {m j i : Nat} (h : ¬ P i) : q_nth P (m + 1) j i = q_nth P m j (i + 1) := q_if_f h
end WWW
/-! ===== run ===== -/
theorem q_go_n {S : Nat → Nat → Int32} {p i k : Nat} {d s : Int32} (h : i ≠ p) : q_go S p d s k i = S k i := by
  have e : ∀ (T : Nat → Nat → Int32) (a : Nat) (v : Int32), ww_u2 T a p v k i = T k i := fun T a v => ww_u2n (fun z => h z.2)
  unfold q_go
  rw [e]
  by_cases c : S 2 p = 3
  · rw [if_pos c]; unfold q_goW; rw [e, e, e, e, e]
  · rw [if_neg c]; unfold q_goK; rw [e, e]
theorem q_go_k {S : Nat → Nat → Int32} {p i k : Nat} {d s : Int32} (h : ¬ (k = 6 ∨ k = 7 ∨ k = 13 ∨ k = 14 ∨ k = 15 ∨ k = 18)) : q_go S p d s k i = S k i := by
  have e : ∀ (T : Nat → Nat → Int32) (a : Nat) (v : Int32), a ≠ k → ww_u2 T a p v k i = T k i := fun T a v ha => ww_u2n (fun z => ha z.1.symm)
  unfold q_go
  rw [e _ _ _ (by omega)]
  by_cases c : S 2 p = 3
  · rw [if_pos c]; unfold q_goW; rw [e _ _ _ (by omega), e _ _ _ (by omega), e _ _ _ (by omega), e _ _ _ (by omega), e _ _ _ (by omega)]
  · rw [if_neg c]; unfold q_goK; rw [e _ _ _ (by omega), e _ _ _ (by omega)]
theorem q_go_p {S S1 : Nat → Nat → Int32} {p k : Nat} {d s : Int32} (h : ∀ k, S1 k p = S k p) : q_go S1 p d s k p = q_go S p d s k p := by
  unfold q_go q_goN q_goW q_goK
  rw [h 2, h 18, h 6, h 19, h 7, h 15, h 13, h 14]
  unfold ww_u2
  by_cases c : S 2 p = 3
  · rw [if_pos c, if_pos c]
    simp only [h]
  · rw [if_neg c, if_neg c]
    simp only [h]
/-- the parts from m on that stand in t have gone -/
noncomputable def q_r1 (S : Nat → Nat → Int32) (n t : Nat) (d s : Int32) (m : Nat) : Nat → Nat → Int32 := fun k i => q_if (m ≤ i ∧ i < n ∧ q_hd (S 5) 5 i = t) (q_go S i d s k i) (S k i)
theorem q_r1_k {S : Nat → Nat → Int32} {n t m k : Nat} {d s : Int32} (h : ¬ (k = 6 ∨ k = 7 ∨ k = 13 ∨ k = 14 ∨ k = 15 ∨ k = 18)) : q_r1 S n t d s m k = S k := by
  funext i
  unfold q_r1
  by_cases c : m ≤ i ∧ i < n ∧ q_hd (S 5) 5 i = t
  · rw [q_if_t c, q_go_k h]
  · rw [q_if_f c]
theorem q_r1_n {S : Nat → Nat → Int32} {n t : Nat} {d s : Int32} : q_r1 S n t d s n = S := by
  funext k i
  exact q_if_f (fun z => by omega)
theorem q_r1_t {S : Nat → Nat → Int32} {n t m : Nat} {d s : Int32} (hm : m < n) (h : q_hd (S 5) 5 m = t) : q_go (q_r1 S n t d s (m + 1)) m d s = q_r1 S n t d s m := by
  funext k i
  have e : ∀ k, q_r1 S n t d s (m + 1) k m = S k m := fun k => q_if_f (fun z => by omega)
  by_cases c : i = m
  · subst c
    rw [q_go_p e]
    exact (q_if_t ⟨Nat.le_refl _, hm, h⟩).symm
  · rw [q_go_n c]
    exact q_if_cg ⟨fun z => ⟨by omega, z.2⟩, fun z => ⟨by omega, z.2⟩⟩
theorem q_r1_f {S : Nat → Nat → Int32} {n t m : Nat} {d s : Int32} (h : ¬ q_hd (S 5) 5 m = t) : q_r1 S n t d s (m + 1) = q_r1 S n t d s m := by
  funext k i
  refine q_if_cg ⟨fun z => ⟨by omega, z.2⟩, fun z => ⟨?_, z.2⟩⟩
  have : i ≠ m := fun y => h (y ▸ z.2.2)
  omega
theorem q_G_r {S S1 : Nat → Nat → Int32} {n : Nat} (h : q_G S n) (h1 : S1 1 0 = S 1 0) (h2 : S1 2 = S 2) (h5 : S1 5 = S 5) (h9 : q_bool S1 9) (h10 : q_bool S1 10) (h11 : q_bool S1 11) (h12 : q_bool S1 12) (h17 : q_bool S1 17) : q_G S1 n := by
  obtain ⟨a1, a2, a3, a4, a5, a6, a7, a8⟩ := h
  exact ⟨h1.trans a1, a2, by rw [h2, h5]; exact a3, h9, h10, h11, h12, h17⟩
theorem q_G_r1 {S : Nat → Nat → Int32} {n t m : Nat} {d s : Int32} (h : q_G S n) : q_G (q_r1 S n t d s m) n := by
  refine q_G_r h ?_ (q_r1_k (by decide)) (q_r1_k (by decide)) ?_ ?_ ?_ ?_ ?_
  · rw [q_r1_k (by decide)]
  · intro i; rw [q_r1_k (by decide)]; exact h.2.2.2.1 i
  · intro i; rw [q_r1_k (by decide)]; exact h.2.2.2.2.1 i
  · intro i; rw [q_r1_k (by decide)]; exact h.2.2.2.2.2.1 i
  · intro i; rw [q_r1_k (by decide)]; exact h.2.2.2.2.2.2.1 i
  · intro i; rw [q_r1_k (by decide)]; exact h.2.2.2.2.2.2.2 i
/-- and those below m of them are held -/
noncomputable def q_r2 (S : Nat → Nat → Int32) (t m : Nat) : Nat → Nat → Int32 := fun k i => q_if (k = 9 ∧ i < m ∧ q_hd (S 5) 5 i = t) 1 (S k i)
theorem q_r2_k {S : Nat → Nat → Int32} {t m k : Nat} (h : k ≠ 9) : q_r2 S t m k = S k := by
  funext i
  exact q_if_f (fun z => h z.1)
theorem q_r2_0 {S : Nat → Nat → Int32} {t : Nat} : q_r2 S t 0 = S := by
  funext k i
  exact q_if_f (fun z => by omega)
theorem q_r2_s {S : Nat → Nat → Int32} {t m : Nat} {v : Int32} (h : (v = 1 ∧ (S 9 m = 1 ∨ q_hd (S 5) 5 m = t)) ∨ (v = 0 ∧ S 9 m = 0 ∧ ¬ q_hd (S 5) 5 m = t)) : ww_u2 (q_r2 S t m) 9 m v = q_r2 S t (m + 1) := by
  funext k i
  by_cases c : k = 9 ∧ i = m
  · obtain ⟨rfl, rfl⟩ := c
    rw [ww_u2s]
    unfold q_r2
    rcases h with ⟨rfl, h⟩ | ⟨rfl, h, h'⟩
    · by_cases c2 : q_hd (S 5) 5 i = t
      · rw [q_if_t ⟨rfl, by omega, c2⟩]
      · rw [q_if_f (fun z => c2 z.2.2)]; exact (h.resolve_right c2).symm
    · rw [q_if_f (fun z => h' z.2.2)]; exact h.symm
  · rw [ww_u2n c]
    refine q_if_cg ⟨fun z => ⟨z.1, by omega, z.2.2⟩, fun z => ⟨z.1, ?_, z.2.2⟩⟩
    have : i ≠ m := fun y => c ⟨z.1, y⟩
    omega
theorem q_G_r2 {S : Nat → Nat → Int32} {n t m : Nat} (h : q_G S n) : q_G (q_r2 S t m) n := by
  refine q_G_r h ?_ (q_r2_k (by decide)) (q_r2_k (by decide)) ?_ ?_ ?_ ?_ ?_
  · rw [q_r2_k (by decide)]
  · intro i
    unfold q_r2
    by_cases c : (9 : Nat) = 9 ∧ i < m ∧ q_hd (S 5) 5 i = t
    · rw [q_if_t c]; exact Or.inr rfl
    · rw [q_if_f c]; exact h.2.2.2.1 i
  · intro i; rw [q_r2_k (by decide)]; exact h.2.2.2.2.1 i
  · intro i; rw [q_r2_k (by decide)]; exact h.2.2.2.2.2.1 i
  · intro i; rw [q_r2_k (by decide)]; exact h.2.2.2.2.2.2.1 i
  · intro i; rw [q_r2_k (by decide)]; exact h.2.2.2.2.2.2.2 i
def q_oi : Option Nat → Int32
  | none => -1
  | some i => nI i
/-- it stands in t and its flaw has come to 100 -/
def q_bad (S : Nat → Nat → Int32) (t : Nat) (d s : Int32) (i : Nat) : Prop := q_hd (S 5) 5 i = t ∧ ¬ q_go S i d s 18 i < 100
section WWX
variable {g : ww_G} {M M1 : ww_M} {x : Nat} {ar : Nat → Nat} {n w t : Nat} {S S1 : Nat → Nat → Int32} {d s : Int32} {Q : Option Value → ww_M → Prop}
noncomputable def q_run (S : Nat → Nat → Int32) (n t : Nat) (d s : Int32) : Nat → Nat → Int32 := match q_ff (q_bad S t d s) n 0 with
  | none => q_r1 S n t d s 0
  | some _ => q_r2 (q_r1 S n t d s 0) t n
def q_runC (S : Nat → Nat → Int32) (t : Nat) : Prop := ¬ S 11 t = 0 ∧ ¬ q_bound S t
end WWX
/-! ===== recall, turn ===== -/
def q_hit (S : Nat → Nat → Int32) (v : Int32) (i : Nat) : Prop := S 3 i = v ∧ ¬ S 5 i = -2 ∧ S 10 i = 0
noncomputable def q_rc (S : Nat → Nat → Int32) (v : Int32) (m : Nat) : Nat → Nat → Int32 := fun k i => q_if (k = 10 ∧ i < m ∧ q_hit S v i) 1 (q_if (k = 11 ∧ ∃ q, q < m ∧ q_hit S v q ∧ q_hd (S 5) 5 q = i) 0 (S k i))
theorem q_rc_k {S : Nat → Nat → Int32} {v : Int32} {m k : Nat} (h : k ≠ 10 ∧ k ≠ 11) : q_rc S v m k = S k := by
  funext i
  unfold q_rc
  rw [q_if_f (fun z => h.1 z.1), q_if_f (fun z => h.2 z.1)]
theorem q_rc_0 {S : Nat → Nat → Int32} {v : Int32} : q_rc S v 0 = S := by
  funext k i
  unfold q_rc
  rw [q_if_f (fun z => by omega), q_if_f (fun z => by obtain ⟨_, q, hq, _⟩ := z; omega)]
theorem q_rc_10 {S : Nat → Nat → Int32} {v : Int32} {m : Nat} : q_rc S v m 10 m = S 10 m := by
  unfold q_rc
  rw [q_if_f (fun z => by omega), q_if_f (fun z => absurd z.1 (by decide))]
theorem q_rc_f {S : Nat → Nat → Int32} {v : Int32} {m : Nat} (h : ¬ q_hit S v m) : q_rc S v (m + 1) = q_rc S v m := by
  funext k i
  have e1 : (k = 10 ∧ i < m + 1 ∧ q_hit S v i) ↔ (k = 10 ∧ i < m ∧ q_hit S v i) := ⟨fun z => ⟨z.1, by
    have : i ≠ m := fun y => h (y ▸ z.2.2)
    omega, z.2.2⟩, fun z => ⟨z.1, by omega, z.2.2⟩⟩
  have e2 : (k = 11 ∧ ∃ q, q < m + 1 ∧ q_hit S v q ∧ q_hd (S 5) 5 q = i) ↔ (k = 11 ∧ ∃ q, q < m ∧ q_hit S v q ∧ q_hd (S 5) 5 q = i) := by
    constructor
    · rintro ⟨z, q, h1, h2, h3⟩
      have : q ≠ m := fun y => h (y ▸ h2)
      exact ⟨z, q, by omega, h2, h3⟩
    · rintro ⟨z, q, h1, h2, h3⟩
      exact ⟨z, q, by omega, h2, h3⟩
  unfold q_rc
  rw [q_if_cg e1, q_if_cg e2]
theorem q_rc_t {S : Nat → Nat → Int32} {v : Int32} {m : Nat} (h : q_hit S v m) : ww_u2 (ww_u2 (q_rc S v m) 10 m 1) 11 (q_hd (S 5) 5 m) 0 = q_rc S v (m + 1) := by
  funext k i
  by_cases c1 : k = 11 ∧ i = q_hd (S 5) 5 m
  · obtain ⟨rfl, rfl⟩ := c1
    rw [ww_u2s]
    unfold q_rc
    rw [q_if_f (fun z => absurd z.1 (by decide)), q_if_t ⟨rfl, m, by omega, h, rfl⟩]
  · rw [ww_u2n c1]
    by_cases c2 : k = 10 ∧ i = m
    · obtain ⟨rfl, rfl⟩ := c2
      rw [ww_u2s]
      exact (q_if_t ⟨rfl, by omega, h⟩).symm
    · rw [ww_u2n c2]
      have e1 : (k = 10 ∧ i < m + 1 ∧ q_hit S v i) ↔ (k = 10 ∧ i < m ∧ q_hit S v i) := ⟨fun z => ⟨z.1, by
        have : i ≠ m := fun y => c2 ⟨z.1, y⟩
        omega, z.2.2⟩, fun z => ⟨z.1, by omega, z.2.2⟩⟩
      have e2 : (k = 11 ∧ ∃ q, q < m + 1 ∧ q_hit S v q ∧ q_hd (S 5) 5 q = i) ↔ (k = 11 ∧ ∃ q, q < m ∧ q_hit S v q ∧ q_hd (S 5) 5 q = i) := by
        constructor
        · rintro ⟨z, q, h1, h2, h3⟩
          have : q ≠ m := fun y => c1 ⟨z, by rw [← h3, y]⟩
          exact ⟨z, q, by omega, h2, h3⟩
        · rintro ⟨z, q, h1, h2, h3⟩
          exact ⟨z, q, by omega, h2, h3⟩
      unfold q_rc
      rw [q_if_cg e1, q_if_cg e2]
theorem q_ws_us {S : Nat → Nat → Int32} {c h : Int32} {hi : Prop} : ∀ {n : Nat}, q_ws (q_us S 0 c) h hi n = q_ws S h hi n
  | 0 => rfl
  | n + 1 => by
    show q_if ((S 5 n = h ∧ S 2 n = 3) ∧ (hi ∨ q_ws (q_us S 0 c) h hi n = -1)) (nI n) (q_ws (q_us S 0 c) h hi n) = q_if ((S 5 n = h ∧ S 2 n = 3) ∧ (hi ∨ q_ws S h hi n = -1)) (nI n) (q_ws S h hi n)
    rw [q_ws_us]
theorem q_G_rc {S : Nat → Nat → Int32} {n m : Nat} {v : Int32} (h : q_G S n) : q_G (q_rc S v m) n := by
  refine q_G_r h ?_ (q_rc_k (by decide)) (q_rc_k (by decide)) ?_ ?_ ?_ ?_ ?_
  · rw [q_rc_k (by decide)]
  · intro i; rw [q_rc_k (by decide)]; exact h.2.2.2.1 i
  · intro i
    unfold q_rc
    by_cases c : (10 : Nat) = 10 ∧ i < m ∧ q_hit S v i
    · rw [q_if_t c]; exact Or.inr rfl
    · rw [q_if_f c, q_if_f (fun z => absurd z.1 (by decide))]; exact h.2.2.2.2.1 i
  · intro i
    unfold q_rc
    rw [q_if_f (fun z => absurd z.1 (by decide))]
    by_cases c : (11 : Nat) = 11 ∧ ∃ q, q < m ∧ q_hit S v q ∧ q_hd (S 5) 5 q = i
    · rw [q_if_t c]; exact Or.inl rfl
    · rw [q_if_f c]; exact h.2.2.2.2.2.1 i
  · intro i; rw [q_rc_k (by decide)]; exact h.2.2.2.2.2.2.1 i
  · intro i; rw [q_rc_k (by decide)]; exact h.2.2.2.2.2.2.2 i
section WWY
variable {g : ww_G} {M M1 : ww_M} {x : Nat} {ar : Nat → Nat} {n w t : Nat} {S S1 : Nat → Nat → Int32} {v : Int32} {Q : Option Value → ww_M → Prop}
/-! turn -/
def q_true (S : Nat → Nat → Int32) (a : Nat) : Nat → Nat → Int32 := ww_u2 (ww_u2 S 13 a (S 13 a - 2 * (300 - S 14 a))) 14 a 300
def q_turnM (S : Nat → Nat → Int32) (a z : Nat) : Int32 := if S 13 z ≤ S 13 a then S 13 z else S 13 a
def q_turn2 (S : Nat → Nat → Int32) (a z : Nat) : Nat → Nat → Int32 := ww_u2 (ww_u2 S 13 a (q_turnM S a z)) 13 z (q_turnM S a z)
/-- the wheelsets a and z trued and made alike -/
def q_turn (S : Nat → Nat → Int32) (a z : Nat) : Nat → Nat → Int32 := q_turn2 (q_true (q_true S a) z) a z
def q_turnV (S : Nat → Nat → Int32) (a z : Nat) : Int32 := 2 * (300 - S 14 a) + 2 * (300 - q_true S a 14 z) + (q_true (q_true S a) z 13 a - q_turnM (q_true (q_true S a) z) a z + q_true (q_true S a) z 13 z - q_turnM (q_true (q_true S a) z) a z)
def q_turnC (S : Nat → Nat → Int32) (n p : Nat) : Prop := ¬ nI (q_inK S n (nI p) 3) < 2 ∧ ¬ q_bound S p
end WWY
/-! ===== the night: comes, plans ===== -/
def q_wq (S : Nat → Nat → Int32) (i : Nat) : Nat := (S 27 i).toNatClampNeg
/-- w trains wait -/
def q_W (S : Nat → Nat → Int32) (n w : Nat) : Prop := S 26 0 = nI w ∧ w ≤ 8 ∧ ∀ i, i < w → q_wq S i < n ∧ S 27 i = nI (q_wq S i)
theorem q_div3 {a : Nat} (h : a < 2 ^ 30) : nI a / 3 = nI (a / 3) := by
  rw [ww_eq, Int32.toInt_div, nI_toInt (by omega), nI_toInt (by omega), show (3 : Int32).toInt = 3 from rfl, Int.tdiv_eq_ediv_of_nonneg (by omega), Int.bmod_eq_of_le (by omega) (by omega)]
  omega
theorem q_rem3 {a : Nat} (h : a < 2 ^ 30) : nI a - nI a / 3 * 3 = nI (a % 3) := by
  have e : (nI (a / 3) * 3).toInt = ((a / 3 : Nat) : Int) * 3 := by
    rw [Int32.toInt_mul, nI_toInt (by omega), show (3 : Int32).toInt = 3 from rfl, Int.bmod_eq_of_le (by omega) (by omega)]
  rw [q_div3 h, ww_eq, Int32.toInt_sub, e, nI_toInt (by omega), nI_toInt (by omega), Int.bmod_eq_of_le (by omega) (by omega)]
  omega
theorem q_mul3 {a : Nat} (h : a < 2 ^ 29) : nI a * 3 = nI (3 * a) := by
  rw [ww_eq, Int32.toInt_mul, nI_toInt (by omega), nI_toInt (by omega), show (3 : Int32).toInt = 3 from rfl, Int.bmod_eq_of_le (by omega) (by omega)]
  omega
section WWZ
variable {g : ww_G} {M M1 : ww_M} {x : Nat} {ar : Nat → Nat} {n w t : Nat} {S S1 : Nat → Nat → Int32} {v : Int32} {Q : Option Value → ww_M → Prop}
def q_comesA (S : Nat → Nat → Int32) (w t : Nat) : Prop := w < 8 ∧ ¬ q_wait S w (nI t) ∧ S 12 t = 0 ∧ ¬ S 5 t = -2
def q_comesC (S : Nat → Nat → Int32) (w t : Nat) (v : Int32) : Prop := q_comesA S w t ∧ ∀ j, j < w → ¬ S 28 (q_wq S j) = v
def q_comes (S : Nat → Nat → Int32) (w t : Nat) (v : Int32) : Nat → Nat → Int32 := q_us (ww_u2 (ww_u2 S 27 w (nI t)) 28 t v) 26 (nI (w + 1))
end WWZ
/-! ===== plans: the moves of one assignment ===== -/
def q_inv (S : Nat → Nat → Int32) (i j : Nat) : Prop := S 30 i = S 30 j ∧ i < j ∧ S 28 (q_wq S i) < S 28 (q_wq S j)
noncomputable def q_roadN (S : Nat → Nat → Int32) (w i : Nat) : Nat := q_cnt (fun j => S 30 i = S 30 j) w
noncomputable def q_invN (S : Nat → Nat → Int32) (w i : Nat) : Nat := q_cnt (fun j => q_inv S i j) w
def q_sum (f : Nat → Nat) : Nat → Nat
  | 0 => 0
  | n + 1 => q_sum f n + f n
theorem q_sum_le {f : Nat → Nat} {b : Nat} (h : ∀ i, f i ≤ b) : ∀ n, q_sum f n ≤ n * b
  | 0 => by show 0 ≤ _; omega
  | n + 1 => by
    have h1 := q_sum_le h n
    have h2 := h n
    show q_sum f n + f n ≤ (n + 1) * b
    rw [Nat.succ_mul]
    omega
theorem q_sum_cg {f k : Nat → Nat} : ∀ {n : Nat}, (∀ i, i < n → f i = k i) → q_sum f n = q_sum k n
  | 0, _ => rfl
  | n + 1, h => by
    show q_sum f n + f n = q_sum k n + k n
    rw [q_sum_cg (fun i hi => h i (by omega)), h n (by omega)]
noncomputable def q_mo (S : Nat → Nat → Int32) (w : Nat) : Int32 := q_if (∃ i, i < w ∧ 4 < q_roadN S w i) (-1) (nI (q_sum (q_invN S w) w))
theorem q_mo_cg {S S' : Nat → Nat → Int32} {w : Nat} (h : ∀ i, i < w → S' 30 i = S 30 i ∧ S' 28 (q_wq S' i) = S 28 (q_wq S i)) : q_mo S' w = q_mo S w := by
  have e1 : ∀ i, i < w → q_roadN S' w i = q_roadN S w i := fun i hi => q_cnt_cg (fun j hj => by rw [(h i hi).1, (h j hj).1])
  have e2 : q_sum (q_invN S' w) w = q_sum (q_invN S w) w := q_sum_cg (fun i hi => q_cnt_cg (fun j hj => by
    unfold q_inv
    rw [(h i hi).1, (h j hj).1, (h i hi).2, (h j hj).2]))
  unfold q_mo
  rw [e2]
  refine q_if_cg ⟨fun ⟨i, hi, z⟩ => ⟨i, hi, by rw [← e1 i hi]; exact z⟩, fun ⟨i, hi, z⟩ => ⟨i, hi, by rw [e1 i hi]; exact z⟩⟩
section WWA
variable {g : ww_G} {M M1 : ww_M} {x : Nat} {ar : Nat → Nat} {n w t : Nat} {S S1 : Nat → Nat → Int32} {v : Int32} {Q : Option Value → ww_M → Prop}
end WWA
/-! ===== plans: all of them ===== -/
/-- the road of the i-th train in assignment c -/
def q_dg (w c i : Nat) : Nat := c / 3 ^ (w - 1 - i) % 3
noncomputable def q_wm (S : Nat → Nat → Int32) (w c m : Nat) : Nat → Nat → Int32 := fun k i => q_if (k = 30 ∧ m ≤ i ∧ i < w) (nI (q_dg w c i)) (S k i)
theorem q_wm_k {S : Nat → Nat → Int32} {w c m k : Nat} (h : k ≠ 30) : q_wm S w c m k = S k := by
  funext i
  exact q_if_f (fun z => h z.1)
theorem q_wm_w {S : Nat → Nat → Int32} {w c : Nat} : q_wm S w c w = S := by
  funext k i
  exact q_if_f (fun z => by omega)
theorem q_wm_s {S : Nat → Nat → Int32} {w c m : Nat} (h : m < w) : ww_u2 (q_wm S w c (m + 1)) 30 m (nI (q_dg w c m)) = q_wm S w c m := by
  funext k i
  by_cases e : k = 30 ∧ i = m
  · obtain ⟨rfl, rfl⟩ := e
    rw [ww_u2s]
    exact (q_if_t ⟨rfl, Nat.le_refl _, h⟩).symm
  · rw [ww_u2n e]
    refine q_if_cg ⟨fun z => ⟨z.1, by omega, z.2.2⟩, fun z => ⟨z.1, ?_, z.2.2⟩⟩
    have : i ≠ m := fun y => e ⟨z.1, y⟩
    omega
noncomputable def q_cp (S : Nat → Nat → Int32) (j : Nat) : Nat → Nat → Int32 := fun k i => q_if (k = 29 ∧ i < j) (S 30 i) (S k i)
theorem q_cp_k {S : Nat → Nat → Int32} {j k : Nat} (h : k ≠ 29) : q_cp S j k = S k := by
  funext i
  exact q_if_f (fun z => h z.1)
theorem q_cp_0 {S : Nat → Nat → Int32} : q_cp S 0 = S := by
  funext k i
  exact q_if_f (fun z => by omega)
theorem q_cp_s {S : Nat → Nat → Int32} {j : Nat} : ww_u2 (q_cp S j) 29 j (S 30 j) = q_cp S (j + 1) := by
  funext k i
  by_cases e : k = 29 ∧ i = j
  · obtain ⟨rfl, rfl⟩ := e
    rw [ww_u2s]
    exact (q_if_t ⟨rfl, by omega⟩).symm
  · rw [ww_u2n e]
    refine q_if_cg ⟨fun z => ⟨z.1, by omega⟩, fun z => ⟨z.1, ?_⟩⟩
    have : i ≠ j := fun y => e ⟨z.1, y⟩
    omega
def q_opt (w : Nat) (o : Option Nat) (v : Int32) (i : Nat) : Int32 := match o with
  | none => v
  | some c => nI (q_dg w c i)
/-- best in row 29, the last tried in row 30 -/
noncomputable def q_pl (S : Nat → Nat → Int32) (w : Nat) (o l : Option Nat) : Nat → Nat → Int32 := fun k i => q_if (k = 29 ∧ i < w) (q_opt w o (S k i) i) (q_if (k = 30 ∧ i < w) (q_opt w l (S k i) i) (S k i))
theorem q_pl_k {S : Nat → Nat → Int32} {w k : Nat} {o l : Option Nat} (h : k ≠ 29 ∧ k ≠ 30) : q_pl S w o l k = S k := by
  funext i
  unfold q_pl
  rw [q_if_f (fun z => h.1 z.1), q_if_f (fun z => h.2 z.1)]
theorem q_pl_0 {S : Nat → Nat → Int32} {w : Nat} : q_pl S w none none = S := by
  funext k i
  unfold q_pl
  by_cases c1 : k = 29 ∧ i < w
  · rw [q_if_t c1]; rfl
  · rw [q_if_f c1]
    by_cases c2 : k = 30 ∧ i < w
    · rw [q_if_t c2]; rfl
    · rw [q_if_f c2]
theorem q_pl_w {S : Nat → Nat → Int32} {w c : Nat} {o l : Option Nat} : q_wm (q_pl S w o l) w c 0 = q_pl S w o (some c) := by
  funext k i
  unfold q_wm q_pl
  by_cases c2 : k = 30 ∧ i < w
  · rw [q_if_t ⟨c2.1, Nat.zero_le _, c2.2⟩, q_if_f (fun z => by omega), q_if_t c2]; rfl
  · rw [q_if_f (P := k = 30 ∧ 0 ≤ i ∧ i < w) (fun z => c2 ⟨z.1, z.2.2⟩), q_if_f c2, q_if_f c2]
theorem q_pl_c {S : Nat → Nat → Int32} {w c : Nat} {o : Option Nat} : q_cp (q_pl S w o (some c)) w = q_pl S w (some c) (some c) := by
  funext k i
  unfold q_cp q_pl
  by_cases c1 : k = 29 ∧ i < w
  · rw [q_if_t c1, q_if_t c1, q_if_f (fun z => absurd z.1 (by decide)), q_if_t ⟨rfl, c1.2⟩]; rfl
  · rw [q_if_f c1, q_if_f c1, q_if_f c1]
/-- the moves of assignment c; -1 if a road is too short -/
noncomputable def q_cost (S : Nat → Nat → Int32) (w c : Nat) : Int32 := q_mo (q_wm S w c 0) w
theorem q_cost_e {S : Nat → Nat → Int32} {w c : Nat} {o : Option Nat} : q_mo (q_pl S w o (some c)) w = q_cost S w c := by
  refine q_mo_cg (fun i hi => ⟨?_, ?_⟩)
  · unfold q_pl q_wm
    rw [q_if_f (fun z => absurd z.1 (by decide)), q_if_t ⟨rfl, hi⟩, q_if_t ⟨rfl, Nat.zero_le _, hi⟩]; rfl
  · unfold q_wq
    rw [q_pl_k (by decide), q_pl_k (by decide), q_wm_k (by decide), q_wm_k (by decide)]
/-- the first of the best below c -/
noncomputable def q_bst (S : Nat → Nat → Int32) (w : Nat) : Nat → Option Nat
  | 0 => none
  | c + 1 => q_if (q_cost S w c = -1) (q_bst S w c) (match q_bst S w c with
    | none => some c
    | some b => q_if (q_cost S w c < q_cost S w b) (some c) (some b))
noncomputable def q_bc (S : Nat → Nat → Int32) (w : Nat) : Option Nat → Int32
  | none => -1
  | some b => q_cost S w b
def q_lst : Nat → Option Nat
  | 0 => none
  | c + 1 => some c
theorem q_bst_1 {S : Nat → Nat → Int32} {w c : Nat} (h : q_cost S w c = -1) : q_bst S w (c + 1) = q_bst S w c := q_if_t h
theorem q_bst_2 {S : Nat → Nat → Int32} {w c : Nat} (h : ¬ q_cost S w c = -1) (hb : q_bst S w c = none) : q_bst S w (c + 1) = some c := by
  refine (q_if_f h).trans ?_
  rw [hb]
theorem q_bst_3 {S : Nat → Nat → Int32} {w c b : Nat} (h : ¬ q_cost S w c = -1) (hb : q_bst S w c = some b) (hl : q_cost S w c < q_cost S w b) : q_bst S w (c + 1) = some c := by
  refine (q_if_f h).trans ?_
  rw [hb]
  exact q_if_t hl
theorem q_bst_4 {S : Nat → Nat → Int32} {w c b : Nat} (h : ¬ q_cost S w c = -1) (hb : q_bst S w c = some b) (hl : ¬ q_cost S w c < q_cost S w b) : q_bst S w (c + 1) = some b := by
  refine (q_if_f h).trans ?_
  rw [hb]
  exact q_if_f hl
theorem q_bst_ne {S : Nat → Nat → Int32} {w b : Nat} : ∀ {c : Nat}, q_bst S w c = some b → ¬ q_cost S w b = -1 ∧ b < c
  | 0, h => by cases h
  | c + 1, h => by
    by_cases h1 : q_cost S w c = -1
    · rw [q_bst_1 h1] at h
      have := q_bst_ne h
      exact ⟨this.1, by omega⟩
    · cases hb : q_bst S w c with
      | none =>
        rw [q_bst_2 h1 hb] at h
        cases h
        exact ⟨h1, by omega⟩
      | some b' =>
        by_cases hl : q_cost S w c < q_cost S w b'
        · rw [q_bst_3 h1 hb hl] at h
          cases h
          exact ⟨h1, by omega⟩
        · rw [q_bst_4 h1 hb hl] at h
          cases h
          have := q_bst_ne hb
          exact ⟨this.1, by omega⟩
theorem q_pow3 {w : Nat} (h : w ≤ 8) : 3 ^ w ≤ 6561 := Nat.le_trans (Nat.pow_le_pow_right (by decide) h) (by decide)
section WWB
variable {g : ww_G} {M M1 : ww_M} {x : Nat} {ar : Nat → Nat} {n w t : Nat} {S S1 : Nat → Nat → Int32} {v : Int32} {Q : Option Value → ww_M → Prop}
/-- the best plan's moves, and the plan -/
noncomputable def q_pb (S : Nat → Nat → Int32) (w : Nat) : Int32 := q_bc S w (q_bst S w (3 ^ w))
noncomputable def q_plans (S : Nat → Nat → Int32) (w : Nat) : Nat → Nat → Int32 := q_pl S w (q_bst S w (3 ^ w)) (q_lst (3 ^ w))
end WWB
/-! ===== plan, road, night, out ===== -/
theorem q_mul {a b : Nat} (h : a * b < 2 ^ 30) (ha : a < 2 ^ 30) (hb : b < 2 ^ 30) : nI a * nI b = nI (a * b) := by
  rw [ww_eq, Int32.toInt_mul, nI_toInt (by omega), nI_toInt (by omega), nI_toInt (by omega), ← Int.natCast_mul, Int.bmod_eq_of_le (by omega) (by omega)]
theorem q_4 {d k : Nat} (hd : d < 1000) (hk : k < 1000) : 4 * nI d + nI k = nI (4 * d + k) := by
  rw [show (4 : Int32) = nI 4 from by decide, q_mul (by omega) (by omega) (by omega), nI_add]
def q_rn (S : Nat → Nat → Int32) (r : Nat) : Nat := (S 31 r).toNatClampNeg
def q_rq (S : Nat → Nat → Int32) (r k : Nat) : Nat := (S 32 (4 * r + k)).toNatClampNeg
/-- the roads hold trains -/
def q_Rd (S : Nat → Nat → Int32) (n : Nat) : Prop := ∀ r, r < 3 → q_rn S r ≤ 4 ∧ S 31 r = nI (q_rn S r) ∧ ∀ k, k < q_rn S r → q_rq S r k < n ∧ S 32 (4 * r + k) = nI (q_rq S r k)
section WWC
variable {g : ww_G} {M M1 : ww_M} {x : Nat} {ar : Nat → Nat} {n w t : Nat} {S S1 : Nat → Nat → Int32} {v : Int32} {Q : Option Value → ww_M → Prop}
/-! night -/
/-- the first i trains stand, by d -/
noncomputable def q_ns (S : Nat → Nat → Int32) (d : Nat → Nat) : Nat → Nat → Nat → Int32
  | 0 => S
  | i + 1 => ww_u2 (ww_u2 (ww_u2 (q_ns S d i) 32 (4 * d i + q_cnt (fun j => d j = d i) i) (S 27 i)) 31 (d i) (nI (q_cnt (fun j => d j = d i) i + 1))) 12 (q_wq S i) 1
theorem q_ns_k {S : Nat → Nat → Int32} {d : Nat → Nat} {k : Nat} (h : k ≠ 32 ∧ k ≠ 31 ∧ k ≠ 12) : ∀ i, q_ns S d i k = S k
  | 0 => rfl
  | i + 1 => by
    funext j
    show ww_u2 (ww_u2 (ww_u2 (q_ns S d i) 32 _ _) 31 _ _) 12 _ _ k j = _
    rw [ww_u2n (fun z => h.2.2 z.1), ww_u2n (fun z => h.2.1 z.1), ww_u2n (fun z => h.1 z.1), q_ns_k h i]
theorem q_ns_31 {S : Nat → Nat → Int32} {d : Nat → Nat} {r : Nat} (h : S 31 r = 0) : ∀ i, q_ns S d i 31 r = nI (q_cnt (fun j => d j = r) i)
  | 0 => h
  | i + 1 => by
    show ww_u2 (ww_u2 (ww_u2 (q_ns S d i) 32 _ _) 31 _ _) 12 _ _ 31 r = _
    rw [ww_u2n (fun z => absurd z.1 (by decide))]
    by_cases c : d i = r
    · subst c
      rw [ww_u2s, q_cnt_s (P := fun j => d j = d i) rfl]
    · rw [ww_u2n (fun z => c z.2.symm), ww_u2n (fun z => absurd z.1 (by decide)), q_ns_31 h i, q_cnt_n (P := fun j => d j = r) c]
def q_free (S : Nat → Nat → Int32) : Prop := q_rn S 0 + q_rn S 1 + q_rn S 2 = 0
end WWC
section WWD
variable {g : ww_G} {M M1 : ww_M} {x : Nat} {ar : Nat → Nat} {n w t : Nat} {S S1 : Nat → Nat → Int32} {v : Int32} {Q : Option Value → ww_M → Prop}
theorem q_W_pl (hW : q_W S n w) : q_W (q_plans S w) n w := by
  refine ⟨(congrFun (q_pl_k (by decide)) 0).trans hW.1, hW.2.1, fun i hi => ?_⟩
  have e : q_plans S w 27 = S 27 := q_pl_k (by decide)
  unfold q_wq
  rw [e]
  exact hW.2.2 i hi
/-! out: the earliest of the trains on the roads -/
def q_tm (S : Nat → Nat → Int32) (r k : Nat) : Int32 := S 28 (q_rq S r k)
def q_bet (S : Nat → Nat → Int32) (o : Option (Nat × Nat)) (r k : Nat) : Prop := match o with
  | none => True
  | some (r', k') => q_tm S r k < q_tm S r' k'
noncomputable def q_sc (S : Nat → Nat → Int32) (o : Option (Nat × Nat)) (r : Nat) : Nat → Option (Nat × Nat)
  | 0 => o
  | k + 1 => q_if (q_bet S (q_sc S o r k) r k) (some (r, k)) (q_sc S o r k)
noncomputable def q_scR (S : Nat → Nat → Int32) : Nat → Option (Nat × Nat)
  | 0 => none
  | r + 1 => q_sc S (q_scR S r) r (q_rn S r)
def q_o1 : Option (Nat × Nat) → Int32
  | none => -1
  | some (r, _) => nI r
def q_o2 : Option (Nat × Nat) → Int32
  | none => 0
  | some (_, k) => nI k
def q_in3 (S : Nat → Nat → Int32) (o : Option (Nat × Nat)) : Prop := ∀ r k, o = some (r, k) → r < 3 ∧ k < q_rn S r
theorem q_sc_in {S : Nat → Nat → Int32} {o : Option (Nat × Nat)} {r : Nat} (hr : r < 3) (ho : q_in3 S o) : ∀ {k : Nat}, k ≤ q_rn S r → q_in3 S (q_sc S o r k)
  | 0, _ => ho
  | k + 1, hk => by
    intro r' k' h
    by_cases c : q_bet S (q_sc S o r k) r k
    · rw [show q_sc S o r (k + 1) = some (r, k) from q_if_t c] at h
      cases h
      exact ⟨hr, by omega⟩
    · rw [show q_sc S o r (k + 1) = q_sc S o r k from q_if_f c] at h
      exact q_sc_in hr ho (by omega) r' k' h
theorem q_scR_in {S : Nat → Nat → Int32} : ∀ {r : Nat}, r ≤ 3 → q_in3 S (q_scR S r)
  | 0, _ => fun r k h => by cases h
  | r + 1, hr => q_sc_in (by omega) (q_scR_in (by omega)) (Nat.le_refl _)
/-- the trains behind the k-th move up: i of them have -/
noncomputable def q_sh (S : Nat → Nat → Int32) (r k i : Nat) : Nat → Nat → Int32 := fun κ j => q_if (κ = 32 ∧ 4 * r + k ≤ j ∧ j < 4 * r + i) (S 32 (j + 1)) (S κ j)
theorem q_sh_k {r k i κ : Nat} (h : κ ≠ 32) : q_sh S r k i κ = S κ := by
  funext j
  exact q_if_f (fun z => h z.1)
theorem q_sh_0 {r k : Nat} : q_sh S r k k = S := by
  funext κ j
  exact q_if_f (fun z => by omega)
theorem q_sh_s {r k i : Nat} (h : k ≤ i) : ww_u2 (q_sh S r k i) 32 (4 * r + i) (S 32 (4 * r + i + 1)) = q_sh S r k (i + 1) := by
  funext κ j
  by_cases e : κ = 32 ∧ j = 4 * r + i
  · obtain ⟨rfl, rfl⟩ := e
    rw [ww_u2s]
    exact (q_if_t ⟨rfl, by omega, by omega⟩).symm
  · rw [ww_u2n e]
    refine q_if_cg ⟨fun z => ⟨z.1, z.2.1, by omega⟩, fun z => ⟨z.1, z.2.1, ?_⟩⟩
    have : j ≠ 4 * r + i := fun y => e ⟨z.1, y⟩
    omega
/-- the k-th of road r has gone -/
noncomputable def q_out (S : Nat → Nat → Int32) (r k : Nat) : Nat → Nat → Int32 := ww_u2 (q_sh (ww_u2 S 12 (q_rq S r k) 0) r k (q_rn S r - 1)) 31 r (nI (q_rn S r - 1))
end WWD
/-! ===== the first operations once more, over the content ===== -/
section WWE
variable {g : ww_G} {M M1 : ww_M} {x : Nat} {ar : Nat → Nat} {n w t : Nat} {S S1 : Nat → Nat → Int32} {v : Int32}
def q_part (S : Nat → Nat → Int32) (n : Nat) (k e d : Int32) : Nat → Nat → Int32 := q_us (ww_u2 (ww_u2 (ww_u2 (ww_u2 (ww_u2 (ww_u2 (q_us S 0 0) 2 n k) 3 n e) 4 n d) 5 n (-1)) 13 n 9000) 14 n 300) 1 (nI (n + 1))
def q_limits (S : Nat → Nat → Int32) (k : Nat) (e d f : Int32) : Nat → Nat → Int32 := ww_u2 (ww_u2 (ww_u2 (q_us S 0 0) 20 k e) 21 k d) 22 k f
def q_moves (S : Nat → Nat → Int32) (p w : Nat) (to : Int32) : Nat → Nat → Int32 := q_us (ww_u2 (ww_u2 (ww_u2 S 5 p to) 24 w (nI p)) 25 w to) 23 (nI (w + 1))
def q_fit (S : Nat → Nat → Int32) (w p h : Nat) : Nat → Nat → Int32 := ww_u2 (q_moves (q_us S 0 0) p w (nI h)) 11 (q_hd (S 5) 5 h) 0
def q_take (S : Nat → Nat → Int32) (w p : Nat) : Nat → Nat → Int32 := q_moves (ww_u2 (q_us S 0 0) 11 (q_hd (S 5) 5 p) 0) p w (-1)
end WWE
