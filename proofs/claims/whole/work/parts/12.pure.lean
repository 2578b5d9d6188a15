/-! ===== the mathematics of the state: S k i is the model's slot k at i ===== -/
noncomputable def q_cnt (P : Nat → Prop) : Nat → Nat
  | 0 => 0
  | n + 1 => q_cnt P n + q_if (P n) 1 0
theorem q_cnt_le (P : Nat → Prop) : ∀ n, q_cnt P n ≤ n
  | 0 => Nat.le_refl _
  | n + 1 => by
    have h := q_cnt_le P n
    unfold q_cnt
    by_cases hp : P n
    · rw [q_if_t hp]; omega
    · rw [q_if_f hp]; omega
theorem q_cnt_s {P : Nat → Prop} {n : Nat} (h : P n) : q_cnt P (n + 1) = q_cnt P n + 1 := by
  show q_cnt P n + q_if (P n) 1 0 = _
  rw [q_if_t h]
theorem q_cnt_n {P : Nat → Prop} {n : Nat} (h : ¬ P n) : q_cnt P (n + 1) = q_cnt P n := by
  show q_cnt P n + q_if (P n) 1 0 = _
  rw [q_if_f h]; rfl
theorem q_cnt_cg {P R : Nat → Prop} : ∀ {n : Nat}, (∀ p, p < n → (P p ↔ R p)) → q_cnt P n = q_cnt R n
  | 0, _ => rfl
  | n + 1, h => by
    show q_cnt P n + q_if (P n) 1 0 = q_cnt R n + q_if (R n) 1 0
    rw [q_cnt_cg (fun p hp => h p (by omega)), q_if_cg (h n (by omega))]
/-- one of the first n is so -/
def q_any (P : Nat → Prop) (n : Nat) : Prop := ∃ k, k < n ∧ P k
theorem q_any_0 {P : Nat → Prop} : ¬ q_any P 0 := fun ⟨k, h, _⟩ => by omega
theorem q_any_s {P : Nat → Prop} {n : Nat} : q_any P (n + 1) ↔ q_any P n ∨ P n := by
  constructor
  · rintro ⟨k, h1, h2⟩
    by_cases h : k = n
    · subst h; exact Or.inr h2
    · exact Or.inl ⟨k, by omega, h2⟩
  · rintro (⟨k, h1, h2⟩ | h)
    · exact ⟨k, by omega, h2⟩
    · exact ⟨n, by omega, h⟩
/-- the first one from i on, of m -/
noncomputable def q_ff (P : Nat → Prop) : Nat → Nat → Option Nat
  | 0, _ => none
  | m + 1, i => q_if (P i) (some i) (q_ff P m (i + 1))
theorem q_ff_t {P : Nat → Prop} {m i : Nat} (h : P i) : q_ff P (m + 1) i = some i := q_if_t h
theorem q_ff_f {P : Nat → Prop} {m i : Nat} (h : ¬ P i) : q_ff P (m + 1) i = q_ff P m (i + 1) := q_if_f h
theorem q_ff_some {P : Nat → Prop} : ∀ {m i p : Nat}, q_ff P m i = some p → i ≤ p ∧ p < i + m ∧ P p
  | 0, _, _, h => by cases h
  | m + 1, i, p, h => by
    unfold q_ff at h
    by_cases hp : P i
    · rw [q_if_t hp] at h
      cases h
      exact ⟨Nat.le_refl _, by omega, hp⟩
    · rw [q_if_f hp] at h
      have := q_ff_some h
      exact ⟨by omega, by omega, this.2.2⟩
theorem q_ff_none {P : Nat → Prop} : ∀ {m i : Nat}, q_ff P m i = none → ∀ p, i ≤ p → p < i + m → ¬ P p
  | 0, _, _, p, h1, h2 => by omega
  | m + 1, i, h, p, h1, h2 => by
    unfold q_ff at h
    by_cases hp : P i
    · rw [q_if_t hp] at h; cases h
    · rw [q_if_f hp] at h
      by_cases e : p = i
      · subst e; exact hp
      · exact q_ff_none h p (by omega) (by omega)
theorem q_ff_cg {P R : Nat → Prop} : ∀ {m i : Nat}, (∀ p, i ≤ p → p < i + m → (P p ↔ R p)) → q_ff P m i = q_ff R m i
  | 0, _, _ => rfl
  | m + 1, i, h => by
    unfold q_ff
    have h0 := h i (Nat.le_refl _) (by omega)
    by_cases hp : P i
    · rw [q_if_t hp, q_if_t (h0.mp hp)]
    · rw [q_if_f hp, q_if_f (fun z => hp (h0.mpr z))]
      exact q_ff_cg (fun p h1 h2 => h p (by omega) (by omega))
/-- a slot's truth -/
def q_bool (S : Nat → Nat → Int32) (k : Nat) : Prop := ∀ i, S k i = 0 ∨ S k i = 1
noncomputable def q_in (S : Nat → Nat → Int32) (n : Nat) (h : Int32) : Nat := q_cnt (fun p => S 5 p = h) n
noncomputable def q_inK (S : Nat → Nat → Int32) (n : Nat) (h k : Int32) : Nat := q_cnt (fun p => S 5 p = h ∧ S 2 p = k) n
def q_places (h k : Int32) : Int32 := if h = 2 then (if k = 3 then 2 else if k = 4 then 1 else 0) else if (h = 0 ∨ h = 1) ∧ k = h + 1 then 2 else 0
def q_empty (S : Nat → Nat → Int32) (n p : Nat) : Prop := (S 2 p = 2 ∧ q_in S n (nI p) < 3) ∨ (S 2 p < 2 ∧ q_in S n (nI p) < 2)
def q_worn (S : Nat → Nat → Int32) (p : Nat) : Prop := S 2 p = 3 ∧ (S 13 p < 8500 ∨ S 14 p < 250)
def q_kd (S : Nat → Nat → Int32) (p : Nat) : Nat := (S 2 p).toNatClampNeg
def q_due (S : Nat → Nat → Int32) (p : Nat) : Prop := 0 < S 21 (q_kd S p) ∧ S 21 (q_kd S p) + S 8 p < S 7 p
def q_isw (S : Nat → Nat → Int32) (h : Int32) (p : Nat) : Prop := S 2 p = 3 ∧ ¬ S 5 p < 0 ∧ (S 5 p = h ∨ S 5 (S 5 p).toNatClampNeg = h)
noncomputable def q_lo (S : Nat → Nat → Int32) (h : Int32) : Nat → Int32
  | 0 => 1000000
  | i + 1 => q_if (q_isw S h i ∧ S 13 i < q_lo S h i) (S 13 i) (q_lo S h i)
noncomputable def q_hi (S : Nat → Nat → Int32) (h : Int32) : Nat → Int32
  | 0 => -1000000
  | i + 1 => q_if (q_isw S h i ∧ q_hi S h i < S 13 i) (S 13 i) (q_hi S h i)
def q_apart (S : Nat → Nat → Int32) (n p : Nat) : Prop := (S 2 p = 2 ∧ 20 < q_hi S (nI p) n - q_lo S (nI p) n) ∨ (S 2 p = 1 ∧ 60 < q_hi S (nI p) n - q_lo S (nI p) n)
def q_life (S : Nat → Nat → Int32) (p : Nat) : Prop := 0 < S 20 (q_kd S p) ∧ S 20 (q_kd S p) < S 6 p
/-- what bars: 1 to 7 -/
def q_bars (S : Nat → Nat → Int32) (n p r : Nat) : Prop := (r = 1 ∧ q_empty S n p) ∨ (r = 2 ∧ S 9 p = 1) ∨ (r = 3 ∧ S 10 p = 1) ∨ (r = 4 ∧ q_life S p) ∨ (r = 5 ∧ q_worn S p) ∨ (r = 6 ∧ q_apart S n p) ∨ (r = 7 ∧ q_due S p)
