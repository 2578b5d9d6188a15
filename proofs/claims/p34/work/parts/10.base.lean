/-! ===== small things that every walk uses ===== -/
def ww_ret (v0 : Option Value) (M0 : ww_M) : Option Value → ww_M → Prop := fun v M' => v = v0 ∧ M0 = M'
def ww_no : String → ww_M → Prop := fun _ _ => False
def ww_nr : Option Value → ww_M → Prop := fun _ _ => False
def ww_th (E0 : String) (M0 : ww_M) : String → ww_M → Prop := fun E M' => E = E0 ∧ M0 = M'
def ww_is (σ : List Nat × (Nat → Nat) × (Nat → Nat)) (a κ : Nat) : Prop := a ∈ σ.1 ∧ σ.2.1 a = κ
def ww_c1 : List Value → Prop
  | [] => True
  | v :: t => v.category = 1 ∧ ww_c1 t
theorem ww_c1_all : ∀ (av : List Value) (i : Nat), ww_c1 av → ∀ q ∈ lv_args i av, q.2.category = 1
  | [], _, _, q, hq => by cases hq
  | v :: t, i, h, q, hq => by
    unfold lv_args at hq
    rcases List.mem_cons.mp hq with rfl | hq
    · exact h.1
    · exact ww_c1_all t _ h.2 q hq
theorem ww_ent {g : ww_G} {Y : ww_Yd} {d mc ms : Nat} {av : List Value} {M : ww_M} {Q : Option Value → ww_M → Prop} {X : String → ww_M → Prop} (hn : plainName Y.1.cls = true) (hlen : (lg_sl av).length ≤ Y.2.2.1) (hc : ww_c1 av) (k : ww_A g Y d mc ms M 0 (lv_args 0 av) [] Q X) : ww_C g Y d mc ms av M Q X := ww_enter hn hlen (ww_c1_all av 0 hc) k
theorem ww_subk {g : ww_G} {Y : ww_Yd} {d kc ks : Nat} {M : ww_M} {pc : Nat} {lv lv2 : List (Nat × Value)} {st : List Value} {Q : Option Value → ww_M → Prop} {X : String → ww_M → Prop} (k : ww_A g Y d kc ks M pc lv2 st Q X) (h : ww_le lv2 lv) : ww_A g Y d kc ks M pc lv st Q X := ww_sub h k
theorem ww_top {g : ww_G} {Y : ww_Yd} {d kc ks : Nat} {M : ww_M} {pc : Nat} {lv : List (Nat × Value)} {st : List Value} {Q : Option Value → ww_M → Prop} {X : String → ww_M → Prop} {v : Int32} (v' : Int32) (e : v = v') (k : ww_A g Y d kc ks M pc lv (.int v' :: st) Q X) : ww_A g Y d kc ks M pc lv (.int v :: st) Q X := by rw [e]; exact k
theorem ww_pc {g : ww_G} {Y : ww_Yd} {d kc ks : Nat} {M : ww_M} {pc : Nat} {lv : List (Nat × Value)} {st : List Value} {Q : Option Value → ww_M → Prop} {X : String → ww_M → Prop} (pc' : Nat) (e : pc = pc') (k : ww_A g Y d kc ks M pc' lv st Q X) : ww_A g Y d kc ks M pc lv st Q X := by rw [e]; exact k
theorem ww_mem {g : ww_G} {Y : ww_Yd} {d kc ks : Nat} {M : ww_M} {pc : Nat} {lv : List (Nat × Value)} {st : List Value} {Q : Option Value → ww_M → Prop} {X : String → ww_M → Prop} (M' : ww_M) (e : M = M') (k : ww_A g Y d kc ks M' pc lv st Q X) : ww_A g Y d kc ks M pc lv st Q X := by rw [e]; exact k
/-- a choice by P, decided or not -/
noncomputable def q_if {α : Type} (P : Prop) (a b : α) : α := @ite α P (Classical.propDecidable P) a b
theorem q_if_t {α : Type} {P : Prop} {a b : α} (h : P) : q_if P a b = a := @if_pos P (Classical.propDecidable P) h α a b
theorem q_if_f {α : Type} {P : Prop} {a b : α} (h : ¬ P) : q_if P a b = b := @if_neg P (Classical.propDecidable P) h α a b
theorem q_if_cg {α : Type} {P R : Prop} {a b : α} (h : P ↔ R) : q_if P a b = q_if R a b := by rw [propext h]
/-- the truth of P as an int -/
noncomputable def ww_b (P : Prop) : Int32 := q_if P 1 0
theorem ww_b_t {P : Prop} (h : P) : ww_b P = 1 := q_if_t h
theorem ww_b_f {P : Prop} (h : ¬ P) : ww_b P = 0 := q_if_f h
theorem ww_b_ne {P : Prop} (h : ¬ ww_b P = 0) : P := Classical.byContradiction fun z => h (ww_b_f z)
theorem ww_b_eq {P : Prop} (h : ww_b P = 0) : ¬ P := fun z => by rw [ww_b_t z] at h; exact absurd h (by decide)
theorem ww_b_cg {P R : Prop} (h : P ↔ R) : ww_b P = ww_b R := by rw [propext h]
theorem ww_b_nar {P : Prop} : narrow .boolean (.int (ww_b P)) = .int (ww_b P) := by
  by_cases h : P
  · rw [ww_b_t h]; rfl
  · rw [ww_b_f h]; rfl
theorem ww_b_fit {P : Prop} : fits .boolean (.int (ww_b P)) = true := by
  by_cases h : P
  · rw [ww_b_t h]; rfl
  · rw [ww_b_f h]; rfl
theorem ww_b_vn {P : Prop} : vp_nar .boolean (ww_b P) = ww_b P := by
  by_cases h : P
  · rw [ww_b_t h]; rfl
  · rw [ww_b_f h]; rfl
theorem ww_lt {x y : Int32} : x < y ↔ x.toInt < y.toInt := Int32.lt_iff_toInt_lt
theorem ww_le' {x y : Int32} : x ≤ y ↔ x.toInt ≤ y.toInt := Int32.le_iff_toInt_le
theorem ww_eq {x y : Int32} : x = y ↔ x.toInt = y.toInt := Int32.toInt_inj.symm
theorem ww_nat {p : Int32} {n : Nat} (h0 : 0 ≤ p.toInt) (h1 : p.toInt < n) (hn : n < 2 ^ 31) : ∃ j : Nat, j < n ∧ p = nI j := by
  refine ⟨p.toInt.toNat, by omega, ?_⟩
  rw [ww_eq, nI_toInt (by omega)]
  omega
