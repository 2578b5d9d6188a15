/-! ===== what stays, by the kinds of things ===== -/
/-- all that M held stands in M' too, but for the fields of P and the contents of A -/
def ww_ft (M M' : ww_M) (P A : Nat → Prop) : Prop := (∀ y, y ∈ ww_L M → y ∈ ww_L M' ∧ ww_K M' y = ww_K M y ∧ ww_N M' y = ww_N M y) ∧ (∀ f y, y ∈ ww_L M → ¬ P y → f / 40 = ww_K M y → ww_I M' f y = ww_I M f y ∧ ww_R M' f y = ww_R M f y) ∧ (∀ y, y ∈ ww_L M → ¬ A y → ww_X M' y = ww_X M y ∧ ww_Y M' y = ww_Y M y ∧ ww_Z M' y = ww_Z M y)
section WWT1
variable {g : ww_G} {M M1 M2 : ww_M} {P A P2 A2 : Nat → Prop} {a e i q κ n f y : Nat}
theorem ww_ft_rf : ww_ft M M P A := ⟨fun _ h => ⟨h, rfl, rfl⟩, fun _ _ _ _ _ => ⟨rfl, rfl⟩, fun _ _ _ => ⟨rfl, rfl, rfl⟩⟩
theorem ww_ft_tr (h : ww_ft M M1 P A) (h' : ww_ft M1 M2 P2 A2) : ww_ft M M2 (fun y => P y ∨ P2 y) (fun y => A y ∨ A2 y) := by
  obtain ⟨h1, h2, h3⟩ := h
  obtain ⟨k1, k2, k3⟩ := h'
  refine ⟨fun y hy => ?_, fun f y hy hp hf => ?_, fun y hy ha => ?_⟩
  · obtain ⟨a1, a2, a3⟩ := h1 y hy
    obtain ⟨b1, b2, b3⟩ := k1 y a1
    exact ⟨b1, b2.trans a2, b3.trans a3⟩
  · obtain ⟨c1, c2, _⟩ := h1 y hy
    obtain ⟨a1, a2⟩ := h2 f y hy (fun z => hp (Or.inl z)) hf
    obtain ⟨b1, b2⟩ := k2 f y c1 (fun z => hp (Or.inr z)) (hf.trans c2.symm)
    exact ⟨b1.trans a1, b2.trans a2⟩
  · obtain ⟨a1, a2, a3⟩ := h3 y hy (fun z => ha (Or.inl z))
    obtain ⟨b1, b2, b3⟩ := k3 y (h1 y hy).1 (fun z => ha (Or.inr z))
    exact ⟨b1.trans a1, b2.trans a2, b3.trans a3⟩
theorem ww_ft_wk (h : ww_ft M M1 P A) (hp : ∀ y, y ∈ ww_L M → P y → P2 y) (ha : ∀ y, y ∈ ww_L M → A y → A2 y) : ww_ft M M1 P2 A2 := ⟨h.1, fun f y hy z => h.2.1 f y hy (fun w => z (hp y hy w)), fun y hy z => h.2.2 y hy (fun w => z (ha y hy w))⟩
theorem ww_ft_fr (h : ww_fr M M1 P A) : ww_ft M M1 P A := ⟨h.1, fun f y hy z _ => h.2.1 f y hy z, h.2.2⟩
/-- parts, wheels, limits -/
def ww_pk (M : ww_M) (y : Nat) : Prop := ww_K M y = 2 ∨ ww_K M y = 4 ∨ ww_K M y = 5
theorem ww_ft_kp (h : ww_kp M M1) : ww_ft M M1 (ww_pk M) (fun _ => False) := by
  obtain ⟨h1, h2, h3⟩ := h
  have hR : ww_R M1 = ww_R M := by unfold ww_R; rw [h3]
  have hX : ww_X M1 = ww_X M := by unfold ww_X; rw [h3]
  have hY : ww_Y M1 = ww_Y M := by unfold ww_Y; rw [h3]
  have hZ : ww_Z M1 = ww_Z M := by unfold ww_Z; rw [h3]
  have hL : ww_L M1 = ww_L M := by unfold ww_L; rw [h1]
  have hK : ww_K M1 = ww_K M := by unfold ww_K; rw [h1]
  have hN : ww_N M1 = ww_N M := by unfold ww_N; rw [h1]
  refine ⟨fun y hy => ⟨by rw [hL]; exact hy, by rw [hK], by rw [hN]⟩, fun f y hy hp hf => ⟨h2 f y ?_, by rw [hR]⟩, fun y _ _ => ⟨by rw [hX], by rw [hY], by rw [hZ]⟩⟩
  unfold ww_pk at hp
  unfold ww_wf
  cases hw : ((decide (160 ≤ f) && decide (f ≤ 175)) || (decide (177 ≤ f) && decide (f ≤ 177)) || (decide (200 ≤ f) && decide (f ≤ 203)) || (decide (80 ≤ f) && decide (f ≤ 82))) with
  | false => rfl
  | true =>
    simp only [Bool.or_eq_true, Bool.and_eq_true, decide_eq_true_eq] at hw
    exact absurd (show ww_K M y = 2 ∨ ww_K M y = 4 ∨ ww_K M y = 5 by omega) hp
theorem ww_ft_sR {v : Option Nat} (h : ww_ft M M1 P A) (hp : P a) : ww_ft M (ww_sR M1 f a v) P A := by
  refine ⟨h.1, fun f' y hy z hf => ⟨(h.2.1 f' y hy z hf).1, ?_⟩, h.2.2⟩
  rw [← (h.2.1 f' y hy z hf).2]
  exact ww_u2n (fun w => z (w.2 ▸ hp))
theorem ww_ft_sI {v : Int32} (h : ww_ft M M1 P A) (hp : P a) : ww_ft M (ww_sI M1 f a v) P A := by
  refine ⟨h.1, fun f' y hy z hf => ⟨?_, (h.2.1 f' y hy z hf).2⟩, h.2.2⟩
  rw [← (h.2.1 f' y hy z hf).1]
  exact ww_u2n (fun w => z (w.2 ▸ hp))
theorem ww_ft_cX {F : Nat → Int32} (h : ww_ft M M1 P A) (hp : A a) : ww_ft M (ww_cX M1 a F) P A := by
  refine ⟨h.1, h.2.1, fun y hy z => ⟨?_, (h.2.2 y hy z).2⟩⟩
  rw [← (h.2.2 y hy z).1]
  exact if_neg (fun (w : y = a) => z (w ▸ hp))
theorem ww_ft_nw (h : ww_ft M M1 P A) (hq : q ∉ ww_L M1) : ww_ft M (ww_nw M1 q κ n) P A := by
  refine ww_ft_wk (ww_ft_tr h (ww_ft_fr (ww_fr_nw (P := P) (A := A) ww_fr_rf hq))) (fun y _ z => z.elim id id) (fun y _ z => z.elim id id)
theorem ww_ft_in (h : ww_ft M M1 P A) (ha : ww_is M.1 a κ) : ww_is M1.1 a κ := ⟨(h.1 a ha.1).1, (h.1 a ha.1).2.1.trans ha.2⟩
theorem ww_ft_I (h : ww_ft M M1 P A) (ha : ww_is M.1 a κ) (hp : ¬ P a) (hf : f / 40 = κ) : ww_I M1 f a = ww_I M f a := (h.2.1 f a ha.1 hp (hf.trans ha.2.symm)).1
theorem ww_ft_R (h : ww_ft M M1 P A) (ha : ww_is M.1 a κ) (hp : ¬ P a) (hf : f / 40 = κ) : ww_R M1 f a = ww_R M f a := (h.2.1 f a ha.1 hp (hf.trans ha.2.symm)).2
/-! a list -/
variable {ff : Nat → Nat}
theorem ww_ls_ft (hl : ww_ls g M κ a e n ff) (h : ww_ft M M1 P A) (hp : ¬ P a) (ha : ww_is M.1 e 12 → ¬ A e) : ww_ls g M1 κ a e n ff := by
  obtain ⟨l1, l2, l3, l4⟩ := hl
  refine ⟨ww_ft_in h l1, (ww_ft_I h l1 hp rfl).trans l2, (ww_ft_R h l1 hp rfl).trans l3, ?_⟩
  rcases l4 with l4 | ⟨o1, o2, o3, o4, o5, o6⟩
  · exact Or.inl l4
  · have hN : ww_N M1 e = ww_N M e := (h.1 e o1.1).2.2
    have hY : ww_Y M1 e = ww_Y M e := (h.2.2 e o1.1 (ha o1)).2.1
    refine Or.inr ⟨ww_ft_in h o1, by rw [hN]; exact o2, by rw [hN]; exact o3, by rw [hN]; exact o4, fun i hi => by rw [hY]; exact o5 i hi, fun i y hi hy => ?_⟩
    rw [hY] at hy
    rw [hN] at hi
    obtain ⟨y1, y2⟩ := o6 i y hi hy
    exact ⟨(h.1 y y1).1, (h.1 y y1).2.1.trans y2⟩
theorem ww_ls_cg {f2 : Nat → Nat} (hl : ww_ls g M κ a e n ff) (h : ∀ i, i < n → ff i = f2 i) : ww_ls g M κ a e n f2 := by
  obtain ⟨l1, l2, l3, l4⟩ := hl
  refine ⟨l1, l2, l3, l4.imp id (fun ⟨o1, o2, o3, o4, o5, o6⟩ => ⟨o1, o2, o3, o4, fun i hi => by rw [← h i hi]; exact o5 i hi, o6⟩)⟩
end WWT1
/-! ===== the class holds the content ===== -/
/-- the parts -/
def ww_cp (g : ww_G) (M : ww_M) (c ea P W kl : Nat → Nat) (n : Nat) (S : Nat → Nat → Int32) : Prop := (ww_is M.1 (c 0) 7 ∧ ww_R M 280 (c 0) = some (c 1) ∧ ww_ls g M 4 (c 1) (ea 0) n P ∧ n ≤ 60) ∧ (ww_pf M P W kl n S ∧ ww_wa W n S) ∧ (ww_kl M (c 0) (c 9) kl ∧ ∀ i j, i < 5 → j < 5 → kl i = kl j → i = j)
/-- the log -/
def ww_cl (g : ww_G) (M : ww_M) (c ea f : Nat → Nat) (u : Nat) (E : Nat → Nat → Int32) : Prop := ww_R M 282 (c 0) = some (c 5) ∧ ww_lo g M (c 5) (c 2) (ea 1) (c 8) u f E
/-- the yard: those that wait, those that stand (z), on the roads D -/
def ww_cy (g : ww_G) (M : ww_M) (c ea P z D : Nat → Nat) (w m : Nat) (S : Nat → Nat → Int32) : Prop := (ww_R M 283 (c 0) = some (c 6) ∧ ww_yd g M (c 6) (c 3) (ea 2) (c 7) w (fun i => P (q_wq S i))) ∧ (ww_R M 241 (c 6) = some (c 4) ∧ ww_ls g M 4 (c 4) (ea 3) m (fun i => P (z i))) ∧ (∀ i, i < m → ww_I M 176 (P (z i)) = nI (D i)) ∧ ∃ b, b < 2 ^ 24 ∧ ww_I M 244 (c 6) = nI b
/-- the addresses are apart -/
def ww_ap (g : ww_G) (M : ww_M) (c ea : Nat → Nat) : Prop := (∀ i j, 1 ≤ i → i ≤ 4 → 1 ≤ j → j ≤ 4 → c i = c j → i = j) ∧ (∀ i j, i < 4 → j < 4 → ea i = ea j → i = j ∨ ea i = ww_ge g) ∧ ¬ c 7 = c 8 ∧ ww_ge g ∉ ww_L M
def ww_rc (g : ww_G) (M : ww_M) (c ea P W kl f z D : Nat → Nat) (E : Nat → Nat → Int32) (n u w m : Nat) (S : Nat → Nat → Int32) : Prop := ww_cp g M c ea P W kl n S ∧ ww_cl g M c ea f u E ∧ ww_cy g M c ea P z D w m S ∧ ww_ap g M c ea
section WWT2
variable {g : ww_G} {M0 M M1 : ww_M} {c ea P W kl f z D : Nat → Nat} {E : Nat → Nat → Int32} {n u w m : Nat} {S S1 : Nat → Nat → Int32} {Pp A : Nat → Prop}
theorem ww_cp_wo (h : ww_cp g M c ea P W kl n S) : ww_wo g M M (c 0) (c 1) (ea 0) n P := ⟨h.1.1, h.1.2.1, h.1.2.2.1, h.1.2.2.2, ww_kp_rf⟩
theorem ww_pf_ft (h : ww_pf M P W kl n S) (t : ww_ft M M1 Pp A) (hp : ∀ y, Pp y → ¬ ww_pk M y) : ww_pf M1 P W kl n S := by
  have no : ∀ {κ y : Nat}, ww_is M.1 y κ → (κ = 2 ∨ κ = 4 ∨ κ = 5) → ¬ Pp y := fun hy hk z => hp _ z (by
    have e : ww_K M _ = _ := hy.2
    unfold ww_pk
    rw [e]
    exact hk)
  refine ⟨fun i hi => ?_, fun j hj => ?_, h.2.2⟩
  · obtain ⟨⟨a0, a1, a2, a3, a4, a5⟩, b, cc, d, e, ⟨s1, s2, s3, s4, s5, s6, s7, s8, s9⟩, z⟩ := h.1 i hi
    have n4 := no a0 (Or.inr (Or.inl rfl))
    have I : ∀ {f : Nat} {v : Int32}, f / 40 = 4 → ww_I M f (P i) = v → ww_I M1 f (P i) = v := fun hf hv => (ww_ft_I t a0 n4 hf).trans hv
    have R : ∀ {f : Nat} {v : Option Nat}, f / 40 = 4 → ww_R M f (P i) = v → ww_R M1 f (P i) = v := fun hf hv => (ww_ft_R t a0 n4 hf).trans hv
    refine ⟨⟨ww_ft_in t a0, I rfl a1, I rfl a2, I rfl a3, I rfl a4, R rfl a5⟩, fun hk => ?_, fun hk => R rfl (cc hk), R rfl d, I rfl e, ⟨I rfl s1, I rfl s2, I rfl s3, I rfl s4, I rfl s5, I rfl s6, I rfl s7, I rfl s8, I rfl s9⟩, ?_⟩
    · obtain ⟨w1, w2, w3, w4, w5, w6⟩ := b hk
      have n5 := no w2 (Or.inr (Or.inr rfl))
      have I5 : ∀ {f : Nat} {v : Int32}, f / 40 = 5 → ww_I M f (W i) = v → ww_I M1 f (W i) = v := fun hf hv => (ww_ft_I t w2 n5 hf).trans hv
      exact ⟨R rfl w1, ww_ft_in t w2, I5 rfl w3, I5 rfl w4, I5 rfl w5, I5 rfl w6⟩
    · rw [show ww_I M1 176 (P i) = ww_I M 176 (P i) from I rfl rfl]
      exact z
  · obtain ⟨l1, l2, l3, l4⟩ := h.2.1 j hj
    have n2 := no l1 (Or.inl rfl)
    have I : ∀ {f : Nat} {v : Int32}, f / 40 = 2 → ww_I M f (kl j) = v → ww_I M1 f (kl j) = v := fun hf hv => (ww_ft_I t l1 n2 hf).trans hv
    exact ⟨ww_ft_in t l1, I rfl l2, I rfl l3, I rfl l4⟩
theorem ww_kl_ft {x yk : Nat} (h : ww_kl M x yk kl) (hx : ww_is M.1 x 7) (t : ww_ft M M1 Pp A) (hp : ¬ Pp x) (ha : ¬ A yk) : ww_kl M1 x yk kl := by
  obtain ⟨k1, k2, k3, k4⟩ := h
  exact ⟨(ww_ft_R t hx hp rfl).trans k1, ww_ft_in t k2, (t.1 yk k2.1).2.2.trans k3, fun k hk => by rw [(t.2.2 yk k2.1 ha).2.1]; exact k4 k hk⟩
/-- what is written of lists alone leaves the parts -/
theorem ww_cp_ft (h : ww_cp g M c ea P W kl n S) (t : ww_ft M M1 Pp A) (hp : ∀ y, Pp y → ¬ ww_pk M y ∧ ¬ ww_K M y = 7 ∧ ¬ y = c 1) (ha : ∀ y, y ∈ ww_L M → A y → ¬ ww_K M y = 11 ∧ (ww_K M y = 12 → ¬ y = ea 0)) : ww_cp g M1 c ea P W kl n S := by
  obtain ⟨⟨h1, h2, h3, h4⟩, ⟨h5, h6⟩, h7, h8⟩ := h
  have hx : ¬ Pp (c 0) := fun z => (hp _ z).2.1 h1.2
  exact ⟨⟨ww_ft_in t h1, (ww_ft_R t h1 hx rfl).trans h2, ww_ls_ft h3 t (fun z => (hp _ z).2.2 rfl) (fun he z => (ha _ he.1 z).2 he.2 rfl), h4⟩, ⟨ww_pf_ft h5 t (fun y z => (hp y z).1), h6⟩, ww_kl_ft h7 h1 t hx (fun z => (ha _ h7.2.1.1 z).1 h7.2.1.2), h8⟩
/-- and of parts alone the log -/
theorem ww_cl_ft (h : ww_cl g M c ea f u E) (hx : ww_is M.1 (c 0) 7) (t : ww_ft M M1 Pp A) (hp : ∀ y, Pp y → ¬ ww_K M y = 1 ∧ ¬ ww_K M y = 3 ∧ ¬ ww_K M y = 7 ∧ ¬ y = c 2) (ha : ∀ y, y ∈ ww_L M → A y → (ww_K M y = 12 → ¬ y = ea 1)) : ww_cl g M1 c ea f u E := by
  obtain ⟨h0, l1, l2, l3, l4, l5, l6, l7, l8⟩ := h
  have n3 : ¬ Pp (c 5) := fun z => (hp _ z).2.1 l1.2
  refine ⟨(ww_ft_R t hx (fun z => (hp _ z).2.2.1 hx.2) rfl).trans h0, ww_ft_in t l1, (ww_ft_R t l1 n3 rfl).trans l2, (ww_ft_R t l1 n3 rfl).trans l3, ww_ft_in t l4, (t.1 _ l4.1).2.2.trans l5, l6, ww_ls_ft l7 t (fun z => (hp _ z).2.2.2 rfl) (fun he z => ha _ he.1 z he.2 rfl), fun i hi => ?_⟩
  have he := ww_ls_el l7 hi
  have n1 : ¬ Pp (f i) := fun z => (hp _ z).1 he.2
  obtain ⟨k1, k2, k3⟩ := l8 i hi
  exact ⟨(ww_ft_I t he n1 rfl).trans k1, (ww_ft_I t he n1 rfl).trans k2, (ww_ft_I t he n1 rfl).trans k3⟩
theorem ww_yd_ft {y wl we yb : Nat} {ff : Nat → Nat} (h : ww_yd g M y wl we yb w ff) (t : ww_ft M M1 Pp A) (hy : ¬ Pp y) (hp : ¬ Pp wl) (ha : ww_is M.1 we 12 → ¬ A we) : ww_yd g M1 y wl we yb w ff := by
  obtain ⟨y1, y2, y3, y4, y5, y6, y7⟩ := h
  exact ⟨ww_ft_in t y1, (ww_ft_R t y1 hy rfl).trans y2, (ww_ft_R t y1 hy rfl).trans y3, ww_ft_in t y4, (t.1 _ y4.1).2.2.trans y5, y6, ww_ls_ft y7 t hp ha⟩
theorem ww_cy_ft (h : ww_cy g M c ea P z D w m S) (hx : ww_is M.1 (c 0) 7) (t : ww_ft M M1 Pp A) (hp : ∀ y, Pp y → ¬ ww_K M y = 6 ∧ ¬ ww_K M y = 7 ∧ ¬ y = c 3 ∧ ¬ y = c 4) (ha : ∀ y, y ∈ ww_L M → A y → (ww_K M y = 12 → ¬ y = ea 2 ∧ ¬ y = ea 3)) (h17 : ∀ i, i < m → ww_I M1 176 (P (z i)) = ww_I M 176 (P (z i))) : ww_cy g M1 c ea P z D w m S := by
  obtain ⟨⟨h1, h2⟩, ⟨h3, h4⟩, h5, b, hb, h6⟩ := h
  have n6 : ¬ Pp (c 6) := fun y => (hp _ y).1 h2.1.2
  exact ⟨⟨(ww_ft_R t hx (fun y => (hp _ y).2.1 hx.2) rfl).trans h1, ww_yd_ft h2 t n6 (fun y => (hp _ y).2.2.1 rfl) (fun he y => (ha _ he.1 y he.2).1 rfl)⟩, ⟨(ww_ft_R t h2.1 n6 rfl).trans h3, ww_ls_ft h4 t (fun y => (hp _ y).2.2.2 rfl) (fun he y => (ha _ he.1 y he.2).2 rfl)⟩, fun i hi => (h17 i hi).trans (h5 i hi), b, hb, (ww_ft_I t h2.1 n6 rfl).trans h6⟩
end WWT2
