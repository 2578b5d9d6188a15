/-! ===== steps of all that the works hold ===== -/
section WWZ0
variable {g : ww_G} {Y : ww_Yd} {d kc ks : Nat} {M : ww_M} {pc : Nat} {lv : List (Nat × Value)} {st : List Value} {Q : Option Value → ww_M → Prop} {X : String → ww_M → Prop}
/-- the empty array isn't of the pool's -/
theorem ww_geL (kk : ww_ge g ∉ ww_L M → ww_A g Y d kc ks M pc lv st Q X) : ww_A g Y d kc ks M pc lv st Q X := by
  intro p l e R s m args below meth c H locs cells slots mc ms ls C B hl hH hS
  obtain ⟨hx, hb, hml, hret, htb, hown, hts, htr, hF, hfr, hlo⟩ := id C
  refine kk (fun hm => ?_) p l e R s m args below meth c H locs cells slots mc ms ls C B hl hH hS
  obtain ⟨j, hj⟩ := ww_W_get (cy := g.2.2.1) hm
  obtain ⟨cell, _, _, _, _, _, _, hno⟩ := hF.2.1.2
  exact hno (hH.2.2 j _ hj)
end WWZ0
/-- what a call of the works' may write -/
def ww_ck (c : Nat → Nat) (M M' : ww_M) : Prop := ww_ft M M' (fun y => ¬ ww_K M y = 8) (fun y => ww_K M y = 11 ∨ ww_K M y = 12 ∨ y = c 7 ∨ y = c 8)
/-- the slots that the works hold -/
def ww_us (k : Nat) : Bool := (2 ≤ k && k ≤ 22) || (27 ≤ k && k ≤ 28)
section WWZ1
variable {g : ww_G} {M M1 M2 : ww_M} {c ea P W kl f z D : Nat → Nat} {E : Nat → Nat → Int32} {n u w m : Nat} {S S1 : Nat → Nat → Int32} {Pp A : Nat → Prop}
theorem ww_ck_rf : ww_ck c M M := ww_ft_rf
theorem ww_ck_ft (t : ww_ft M M1 Pp A) (h1 : ∀ y, y ∈ ww_L M → Pp y → ¬ ww_K M y = 8) (h2 : ∀ y, y ∈ ww_L M → A y → ww_K M y = 11 ∨ ww_K M y = 12 ∨ y = c 7 ∨ y = c 8) : ww_ck c M M1 := ww_ft_wk t h1 h2
theorem ww_ck_tr (h : ww_ck c M M1) (h' : ww_ck c M1 M2) : ww_ck c M M2 := by
  refine ww_ft_wk (ww_ft_tr h h') (fun y hy z => ?_) (fun y hy z => ?_)
  · rcases z with z | z
    · exact z
    · rw [(h.1 y hy).2.1] at z; exact z
  · rcases z with z | z
    · exact z
    · rw [(h.1 y hy).2.1] at z; exact z
theorem ww_ck_pk (t : ww_ft M M1 (ww_pk M) (fun _ => False)) : ww_ck c M M1 := ww_ck_ft t (fun y _ z h => by
  unfold ww_pk at z
  omega) (fun y _ z => z.elim)
theorem ww_pf_us (h : ww_pf M P W kl n S) (e : ∀ k, ww_us k = true → S1 k = S k) : ww_pf M P W kl n S1 := by
  have e' : ∀ k, ww_us k = true → ∀ i, S1 k i = S k i := fun k hk i => congrFun (e k hk) i
  have ekd : ∀ i, q_kd S1 i = q_kd S i := fun i => by unfold q_kd; rw [e' 2 rfl]
  refine ⟨fun i hi => ?_, fun j hj => ?_, h.2.2⟩
  · have hi := h.1 i hi
    unfold ww_pt at hi ⊢
    rw [e' 2 rfl, e' 3 rfl, e' 4 rfl, e' 5 rfl, e' 6 rfl, e' 7 rfl, e' 8 rfl, e' 9 rfl, e' 10 rfl, e' 11 rfl, e' 12 rfl, e' 13 rfl, e' 14 rfl, e' 15 rfl, e' 16 rfl, e' 17 rfl, e' 18 rfl, e' 19 rfl, e' 28 rfl, ekd]
    exact hi
  · rw [e' 20 rfl, e' 21 rfl, e' 22 rfl]
    exact h.2.1 j hj
theorem ww_rc_us (hr : ww_rc g M c ea P W kl f z D E n u w m S) (e : ∀ k, ww_us k = true → S1 k = S k) : ww_rc g M c ea P W kl f z D E n u w m S1 := by
  obtain ⟨⟨h1, ⟨h2, h3⟩, h4⟩, h5, ⟨⟨y1, y2⟩, y3⟩, h6⟩ := hr
  have e27 : ∀ i, q_wq S1 i = q_wq S i := fun i => by unfold q_wq; rw [e 27 rfl]
  refine ⟨⟨h1, ⟨ww_pf_us h2 e, ?_⟩, h4⟩, h5, ⟨⟨y1, ?_⟩, y3⟩, h6⟩
  · unfold ww_wa
    rw [e 2 rfl]
    exact h3
  · rw [show (fun i => P (q_wq S1 i)) = fun i => P (q_wq S i) from funext fun i => by rw [e27]]
    exact y2
/-- parts, wheels, limits alone were written -/
theorem ww_rc_up (hr : ww_rc g M c ea P W kl f z D E n u w m S) (t : ww_ft M M1 (ww_pk M) (fun _ => False)) (h : ww_pf M1 P W kl n S1) (h176 : ∀ i, i < m → ww_I M1 176 (P (z i)) = ww_I M 176 (P (z i))) (h2 : S1 2 = S 2) (h27 : S1 27 = S 27) (hL : ww_L M1 = ww_L M) : ww_rc g M1 c ea P W kl f z D E n u w m S1 := by
  obtain ⟨⟨⟨a1, a2, a3, a4⟩, ⟨b1, b2⟩, b3, b4⟩, h5, h7, p1, p2, p3, p4⟩ := hr
  have no : ∀ {κ y : Nat}, ww_is M.1 y κ → ¬ (κ = 2 ∨ κ = 4 ∨ κ = 5) → ¬ ww_pk M y := fun hy hk z => by
    have e : ww_K M _ = _ := hy.2
    unfold ww_pk at z
    rw [e] at z
    exact hk z
  have n7 := no a1 (by decide)
  have e27 : ∀ i, q_wq S1 i = q_wq S i := fun i => by unfold q_wq; rw [h27]
  have pk : ∀ {κ y : Nat}, ww_pk M y → ww_K M y = κ → κ = 2 ∨ κ = 4 ∨ κ = 5 := fun hy hk => by
    unfold ww_pk at hy
    rw [hk] at hy
    exact hy
  have hcl := ww_cl_ft h5 a1 t (fun y hy => ⟨fun z => absurd (pk hy z) (by decide), fun z => absurd (pk hy z) (by decide), fun z => absurd (pk hy z) (by decide), fun z => no h5.2.2.2.2.2.2.2.1.1 (by decide) (z ▸ hy)⟩) (fun y _ z => z.elim)
  have hcy := ww_cy_ft h7 a1 t (fun y hy => ⟨fun z => absurd (pk hy z) (by decide), fun z => absurd (pk hy z) (by decide), fun z => no h7.1.2.2.2.2.2.2.2.1 (by decide) (z ▸ hy), fun z => no h7.2.1.2.1 (by decide) (z ▸ hy)⟩) (fun y _ z => z.elim) h176
  refine ⟨⟨⟨ww_ft_in t a1, (ww_ft_R t a1 n7 rfl).trans a2, ww_ls_ft a3 t (no a3.1 (by decide)) (fun _ z => z), a4⟩, ⟨h, ?_⟩, ww_kl_ft b3 a1 t n7 (fun z => z), b4⟩, hcl, ?_, p1, p2, p3, by rw [hL]; exact p4⟩
  · unfold ww_wa
    rw [h2]
    exact b2
  · obtain ⟨⟨y1, y2⟩, y3⟩ := hcy
    refine ⟨⟨y1, ?_⟩, y3⟩
    rw [show (fun i => P (q_wq S1 i)) = fun i => P (q_wq S i) from funext fun i => by rw [e27]]
    exact y2
/-- the end of an operation that leaves the lists -/
def ww_oq (g : ww_G) (M : ww_M) (c ea P W kl f z D : Nat → Nat) (E : Nat → Nat → Int32) (n u w m : Nat) (v0 : Option Value) (S' : Nat → Nat → Int32) : Option Value → ww_M → Prop := fun v M' => v = v0 ∧ ww_rc g M' c ea P W kl f z D E n u w m S' ∧ ww_ck c M M'
theorem ww_kp_rc (hr : ww_rc g M c ea P W kl f z D E n u w m S) (hk : ww_kp M M1) (h : ww_pf M1 P W kl n S1) (h2 : S1 2 = S 2) (h27 : S1 27 = S 27) : ww_rc g M1 c ea P W kl f z D E n u w m S1 ∧ ww_ck c M M1 := ⟨ww_rc_up hr (ww_ft_kp hk) h (fun i _ => hk.2.1 176 _ rfl) h2 h27 (by unfold ww_L; rw [hk.1]), ww_ck_pk (ww_ft_kp hk)⟩
theorem ww_C_cq {Y : ww_Yd} {d mc ms : Nat} {av : List Value} {v0 : Option Value} {X : String → ww_M → Prop} (hr : ww_rc g M c ea P W kl f z D E n u w m S) (h : ww_C g Y d mc ms av M (ww_cq g M v0 (c 0) (c 1) (ea 0) n P W kl S1) X) (h2 : S1 2 = S 2) (h27 : S1 27 = S 27) : ww_C g Y d mc ms av M (ww_oq g M c ea P W kl f z D E n u w m v0 S1) X := ww_C_mono h (fun v M' h3 => by
  obtain ⟨e, hw, hp⟩ := h3
  exact ⟨e, ww_kp_rc hr hw.2.2.2.2 hp h2 h27⟩) (fun _ _ h => h)
/-! scratch alone was written -/
theorem ww_rc_cX8 {F : Nat → Int32} (hr : ww_rc g M c ea P W kl f z D E n u w m S) : ww_rc g (ww_cX M (c 8) F) c ea P W kl f z D E n u w m S ∧ ww_ck c M (ww_cX M (c 8) F) := ⟨hr, ww_ck_ft (ww_ft_cX (P := fun _ => False) (A := fun y => y = c 8) ww_ft_rf rfl) (fun y _ z => z.elim) (fun y _ z => Or.inr (Or.inr (Or.inr z)))⟩
theorem ww_rc_cX7 {F : Nat → Int32} (hr : ww_rc g M c ea P W kl f z D E n u w m S) : ww_rc g (ww_cX M (c 7) F) c ea P W kl f z D E n u w m S ∧ ww_ck c M (ww_cX M (c 7) F) := ⟨hr, ww_ck_ft (ww_ft_cX (P := fun _ => False) (A := fun y => y = c 7) ww_ft_rf rfl) (fun y _ z => z.elim) (fun y _ z => Or.inr (Or.inr (Or.inl z)))⟩
theorem ww_rc_pl {b p : Nat} (hr : ww_rc g M c ea P W kl f z D E n u w m S) (hp : p < 2 ^ 24) : ww_rc g (ww_pl M (c 6) b p) c ea P W kl f z D E n u w m S ∧ ww_ck c M (ww_pl M (c 6) b p) := by
  obtain ⟨h0, h5, h7, h8⟩ := hr
  have a1 := h0.1.1
  have y6 := h7.1.2.1
  have t : ww_ft M (ww_pl M (c 6) b p) (fun y => y = c 6) (fun _ => False) := ww_ft_sI (ww_ft_sI ww_ft_rf rfl) rfl
  have k6 : ∀ {y κ : Nat}, y = c 6 → ¬ κ = 6 → ¬ ww_K M y = κ := fun e hk z => hk (by rw [e, show ww_K M (c 6) = 6 from y6.2] at z; exact z.symm)
  have l6 : ∀ {y a κ : Nat}, y = c 6 → ww_is M.1 a κ → ¬ κ = 6 → ¬ y = a := fun e ha hk z => k6 e hk (by rw [z]; exact ha.2)
  have no6 : ∀ {f y : Nat}, ¬ f / 40 = 6 → ww_I (ww_pl M (c 6) b p) f y = ww_I M f y := fun hf => (ww_sI_f (fun z => hf (by rw [z]))).trans (ww_sI_f (fun z => hf (by rw [z])))
  refine ⟨⟨ww_cp_ft h0 t (fun y e => ⟨fun z => ?_, k6 e (by decide), l6 e h0.1.2.2.1.1 (by decide)⟩) (fun y _ z => z.elim), ww_cl_ft h5 a1 t (fun y e => ⟨k6 e (by decide), k6 e (by decide), k6 e (by decide), l6 e h5.2.2.2.2.2.2.2.1.1 (by decide)⟩) (fun y _ z => z.elim), ?_, h8⟩, ww_ck_ft t (fun y _ e => k6 e (by decide)) (fun y _ z => z.elim)⟩
  · unfold ww_pk at z
    rw [e, show ww_K M (c 6) = 6 from y6.2] at z
    revert z
    decide
  · obtain ⟨⟨h1, h2⟩, ⟨h3, h4⟩, h9, b0, hb, h6⟩ := h7
    exact ⟨⟨h1, ww_yd_pl h2⟩, ⟨h3, ww_ls_ft h4 t (fun e => l6 e h4.1 (by decide) rfl) (fun _ z => z)⟩, fun i hi => (no6 (by decide)).trans (h9 i hi), p, hp, ww_sI_s⟩
end WWZ1
