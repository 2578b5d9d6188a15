/-! ===== both sides in one memory ===== -/
section WWJ0
variable {g : ww_G} {M M1 M2 M3 : ww_M} {mo ol x : Nat} {ar : Nat → Nat} {P A P2 A2 : Nat → Prop}
/-- M' with the model's numbers that are no fields as M has them -/
noncomputable def ww_fx (M M' : ww_M) (mo : Nat) : ww_M := (M'.1, (fun f a => q_if (a = mo ∧ ¬ f / 40 = 8) (ww_I M f a) (ww_I M' f a)), M'.2.2)
theorem ww_fx_I {f a : Nat} (h : ¬ (a = mo ∧ ¬ f / 40 = 8)) : ww_I (ww_fx M M1 mo) f a = ww_I M1 f a := q_if_f h
theorem ww_fx_E {cy : Nat → ClassId} (hK : ww_K M1 mo = 8) (a : Nat) : ww_E cy (ww_fx M M1 mo) a = ww_E cy M1 a := by
  have e1 : ww_K (ww_fx M M1 mo) a = ww_K M1 a := rfl
  have e2 : ww_N (ww_fx M M1 mo) a = ww_N M1 a := rfl
  have e3 : ww_X (ww_fx M M1 mo) a = ww_X M1 a := rfl
  have e4 : ww_Y (ww_fx M M1 mo) a = ww_Y M1 a := rfl
  have e5 : ww_Z (ww_fx M M1 mo) a = ww_Z M1 a := rfl
  have e6 : ww_fs (ww_fx M M1 mo) (ww_K M1 a) a = ww_fs M1 (ww_K M1 a) a := by
    unfold ww_fs
    refine List.map_congr_left (fun k hk => ?_)
    have hk := List.mem_range.mp hk
    have : ww_nf (ww_K M1 a) < 40 := by
      unfold ww_nf
      split <;> decide
    show (if ww_ir (40 * ww_K M1 a + k) = true then va_rf (ww_R M1 (40 * ww_K M1 a + k) a) else .int (ww_I (ww_fx M M1 mo) (40 * ww_K M1 a + k) a)) = ww_fv M1 (40 * ww_K M1 a + k) a
    rw [ww_fx_I (fun z => z.2 (by rw [z.1, hK] at *; omega))]
    rfl
  unfold ww_E
  rw [e1, e2, e3, e4, e5, e6]
theorem ww_fx_H {H : Heap} (hK : ww_K M1 mo = 8) (h : ww_H g M1 H) : ww_H g (ww_fx M M1 mo) H := by
  have e : ww_W g.2.2.1 (ww_fx M M1 mo) = ww_W g.2.2.1 M1 := va_pl_congr (fun b => ww_fx_E hK b)
  unfold ww_H
  rw [e]
  exact h
theorem ww_fx_ft (hK : ww_K M1 mo = 8) : ww_ft M1 (ww_fx M M1 mo) P A := ⟨fun y hy => ⟨hy, rfl, rfl⟩, fun f y hy _ hf => ⟨ww_fx_I (fun z => z.2 (by rw [hf, z.1]; exact hK)), rfl⟩, fun y _ _ => ⟨rfl, rfl, rfl⟩⟩
theorem ww_fx_S (hm : ww_mo mo ar M.1 M.2.2.1) (t : ww_ft M M1 P A) (hp : ¬ P mo) (ha : ∀ k, ww_mr k = true → ¬ A (ar k)) : q_S (ww_fx M M1 mo) mo ar = q_S M mo ar := by
  funext k i
  by_cases hk : ww_mr k = true
  · rw [q_S_a hk, q_S_a hk]
    show ww_X M1 (ar k) i = _
    rw [(t.2.2 _ (hm.2.2.1 k hk).1.1 (ha k hk)).1]
  · rw [q_S_s hk, q_S_s hk]
    by_cases h : (320 + k) / 40 = 8
    · rw [ww_fx_I (fun z => z.2 h)]
      exact (t.2.1 _ mo hm.1.1 hp (h.trans hm.1.2.symm)).1
    · exact q_if_t ⟨rfl, h⟩
theorem ww_mo_ft (hm : ww_mo mo ar M.1 M.2.2.1) (t : ww_ft M M1 P A) (hp : ¬ P mo) : ww_mo mo ar M1.1 M1.2.2.1 := by
  obtain ⟨h1, h2, h3, h4⟩ := hm
  refine ⟨ww_ft_in t h1, fun k hk => ?_, fun k hk => ?_, h4⟩
  · have hk33 : k < 40 := by
      unfold ww_mr at hk
      simp only [Bool.or_eq_true, Bool.and_eq_true, decide_eq_true_eq, beq_iff_eq] at hk
      omega
    exact (ww_ft_R (f := 320 + k) t h1 hp (by omega)).trans (h2 k hk)
  · obtain ⟨a1, a2⟩ := h3 k hk
    exact ⟨ww_ft_in t a1, (t.1 _ a1.1).2.2.trans a2⟩
/-- a contract's end may see the memory otherwise, when the heap is the same -/
theorem ww_C_see {Y : ww_Yd} {d mc ms : Nat} {av : List Value} {Q Q' : Option Value → ww_M → Prop} {X : String → ww_M → Prop} (h : ww_C g Y d mc ms av M Q X) (hq : ∀ v M', Q v M' → ∃ M'', Q' v M'' ∧ ∀ H, ww_H g M' H → ww_H g M'' H) : ww_C g Y d mc ms av M Q' X := by
  intro l hl p e h1 h2 h3 s m args below h4 h5 h6 h7
  obtain ⟨n, o, a1, a2, a3, a4⟩ := h l hl p e h1 h2 h3 s m args below h4 h5 h6 h7
  refine ⟨n, o, a1, a2, a3, ?_⟩
  rcases a4 with ⟨⟨⟨v, M', e1, e2, e3⟩, e4⟩, e5⟩ | ⟨q, e0, E, ce, L, ⟨⟨M', e2, e3⟩, e4⟩, e5⟩
  · obtain ⟨M'', e6, e7⟩ := hq v M' e2
    exact Or.inl ⟨⟨⟨v, M'', e1, e6, e7 _ e3⟩, e4⟩, e5⟩
  · exact Or.inr ⟨q, e0, E, ce, L, ⟨⟨M', e2, e3⟩, e4⟩, e5⟩
variable {c ea W kl f z D Pp : Nat → Nat} {E : Nat → Nat → Int32} {n u w m : Nat} {S : Nat → Nat → Int32}
/-- what the model's side writes leaves the works -/
theorem ww_rc_ft (hr : ww_rc g M c ea Pp W kl f z D E n u w m S) (t : ww_ft M M1 P A) (hp : ∀ y, P y → 8 ≤ ww_K M y) (ha : ∀ y, y ∈ ww_L M → A y → ¬ ww_K M y = 11 ∧ ¬ ww_K M y = 12) (hL : ww_ge g ∉ ww_L M1) : ww_rc g M1 c ea Pp W kl f z D E n u w m S := by
  obtain ⟨h1, h2, h3, p1, p2, p3, p4⟩ := hr
  have no : ∀ {κ y : Nat}, ww_is M.1 y κ → κ < 8 → ¬ P y := fun {κ y} hy hk z => by
    have h := hp _ z
    have e : ww_K M y = κ := hy.2
    omega
  have ne : ∀ {y κ : Nat}, P y → κ < 8 → ¬ ww_K M y = κ := fun hy hk z => by
    have h := hp _ hy
    omega
  refine ⟨ww_cp_ft h1 t (fun y hy => ⟨fun z => ?_, ne hy (by decide), fun z => no h1.1.2.2.1.1 (by decide) (z ▸ hy)⟩) (fun y hy hz => ⟨(ha y hy hz).1, fun z => absurd z (ha y hy hz).2⟩), ww_cl_ft h2 h1.1.1 t (fun y hy => ⟨ne hy (by decide), ne hy (by decide), ne hy (by decide), fun z => no h2.2.2.2.2.2.2.2.1.1 (by decide) (z ▸ hy)⟩) (fun y hy hz z => absurd z (ha y hy hz).2), ww_cy_ft h3 h1.1.1 t (fun y hy => ⟨ne hy (by decide), ne hy (by decide), fun z => no h3.1.2.2.2.2.2.2.2.1 (by decide) (z ▸ hy), fun z => no h3.2.1.2.1 (by decide) (z ▸ hy)⟩) (fun y hy hz z => absurd z (ha y hy hz).2) (fun i hi => ?_), p1, p2, p3, hL⟩
  · have := hp y hy
    unfold ww_pk at z
    omega
  · have he := ww_ls_el h3.2.1.2 hi
    exact ww_ft_I t he (no he (by decide)) rfl
/-- the model's operation, as a frame -/
theorem ww_up_ft {S' : Nat → Nat → Int32} (hm : ww_mo mo ar M.1 M.2.2.1) (h : ww_up mo ar M S' M1) : ww_ft M M1 (fun y => 8 ≤ ww_K M y) (fun y => ∃ k, ww_mr k = true ∧ y = ar k) := by
  obtain ⟨h1, h2, h3, h4, h5, h6, h7⟩ := h
  have hL : ww_L M1 = ww_L M := by unfold ww_L; rw [h1]
  have hK : ww_K M1 = ww_K M := by unfold ww_K; rw [h1]
  have hN : ww_N M1 = ww_N M := by unfold ww_N; rw [h1]
  refine ⟨fun y hy => ⟨by rw [hL]; exact hy, by rw [hK], by rw [hN]⟩, fun f y hy hn hf => ⟨?_, by unfold ww_R; rw [h2]⟩, fun y hy hn => ⟨h6 y (fun k hk z => hn ⟨k, hk, z⟩), by rw [h3], by rw [h4]⟩⟩
  exact h5 f y (by
    have : ¬ 8 ≤ ww_K M y := hn
    omega)
/-- the works hold some content S, good after b operations -/
def ww_mc (g : ww_G) (c : Nat → Nat) (b : Nat) (S : Nat → Nat → Int32) (M : ww_M) : Prop := ∃ (ea P W kl f z D : Nat → Nat) (E : Nat → Nat → Int32) (n u w m : Nat), ww_rc g M c ea P W kl f z D E n u w m S ∧ q_all S E z D n u w m b
/-- the model holds the content T, the out array stands, both apart -/
def ww_mm (mo : Nat) (ar : Nat → Nat) (ol : Nat) (c : Nat → Nat) (T : Nat → Nat → Int32) (M : ww_M) : Prop := (ww_mo mo ar M.1 M.2.2.1 ∧ q_S M mo ar = T) ∧ (ww_is M.1 ol 13 ∧ ww_N M ol = 1) ∧ ∀ k, ww_mr k = true → ar k ≠ c 7 ∧ ar k ≠ c 8
theorem ww_mm_ck (h : ww_mm mo ar ol c S M) (t : ww_ck c M M1) : ww_mm mo ar ol c S (ww_fx M M1 mo) ∧ ww_K M1 mo = 8 ∧ (ww_is M1.1 ol 13 ∧ ww_N M1 ol = 1) := by
  obtain ⟨⟨h1, h2⟩, ⟨h3, h4⟩, h5⟩ := h
  have hp : ¬ ¬ ww_K M mo = 8 := fun z => z h1.1.2
  have ha : ∀ k, ww_mr k = true → ¬ (ww_K M (ar k) = 11 ∨ ww_K M (ar k) = 12 ∨ ar k = c 7 ∨ ar k = c 8) := fun k hk z => by
    have e : ww_K M (ar k) = ww_mk k := (h1.2.2.1 k hk).1.2
    have e2 : ww_mk k ≤ 10 := by
      unfold ww_mk
      split <;> decide
    rcases z with z | z | z | z
    · omega
    · omega
    · exact (h5 k hk).1 z
    · exact (h5 k hk).2 z
  have hK : ww_K M1 mo = 8 := (ww_ft_in t h1.1).2
  have ho : ww_is M1.1 ol 13 ∧ ww_N M1 ol = 1 := ⟨ww_ft_in t h3, (t.1 _ h3.1).2.2.trans h4⟩
  exact ⟨⟨⟨(show ww_mo mo ar M1.1 M1.2.2.1 from ww_mo_ft h1 t hp), (ww_fx_S h1 t hp ha).trans h2⟩, ho, h5⟩, hK, ho⟩
theorem ww_mc_fx {b : Nat} (h : ww_mc g c b S M1) (hK : ww_K M1 mo = 8) : ww_mc g c b S (ww_fx M M1 mo) := by
  obtain ⟨ea, P, W, kl, f, z, D, E, n, u, w, m, h1, h2⟩ := h
  exact ⟨ea, P, W, kl, f, z, D, E, n, u, w, m, ww_rc_ft (P := fun _ => False) (A := fun _ => False) h1 (ww_fx_ft hK) (fun _ z => z.elim) (fun _ _ z => z.elim) h1.2.2.2.2.2.2, h2⟩
theorem ww_ft_sZ {i : Nat} {v : Int64} : ww_ft M (ww_sZ M ol i v) (fun _ => False) (fun y => y = ol) := ⟨fun y hy => ⟨hy, rfl, rfl⟩, fun _ _ _ _ _ => ⟨rfl, rfl⟩, fun y _ hn => ⟨rfl, rfl, funext fun i => ww_u2n (fun z => hn z.1)⟩⟩
end WWJ0
