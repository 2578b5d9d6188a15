/-! ===== operations with moves ===== -/
def ww_lQ (g : ww_G) (M : ww_M) (c P W kl z D : Nat → Nat) (E : Nat → Nat → Int32) (n u w m : Nat) (v0 : Option Value) (S' : Nat → Nat → Int32) : Option Value → ww_M → Prop := fun v M' => v = v0 ∧ ∃ ea' f', ww_rc g M' c ea' P W kl f' z D E n u w m S' ∧ ww_ck c M M'
theorem ww_us_ne {k j : Nat} (hk : ww_us k = true) (hj : ww_us j = false) : k ≠ j := fun e => by rw [e, hj] at hk; cases hk
theorem q_moves_us {S : Nat → Nat → Int32} {p w : Nat} {t : Int32} {k : Nat} (hk : ww_us k = true) : q_moves S p w t k = ww_u2 S 5 p t k := by
  funext i
  show (if k = 23 then _ else ww_u2 (ww_u2 (ww_u2 S 5 p t) 24 w (nI p)) 25 w t k i) = _
  rw [if_neg (ww_us_ne hk rfl), ww_u2n (fun y => ww_us_ne hk rfl y.1), ww_u2n (fun y => ww_us_ne hk rfl y.1)]
theorem q_us_use {S : Nat → Nat → Int32} {j : Nat} {v : Int32} {k : Nat} (hk : ww_us k = true) (hj : ww_us j = false) : q_us S j v k = S k := by
  funext i
  show (if k = j then v else S k i) = S k i
  rw [if_neg (ww_us_ne hk hj)]
theorem ww_u2_k {S S1 : Nat → Nat → Int32} {k j i : Nat} {v : Int32} (h : S k = S1 k) : ww_u2 S j i v k = ww_u2 S1 j i v k := by
  funext b
  show (if k = j ∧ b = i then v else S k b) = if k = j ∧ b = i then v else S1 k b
  rw [h]
theorem ww_u2_5 {S : Nat → Nat → Int32} {p : Nat} {t : Int32} : ww_u2 S 5 p t 5 = fun j => if j = p then t else S 5 j := by
  funext j
  show (if 5 = 5 ∧ j = p then t else S 5 j) = _
  by_cases e : j = p
  · rw [if_pos ⟨rfl, e⟩, if_pos e]
  · rw [if_neg (fun y => e y.2), if_neg e]
section WWA5
variable {g : ww_G} {M M1 M' : ww_M} {c ea P W kl f z D : Nat → Nat} {E : Nat → Nat → Int32} {n u w m : Nat} {S S1 : Nat → Nat → Int32} {v : Int32}
theorem ww_lQ_us {v0 : Option Value} (e : ∀ k, ww_us k = true → S1 k = S k) {r : Option Value} (h : ww_lQ g M c P W kl z D E n u w m v0 S r M') : ww_lQ g M c P W kl z D E n u w m v0 S1 r M' := by
  obtain ⟨h1, ea', f', h2, h3⟩ := h
  exact ⟨h1, ea', f', ww_rc_us h2 e, h3⟩
theorem ww_rc_log {a b k : Int32} {v : Option Value} (hr : ww_rc g M c ea P W kl f z D E n u w m S) (h : ww_lgQ g M (c 5) (c 2) (ea 1) (c 8) u f E a b k v M') (hge : ww_ge g ∉ ww_L M') : ∃ ea' f', ww_rc g M' c ea' P W kl f' z D (q_eS E u a b k) n (u + 1) w m S ∧ ww_ck c M M' ∧ ea' 0 = ea 0 := by
  obtain ⟨_, e', f', h1, h2, t⟩ := h
  obtain ⟨h0, h5, h7, hap⟩ := hr
  obtain ⟨p1, p2, p3, p4⟩ := id hap
  have a1 := h0.1.1
  have k0 : ∀ {y κ : Nat}, y = c 2 → ¬ κ = 0 → ¬ ww_K M y = κ := fun e hk y => hk (by rw [e, show ww_K M (c 2) = 0 from h5.2.2.2.2.2.2.2.1.1.2] at y; exact y.symm)
  have nea : ∀ {y j : Nat}, j < 4 → j ≠ 1 → (y = ea 1 ∧ ww_is M.1 (ea 1) 12) → ¬ y = ea j := fun hj hne hy e => by
    rcases p2 1 _ (by decide) hj (hy.1.symm.trans e) with x | x
    · exact hne x.symm
    · exact p4 (x ▸ hy.2.1)
  have k12 : ∀ {y κ : Nat}, (y = ea 1 ∧ ww_is M.1 (ea 1) 12) → ¬ κ = 12 → ¬ ww_K M y = κ := fun hy hk y => hk (by rw [hy.1, show ww_K M (ea 1) = 12 from hy.2.2] at y; exact y.symm)
  refine ⟨q_ea ea 1 e', f', ⟨?_, ?_, ?_, ?_⟩, ?_, if_neg (by decide)⟩
  · have h := ww_cp_ft h0 t (fun y e => ⟨fun x => ?_, k0 e (by decide), fun x => absurd (p1 2 1 (by decide) (by decide) (by decide) (by decide) (e.symm.trans x)) (by decide)⟩) (fun y _ hy => ⟨k12 hy (by decide), fun _ => nea (by decide) (by decide) hy⟩)
    · exact h
    · unfold ww_pk at x
      rcases x with x | x | x
      · exact k0 e (by decide) x
      · exact k0 e (by decide) x
      · exact k0 e (by decide) x
  · exact ⟨(ww_ft_R t a1 (fun e => k0 e (κ := 7) (by decide) a1.2) rfl).trans h5.1, h1⟩
  · have h := ww_cy_ft h7 a1 t (fun y e => ⟨k0 e (by decide), k0 e (by decide), fun x => absurd (p1 2 3 (by decide) (by decide) (by decide) (by decide) (e.symm.trans x)) (by decide), fun x => absurd (p1 2 4 (by decide) (by decide) (by decide) (by decide) (e.symm.trans x)) (by decide)⟩) (fun y _ hy _ => ⟨nea (by decide) (by decide) hy, nea (by decide) (by decide) hy⟩) (fun i hi => by
      have h4 := ww_ls_el h7.2.1.2 hi
      exact ww_ft_I t h4 (fun e => k0 e (κ := 4) (by decide) h4.2) rfl)
    exact h
  · refine ww_ap_ea (by decide) hap h2 hge (fun i hi hne => ?_)
    have hls : ∀ {κ a e nn : Nat} {ff : Nat → Nat}, ww_ls g M κ a e nn ff → e = ww_ge g ∨ e ∈ ww_L M := fun h => h.2.2.2.elim (fun x => Or.inl x.1) (fun x => Or.inr x.1.1)
    match i, hi, hne with
    | 0, _, _ => exact hls h0.1.2.2.1
    | 2, _, _ => exact hls h7.1.2.2.2.2.2.2.2
    | 3, _, _ => exact hls h7.2.1.2
  · exact ww_ck_ft t (fun y _ e => k0 e (by decide)) (fun y _ e => Or.inr (Or.inl (by rw [e.1]; exact e.2.2)))
theorem q_G_fit {p h : Nat} (hG : q_G S n) (hh : h < n) (hlt : (S 2 h).toInt < (S 2 p).toInt) : q_G (ww_u2 S 5 p (nI h)) n := by
  obtain ⟨g1, g2, g3, g4, g5, g6, g7, g8⟩ := hG
  have u : ∀ {k : Nat}, k ≠ 5 → ww_u2 S 5 p (nI h) k = S k := fun hk => funext fun i => ww_u2n (fun y => hk y.1)
  refine ⟨g1, g2, ?_, ?_, ?_, ?_, ?_, ?_⟩
  · rw [u (by decide), ww_u2_5]; exact q_gh_set g3 hh hlt
  · intro i; rw [u (by decide)]; exact g4 i
  · intro i; rw [u (by decide)]; exact g5 i
  · intro i; rw [u (by decide)]; exact g6 i
  · intro i; rw [u (by decide)]; exact g7 i
  · intro i; rw [u (by decide)]; exact g8 i
theorem q_hd_fit {p h : Nat} (hG : q_G S n) (hh : h < n) (hlt : (S 2 h).toInt < (S 2 p).toInt) : q_hd (ww_u2 S 5 p (nI h) 5) 5 h = q_hd (S 5) 5 h := by
  rw [ww_u2_5]
  exact q_hd_set hG.2.2.1 hG.2.1 hlt 5 h hh (Int.le_refl _)
theorem q_abs1 {x : Int32} (h : -100 ≤ x.toInt) : (if 0 ≤ x then x else 0 - x) ≤ 1 ↔ x ≤ 1 ∧ -1 ≤ x := by
  have e : x.toInt < 0 → (0 - x).toInt = -x.toInt := fun h0 => by
    rw [Int32.toInt_sub, show (0 : Int32).toInt = 0 from rfl, Int.bmod_eq_of_le (by omega) (by omega)]
    omega
  rw [ww_le' (x := x), ww_le' (x := -1), show (1 : Int32).toInt = 1 from rfl, show (-1 : Int32).toInt = -1 from rfl]
  by_cases c : 0 ≤ x
  · rw [if_pos c, ww_le', show (1 : Int32).toInt = 1 from rfl]
    rw [ww_le', show (0 : Int32).toInt = 0 from rfl] at c
    omega
  · rw [if_neg c, ww_le', show (1 : Int32).toInt = 1 from rfl]
    rw [ww_le', show (0 : Int32).toInt = 0 from rfl] at c
    rw [e (by omega)]
    omega
set_option maxRecDepth 20000 in
theorem c_fit_1 (hr : ww_rc g M c ea P W kl f z D E n u w m S) {p h : Int32} (hc : q_noP n p ∨ q_noP n h) : ww_C g wy_X6_fit 8 1 6 [.ref (c 0), .int p, .int h] M ww_nr (ww_th "java/lang/IndexOutOfBoundsException" M) := by
  refine ww_ent (by decide +kernel) (Nat.le_of_ble_eq_true rfl) ⟨rfl, rfl, rfl, trivial⟩ ?_
  have hw := ww_cp_wo hr.1
  by_cases c1 : q_noP n p
  · refine ww_aload_n (i := 0) dX6_fit_0 rfl rfl ?_
    refine ww_iload_n (i := 1) dX6_fit_1 rfl rfl ?_
    refine ww_callV (κ := 7) (r := (RX6, TX6, 4)) wk_X6_83 dX6_fit_2 (c_existing_x hw c1) rfl rfl (show ww_is _ _ 7 from hw.1).1 (show ww_is _ _ 7 from hw.1).2 rfl rfl (by omega) (by omega) (by omega) (by first | exact Nat.le_of_ble_eq_true rfl | (simp [ww_rf_cat, Value.category])) rfl (fun E M9 h9 => h9) (fun v9 M9 h9 => ?_)
    exact h9.elim
    -- at 5, locals [0, 1, 2]
  · have c2 := hc.resolve_left c1
    obtain ⟨j, hj, rfl⟩ := ww_nat (p := p) (n := n) (Classical.not_not.mp c1).1 (Classical.not_not.mp c1).2 (by have := hw.2.2.2.1; omega)
    refine ww_aload_n (i := 0) dX6_fit_0 rfl rfl ?_
    refine ww_iload_n (i := 1) dX6_fit_1 rfl rfl ?_
    refine ww_callV (κ := 7) (r := (RX6, TX6, 4)) wk_X6_83 dX6_fit_2 (c_existing hw hr.1.2.1.1 hj) rfl rfl (show ww_is _ _ 7 from hw.1).1 (show ww_is _ _ 7 from hw.1).2 rfl rfl (by omega) (by omega) (by omega) (by first | exact Nat.le_of_ble_eq_true rfl | (simp [ww_rf_cat, Value.category])) rfl (fun E M9 h9 => h9.elim) (fun v9 M9 h9 => ?_)
    obtain ⟨rfl, rfl⟩ := h9
    first | refine ww_astore_n (i := 3) (lv2 := [(0, _), (1, _), (2, _), (3, _)]) dX6_fit_5 rfl (Nat.le_of_ble_eq_true rfl) rfl ?_ | refine ww_astore_nQ (i := 3) (lv2 := [(0, _), (1, _), (2, _), (3, _)]) dX6_fit_5 rfl (Nat.le_of_ble_eq_true rfl) rfl ?_
    refine ww_aload_n (i := 0) dX6_fit_6 rfl rfl ?_
    refine ww_iload_n (i := 2) dX6_fit_7 rfl rfl ?_
    refine ww_callV (κ := 7) (r := (RX6, TX6, 4)) wk_X6_83 dX6_fit_8 (c_existing_x hw c2) rfl rfl (show ww_is _ _ 7 from hw.1).1 (show ww_is _ _ 7 from hw.1).2 rfl rfl (by omega) (by omega) (by omega) (by first | exact Nat.le_of_ble_eq_true rfl | (simp [ww_rf_cat, Value.category])) rfl (fun E M9 h9 => h9) (fun v9 M9 h9 => ?_)
    exact h9.elim
    -- at 11, locals [0, 1, 2, 3]
set_option maxRecDepth 20000 in
theorem c_fit_2 (hr : ww_rc g M c ea P W kl f z D E n u w m S) {p h : Nat} (hp : p < n) (hh : h < n) (hc : ¬ q_fitP S p h) : ww_C g wy_X6_fit 8 1 6 [.ref (c 0), .int (nI p), .int (nI h)] M ww_nr (ww_th "java/lang/IllegalArgumentException" M) := by
  refine ww_ent (by decide +kernel) (Nat.le_of_ble_eq_true rfl) ⟨rfl, rfl, rfl, trivial⟩ ?_
  have hw := ww_cp_wo hr.1
  have hf := hr.1.2.1.1
  have hi4 := (hf.1 p hp).1.1
  have hh4 := (hf.1 h hh).1.1
  have hpl := c_placesFor (g := g) (M := M) (S 2 h) (S 2 p)
  rw [← ww_pf_kd hf p hp, ← ww_pf_kd hf h hh] at hpl
  have hz : q_places (ww_I M 161 (P h)) (ww_I M 161 (P p)) = 0 := by rw [ww_pf_kd hf p hp, ww_pf_kd hf h hh]; exact Classical.not_not.mp hc
  refine ww_aload_n (i := 0) dX6_fit_0 rfl rfl ?_
  refine ww_iload_n (i := 1) dX6_fit_1 rfl rfl ?_
  refine ww_callV (κ := 7) (r := (RX6, TX6, 4)) wk_X6_83 dX6_fit_2 (c_existing hw hf hp) rfl rfl (show ww_is _ _ 7 from hw.1).1 (show ww_is _ _ 7 from hw.1).2 rfl rfl (by omega) (by omega) (by omega) (by first | exact Nat.le_of_ble_eq_true rfl | (simp [ww_rf_cat, Value.category])) rfl (fun E M9 h9 => h9.elim) (fun v9 M9 h9 => ?_)
  obtain ⟨rfl, rfl⟩ := h9
  first | refine ww_astore_n (i := 3) (lv2 := [(0, _), (1, _), (2, _), (3, _)]) dX6_fit_5 rfl (Nat.le_of_ble_eq_true rfl) rfl ?_ | refine ww_astore_nQ (i := 3) (lv2 := [(0, _), (1, _), (2, _), (3, _)]) dX6_fit_5 rfl (Nat.le_of_ble_eq_true rfl) rfl ?_
  refine ww_aload_n (i := 0) dX6_fit_6 rfl rfl ?_
  refine ww_iload_n (i := 2) dX6_fit_7 rfl rfl ?_
  refine ww_callV (κ := 7) (r := (RX6, TX6, 4)) wk_X6_83 dX6_fit_8 (c_existing hw hf hh) rfl rfl (show ww_is _ _ 7 from hw.1).1 (show ww_is _ _ 7 from hw.1).2 rfl rfl (by omega) (by omega) (by omega) (by first | exact Nat.le_of_ble_eq_true rfl | (simp [ww_rf_cat, Value.category])) rfl (fun E M9 h9 => h9.elim) (fun v9 M9 h9 => ?_)
  obtain ⟨rfl, rfl⟩ := h9
  first | refine ww_astore (i := 4) (lv2 := [(0, _), (1, _), (2, _), (3, _), (4, _)]) dX6_fit_11 (Nat.le_of_ble_eq_true rfl) rfl ?_ | refine ww_astoreQ (i := 4) (lv2 := [(0, _), (1, _), (2, _), (3, _), (4, _)]) dX6_fit_11 (Nat.le_of_ble_eq_true rfl) rfl ?_
  refine ww_aload (i := 4) dX6_fit_13 rfl ?_
  refine ww_getI (f := 161) wf_X6_87 dX6_fit_15 rfl rfl (show ww_is _ _ 4 from hh4).1 (show ww_is _ _ 4 from hh4).2 ?_
  refine ww_aload_n (i := 3) dX6_fit_18 rfl rfl ?_
  refine ww_getI (f := 161) wf_X6_87 dX6_fit_19 rfl rfl (show ww_is _ _ 4 from hi4).1 (show ww_is _ _ 4 from hi4).2 ?_
  refine ww_callS wk_X6_90 rfl dX6_fit_22 (hpl) rfl rfl (by omega) (by omega) (by omega) (by first | exact Nat.le_of_ble_eq_true rfl | (simp [ww_rf_cat, Value.category])) rfl (fun E M9 h9 => h9.elim) (fun v9 M9 h9 => ?_)
  obtain ⟨rfl, rfl⟩ := h9
  refine ww_istore (i := 5) (lv2 := [(0, _), (1, _), (2, _), (3, _), (4, _), (5, _)]) dX6_fit_25 (Nat.le_of_ble_eq_true rfl) rfl ?_
  refine ww_iload (i := 5) dX6_fit_27 rfl ?_
  refine ww_if_ne_f (tgt := 42) dX6_fit_29 (by decide) hz ?_
  exact ww_throw wx_X6_45_94 dX6_fit_32 dX6_fit_35 dX6_fit_36 dX6_fit_38 dX6_fit_41 rfl (Nat.le_of_ble_eq_true rfl) (by omega) (by omega) (by first | exact Nat.le_of_ble_eq_true rfl | (simp [ww_rf_cat, Value.category])) ⟨rfl, rfl⟩
set_option maxRecDepth 20000 in
set_option maxHeartbeats 4000000 in
theorem c_fit_3 (hr : ww_rc g M c ea P W kl f z D E n u w m S) (hG : q_G S n) {p h : Nat} (hp : p < n) (hh : h < n) (hx : -100 ≤ (S 4 p - S 4 h).toInt) (hc : q_fitP S p h) (hs : ¬ q_fitS S n p h) : ww_C g wy_X6_fit 8 1 6 [.ref (c 0), .int (nI p), .int (nI h)] M ww_nr (ww_th "java/lang/IllegalStateException" M) := by
  refine ww_ent (by decide +kernel) (Nat.le_of_ble_eq_true rfl) ⟨rfl, rfl, rfl, trivial⟩ ?_
  have hw := ww_cp_wo hr.1
  have hf := hr.1.2.1.1
  obtain ⟨⟨hi4, _, _, _, km, _⟩, _, _, _, _, ⟨_, _, _, k9, _⟩, _⟩ := hf.1 p hp
  obtain ⟨⟨hh4, _, _, _, kn, _⟩, _, _, _, k167, _⟩ := hf.1 h hh
  have hpl := c_placesFor (g := g) (M := M) (S 2 h) (S 2 p)
  rw [← ww_pf_kd hf p hp, ← ww_pf_kd hf h hh] at hpl
  have hz : ¬ q_places (ww_I M 161 (P h)) (ww_I M 161 (P p)) = 0 := by rw [ww_pf_kd hf p hp, ww_pf_kd hf h hh]; exact hc
  have hin := p_inside (g := g) hw hf hG hh (ww_I M 161 (P p))
  by_cases c1 : S 5 p = -1
  · by_cases c2 : S 9 p = 0
    · by_cases c3 : S 5 h = -2
      · rw [if_pos c3] at k167
        refine ww_aload_n (i := 0) dX6_fit_0 rfl rfl ?_
        refine ww_iload_n (i := 1) dX6_fit_1 rfl rfl ?_
        refine ww_callV (κ := 7) (r := (RX6, TX6, 4)) wk_X6_83 dX6_fit_2 (c_existing hw hf hp) rfl rfl (show ww_is _ _ 7 from hw.1).1 (show ww_is _ _ 7 from hw.1).2 rfl rfl (by omega) (by omega) (by omega) (by first | exact Nat.le_of_ble_eq_true rfl | (simp [ww_rf_cat, Value.category])) rfl (fun E M9 h9 => h9.elim) (fun v9 M9 h9 => ?_)
        obtain ⟨rfl, rfl⟩ := h9
        first | refine ww_astore_n (i := 3) (lv2 := [(0, _), (1, _), (2, _), (3, _)]) dX6_fit_5 rfl (Nat.le_of_ble_eq_true rfl) rfl ?_ | refine ww_astore_nQ (i := 3) (lv2 := [(0, _), (1, _), (2, _), (3, _)]) dX6_fit_5 rfl (Nat.le_of_ble_eq_true rfl) rfl ?_
        refine ww_aload_n (i := 0) dX6_fit_6 rfl rfl ?_
        refine ww_iload_n (i := 2) dX6_fit_7 rfl rfl ?_
        refine ww_callV (κ := 7) (r := (RX6, TX6, 4)) wk_X6_83 dX6_fit_8 (c_existing hw hf hh) rfl rfl (show ww_is _ _ 7 from hw.1).1 (show ww_is _ _ 7 from hw.1).2 rfl rfl (by omega) (by omega) (by omega) (by first | exact Nat.le_of_ble_eq_true rfl | (simp [ww_rf_cat, Value.category])) rfl (fun E M9 h9 => h9.elim) (fun v9 M9 h9 => ?_)
        obtain ⟨rfl, rfl⟩ := h9
        first | refine ww_astore (i := 4) (lv2 := [(0, _), (1, _), (2, _), (3, _), (4, _)]) dX6_fit_11 (Nat.le_of_ble_eq_true rfl) rfl ?_ | refine ww_astoreQ (i := 4) (lv2 := [(0, _), (1, _), (2, _), (3, _), (4, _)]) dX6_fit_11 (Nat.le_of_ble_eq_true rfl) rfl ?_
        refine ww_aload (i := 4) dX6_fit_13 rfl ?_
        refine ww_getI (f := 161) wf_X6_87 dX6_fit_15 rfl rfl (show ww_is _ _ 4 from hh4).1 (show ww_is _ _ 4 from hh4).2 ?_
        refine ww_aload_n (i := 3) dX6_fit_18 rfl rfl ?_
        refine ww_getI (f := 161) wf_X6_87 dX6_fit_19 rfl rfl (show ww_is _ _ 4 from hi4).1 (show ww_is _ _ 4 from hi4).2 ?_
        refine ww_callS wk_X6_90 rfl dX6_fit_22 (hpl) rfl rfl (by omega) (by omega) (by omega) (by first | exact Nat.le_of_ble_eq_true rfl | (simp [ww_rf_cat, Value.category])) rfl (fun E M9 h9 => h9.elim) (fun v9 M9 h9 => ?_)
        obtain ⟨rfl, rfl⟩ := h9
        refine ww_istore (i := 5) (lv2 := [(0, _), (1, _), (2, _), (3, _), (4, _), (5, _)]) dX6_fit_25 (Nat.le_of_ble_eq_true rfl) rfl ?_
        refine ww_iload (i := 5) dX6_fit_27 rfl ?_
        refine ww_if_ne_t (tgt := 42) dX6_fit_29 (by decide) hz ?_
        refine ww_aload_n (i := 3) dX6_fit_42 rfl rfl ?_
        refine ww_callV (κ := 4) (r := (RX3, TX3, 18)) wk_X6_96 dX6_fit_43 (p_store_t hf hG hp c1) rfl rfl (show ww_is _ _ 4 from hi4).1 (show ww_is _ _ 4 from hi4).2 rfl rfl (by omega) (by omega) (by omega) (by first | exact Nat.le_of_ble_eq_true rfl | (simp [ww_rf_cat, Value.category])) rfl (fun E M9 h9 => h9.elim) (fun v9 M9 h9 => ?_)
        obtain ⟨rfl, rfl⟩ := h9
        refine ww_if_eq_f (tgt := 56) dX6_fit_46 (by decide) (by decide) ?_
        refine ww_aload_n (i := 3) dX6_fit_49 rfl rfl ?_
        refine ww_getI (f := 171) wf_X6_100 dX6_fit_50 rfl rfl (show ww_is _ _ 4 from hi4).1 (show ww_is _ _ 4 from hi4).2 ?_
        refine ww_if_eq_t (tgt := 66) dX6_fit_53 (by decide) (k9.trans c2) ?_
        refine ww_aload (i := 4) dX6_fit_66 rfl ?_
        refine ww_getI (f := 167) wf_X6_106 dX6_fit_68 rfl rfl (show ww_is _ _ 4 from hh4).1 (show ww_is _ _ 4 from hh4).2 ?_
        refine ww_if_ne_t (tgt := 97) dX6_fit_71 (by decide) (by rw [k167]; decide) ?_
        exact ww_throw wx_X6_56_116 dX6_fit_97 dX6_fit_100 dX6_fit_101 dX6_fit_103 dX6_fit_106 rfl (Nat.le_of_ble_eq_true rfl) (by omega) (by omega) (by first | exact Nat.le_of_ble_eq_true rfl | (simp [ww_rf_cat, Value.category])) ⟨rfl, rfl⟩
      · rw [if_neg c3] at k167
        by_cases c4 : q_bound S h
        · refine ww_aload_n (i := 0) dX6_fit_0 rfl rfl ?_
          refine ww_iload_n (i := 1) dX6_fit_1 rfl rfl ?_
          refine ww_callV (κ := 7) (r := (RX6, TX6, 4)) wk_X6_83 dX6_fit_2 (c_existing hw hf hp) rfl rfl (show ww_is _ _ 7 from hw.1).1 (show ww_is _ _ 7 from hw.1).2 rfl rfl (by omega) (by omega) (by omega) (by first | exact Nat.le_of_ble_eq_true rfl | (simp [ww_rf_cat, Value.category])) rfl (fun E M9 h9 => h9.elim) (fun v9 M9 h9 => ?_)
          obtain ⟨rfl, rfl⟩ := h9
          first | refine ww_astore_n (i := 3) (lv2 := [(0, _), (1, _), (2, _), (3, _)]) dX6_fit_5 rfl (Nat.le_of_ble_eq_true rfl) rfl ?_ | refine ww_astore_nQ (i := 3) (lv2 := [(0, _), (1, _), (2, _), (3, _)]) dX6_fit_5 rfl (Nat.le_of_ble_eq_true rfl) rfl ?_
          refine ww_aload_n (i := 0) dX6_fit_6 rfl rfl ?_
          refine ww_iload_n (i := 2) dX6_fit_7 rfl rfl ?_
          refine ww_callV (κ := 7) (r := (RX6, TX6, 4)) wk_X6_83 dX6_fit_8 (c_existing hw hf hh) rfl rfl (show ww_is _ _ 7 from hw.1).1 (show ww_is _ _ 7 from hw.1).2 rfl rfl (by omega) (by omega) (by omega) (by first | exact Nat.le_of_ble_eq_true rfl | (simp [ww_rf_cat, Value.category])) rfl (fun E M9 h9 => h9.elim) (fun v9 M9 h9 => ?_)
          obtain ⟨rfl, rfl⟩ := h9
          first | refine ww_astore (i := 4) (lv2 := [(0, _), (1, _), (2, _), (3, _), (4, _)]) dX6_fit_11 (Nat.le_of_ble_eq_true rfl) rfl ?_ | refine ww_astoreQ (i := 4) (lv2 := [(0, _), (1, _), (2, _), (3, _), (4, _)]) dX6_fit_11 (Nat.le_of_ble_eq_true rfl) rfl ?_
          refine ww_aload (i := 4) dX6_fit_13 rfl ?_
          refine ww_getI (f := 161) wf_X6_87 dX6_fit_15 rfl rfl (show ww_is _ _ 4 from hh4).1 (show ww_is _ _ 4 from hh4).2 ?_
          refine ww_aload_n (i := 3) dX6_fit_18 rfl rfl ?_
          refine ww_getI (f := 161) wf_X6_87 dX6_fit_19 rfl rfl (show ww_is _ _ 4 from hi4).1 (show ww_is _ _ 4 from hi4).2 ?_
          refine ww_callS wk_X6_90 rfl dX6_fit_22 (hpl) rfl rfl (by omega) (by omega) (by omega) (by first | exact Nat.le_of_ble_eq_true rfl | (simp [ww_rf_cat, Value.category])) rfl (fun E M9 h9 => h9.elim) (fun v9 M9 h9 => ?_)
          obtain ⟨rfl, rfl⟩ := h9
          refine ww_istore (i := 5) (lv2 := [(0, _), (1, _), (2, _), (3, _), (4, _), (5, _)]) dX6_fit_25 (Nat.le_of_ble_eq_true rfl) rfl ?_
          refine ww_iload (i := 5) dX6_fit_27 rfl ?_
          refine ww_if_ne_t (tgt := 42) dX6_fit_29 (by decide) hz ?_
          refine ww_aload_n (i := 3) dX6_fit_42 rfl rfl ?_
          refine ww_callV (κ := 4) (r := (RX3, TX3, 18)) wk_X6_96 dX6_fit_43 (p_store_t hf hG hp c1) rfl rfl (show ww_is _ _ 4 from hi4).1 (show ww_is _ _ 4 from hi4).2 rfl rfl (by omega) (by omega) (by omega) (by first | exact Nat.le_of_ble_eq_true rfl | (simp [ww_rf_cat, Value.category])) rfl (fun E M9 h9 => h9.elim) (fun v9 M9 h9 => ?_)
          obtain ⟨rfl, rfl⟩ := h9
          refine ww_if_eq_f (tgt := 56) dX6_fit_46 (by decide) (by decide) ?_
          refine ww_aload_n (i := 3) dX6_fit_49 rfl rfl ?_
          refine ww_getI (f := 171) wf_X6_100 dX6_fit_50 rfl rfl (show ww_is _ _ 4 from hi4).1 (show ww_is _ _ 4 from hi4).2 ?_
          refine ww_if_eq_t (tgt := 66) dX6_fit_53 (by decide) (k9.trans c2) ?_
          refine ww_aload (i := 4) dX6_fit_66 rfl ?_
          refine ww_getI (f := 167) wf_X6_106 dX6_fit_68 rfl rfl (show ww_is _ _ 4 from hh4).1 (show ww_is _ _ 4 from hh4).2 ?_
          refine ww_if_ne_f (tgt := 97) dX6_fit_71 (by decide) k167 ?_
          refine ww_aload (i := 4) dX6_fit_74 rfl ?_
          refine ww_callV (κ := 4) (r := (RX3, TX3, 18)) wk_X6_109 dX6_fit_76 (p_bound_t hf hG hh c4) rfl rfl (show ww_is _ _ 4 from hh4).1 (show ww_is _ _ 4 from hh4).2 rfl rfl (by omega) (by omega) (by omega) (by first | exact Nat.le_of_ble_eq_true rfl | (simp [ww_rf_cat, Value.category])) rfl (fun E M9 h9 => h9.elim) (fun v9 M9 h9 => ?_)
          obtain ⟨rfl, rfl⟩ := h9
          refine ww_if_ne_t (tgt := 97) dX6_fit_79 (by decide) (by decide) ?_
          exact ww_throw wx_X6_56_116 dX6_fit_97 dX6_fit_100 dX6_fit_101 dX6_fit_103 dX6_fit_106 rfl (Nat.le_of_ble_eq_true rfl) (by omega) (by omega) (by first | exact Nat.le_of_ble_eq_true rfl | (simp [ww_rf_cat, Value.category])) ⟨rfl, rfl⟩
        · by_cases c5 : nI (q_inK S n (nI h) (S 2 p)) < q_places (S 2 h) (S 2 p)
          · have c5' : nI (q_inK S n (nI h) (ww_I M 161 (P p))) < q_places (ww_I M 161 (P h)) (ww_I M 161 (P p)) := by rw [ww_pf_kd hf p hp, ww_pf_kd hf h hh]; exact c5
            have c6 : ¬ (if 0 ≤ ww_I M 163 (P p) - ww_I M 163 (P h) then ww_I M 163 (P p) - ww_I M 163 (P h) else 0 - (ww_I M 163 (P p) - ww_I M 163 (P h))) ≤ 1 := by
              rw [km, kn, q_abs1 hx]
              exact fun y => hs ⟨c1, c2, c3, c4, c5, y.1, y.2⟩
            refine ww_aload_n (i := 0) dX6_fit_0 rfl rfl ?_
            refine ww_iload_n (i := 1) dX6_fit_1 rfl rfl ?_
            refine ww_callV (κ := 7) (r := (RX6, TX6, 4)) wk_X6_83 dX6_fit_2 (c_existing hw hf hp) rfl rfl (show ww_is _ _ 7 from hw.1).1 (show ww_is _ _ 7 from hw.1).2 rfl rfl (by omega) (by omega) (by omega) (by first | exact Nat.le_of_ble_eq_true rfl | (simp [ww_rf_cat, Value.category])) rfl (fun E M9 h9 => h9.elim) (fun v9 M9 h9 => ?_)
            obtain ⟨rfl, rfl⟩ := h9
            first | refine ww_astore_n (i := 3) (lv2 := [(0, _), (1, _), (2, _), (3, _)]) dX6_fit_5 rfl (Nat.le_of_ble_eq_true rfl) rfl ?_ | refine ww_astore_nQ (i := 3) (lv2 := [(0, _), (1, _), (2, _), (3, _)]) dX6_fit_5 rfl (Nat.le_of_ble_eq_true rfl) rfl ?_
            refine ww_aload_n (i := 0) dX6_fit_6 rfl rfl ?_
            refine ww_iload_n (i := 2) dX6_fit_7 rfl rfl ?_
            refine ww_callV (κ := 7) (r := (RX6, TX6, 4)) wk_X6_83 dX6_fit_8 (c_existing hw hf hh) rfl rfl (show ww_is _ _ 7 from hw.1).1 (show ww_is _ _ 7 from hw.1).2 rfl rfl (by omega) (by omega) (by omega) (by first | exact Nat.le_of_ble_eq_true rfl | (simp [ww_rf_cat, Value.category])) rfl (fun E M9 h9 => h9.elim) (fun v9 M9 h9 => ?_)
            obtain ⟨rfl, rfl⟩ := h9
            first | refine ww_astore (i := 4) (lv2 := [(0, _), (1, _), (2, _), (3, _), (4, _)]) dX6_fit_11 (Nat.le_of_ble_eq_true rfl) rfl ?_ | refine ww_astoreQ (i := 4) (lv2 := [(0, _), (1, _), (2, _), (3, _), (4, _)]) dX6_fit_11 (Nat.le_of_ble_eq_true rfl) rfl ?_
            refine ww_aload (i := 4) dX6_fit_13 rfl ?_
            refine ww_getI (f := 161) wf_X6_87 dX6_fit_15 rfl rfl (show ww_is _ _ 4 from hh4).1 (show ww_is _ _ 4 from hh4).2 ?_
            refine ww_aload_n (i := 3) dX6_fit_18 rfl rfl ?_
            refine ww_getI (f := 161) wf_X6_87 dX6_fit_19 rfl rfl (show ww_is _ _ 4 from hi4).1 (show ww_is _ _ 4 from hi4).2 ?_
            refine ww_callS wk_X6_90 rfl dX6_fit_22 (hpl) rfl rfl (by omega) (by omega) (by omega) (by first | exact Nat.le_of_ble_eq_true rfl | (simp [ww_rf_cat, Value.category])) rfl (fun E M9 h9 => h9.elim) (fun v9 M9 h9 => ?_)
            obtain ⟨rfl, rfl⟩ := h9
            refine ww_istore (i := 5) (lv2 := [(0, _), (1, _), (2, _), (3, _), (4, _), (5, _)]) dX6_fit_25 (Nat.le_of_ble_eq_true rfl) rfl ?_
            refine ww_iload (i := 5) dX6_fit_27 rfl ?_
            refine ww_if_ne_t (tgt := 42) dX6_fit_29 (by decide) hz ?_
            refine ww_aload_n (i := 3) dX6_fit_42 rfl rfl ?_
            refine ww_callV (κ := 4) (r := (RX3, TX3, 18)) wk_X6_96 dX6_fit_43 (p_store_t hf hG hp c1) rfl rfl (show ww_is _ _ 4 from hi4).1 (show ww_is _ _ 4 from hi4).2 rfl rfl (by omega) (by omega) (by omega) (by first | exact Nat.le_of_ble_eq_true rfl | (simp [ww_rf_cat, Value.category])) rfl (fun E M9 h9 => h9.elim) (fun v9 M9 h9 => ?_)
            obtain ⟨rfl, rfl⟩ := h9
            refine ww_if_eq_f (tgt := 56) dX6_fit_46 (by decide) (by decide) ?_
            refine ww_aload_n (i := 3) dX6_fit_49 rfl rfl ?_
            refine ww_getI (f := 171) wf_X6_100 dX6_fit_50 rfl rfl (show ww_is _ _ 4 from hi4).1 (show ww_is _ _ 4 from hi4).2 ?_
            refine ww_if_eq_t (tgt := 66) dX6_fit_53 (by decide) (k9.trans c2) ?_
            refine ww_aload (i := 4) dX6_fit_66 rfl ?_
            refine ww_getI (f := 167) wf_X6_106 dX6_fit_68 rfl rfl (show ww_is _ _ 4 from hh4).1 (show ww_is _ _ 4 from hh4).2 ?_
            refine ww_if_ne_f (tgt := 97) dX6_fit_71 (by decide) k167 ?_
            refine ww_aload (i := 4) dX6_fit_74 rfl ?_
            refine ww_callV (κ := 4) (r := (RX3, TX3, 18)) wk_X6_109 dX6_fit_76 (p_bound_f hf hG hh c4) rfl rfl (show ww_is _ _ 4 from hh4).1 (show ww_is _ _ 4 from hh4).2 rfl rfl (by omega) (by omega) (by omega) (by first | exact Nat.le_of_ble_eq_true rfl | (simp [ww_rf_cat, Value.category])) rfl (fun E M9 h9 => h9.elim) (fun v9 M9 h9 => ?_)
            obtain ⟨rfl, rfl⟩ := h9
            refine ww_if_ne_f (tgt := 97) dX6_fit_79 (by decide) (by decide) ?_
            refine ww_aload_n (i := 0) dX6_fit_82 rfl rfl ?_
            refine ww_aload (i := 4) dX6_fit_83 rfl ?_
            refine ww_aload_n (i := 3) dX6_fit_85 rfl rfl ?_
            refine ww_getI (f := 161) wf_X6_87 dX6_fit_86 rfl rfl (show ww_is _ _ 4 from hi4).1 (show ww_is _ _ 4 from hi4).2 ?_
            refine ww_callV (κ := 7) (r := (RX6, TX6, 4)) wk_X6_112 dX6_fit_89 (hin) rfl rfl (show ww_is _ _ 7 from hw.1).1 (show ww_is _ _ 7 from hw.1).2 rfl rfl (by omega) (by omega) (by omega) (by first | exact Nat.le_of_ble_eq_true rfl | (simp [ww_rf_cat, Value.category])) rfl (fun E M9 h9 => h9.elim) (fun v9 M9 h9 => ?_)
            obtain ⟨rfl, rfl⟩ := h9
            refine ww_iload (i := 5) dX6_fit_92 rfl ?_
            refine ww_icmp_lt_t (tgt := 107) dX6_fit_94 (by decide) c5' ?_
            refine ww_aload_n (i := 3) dX6_fit_107 rfl rfl ?_
            refine ww_getI (f := 163) wf_X6_118 dX6_fit_108 rfl rfl (show ww_is _ _ 4 from hi4).1 (show ww_is _ _ 4 from hi4).2 ?_
            refine ww_aload (i := 4) dX6_fit_111 rfl ?_
            refine ww_getI (f := 163) wf_X6_118 dX6_fit_113 rfl rfl (show ww_is _ _ 4 from hh4).1 (show ww_is _ _ 4 from hh4).2 ?_
            refine ww_isub dX6_fit_116 ?_
            refine ww_mabs wk_X6_121 dX6_fit_117 (by omega) (by first | exact Nat.le_of_ble_eq_true rfl | (simp [ww_rf_cat, Value.category])) ?_
            refine ww_iconst (v := 1) dX6_fit_120 (by decide) ?_
            refine ww_icmp_le_f (tgt := 134) dX6_fit_121 (by decide) c6 ?_
            exact ww_throw wx_X6_56_127 dX6_fit_124 dX6_fit_127 dX6_fit_128 dX6_fit_130 dX6_fit_133 rfl (Nat.le_of_ble_eq_true rfl) (by omega) (by omega) (by first | exact Nat.le_of_ble_eq_true rfl | (simp [ww_rf_cat, Value.category])) ⟨rfl, rfl⟩
          · have c5' : ¬ nI (q_inK S n (nI h) (ww_I M 161 (P p))) < q_places (ww_I M 161 (P h)) (ww_I M 161 (P p)) := by rw [ww_pf_kd hf p hp, ww_pf_kd hf h hh]; exact c5
            refine ww_aload_n (i := 0) dX6_fit_0 rfl rfl ?_
            refine ww_iload_n (i := 1) dX6_fit_1 rfl rfl ?_
            refine ww_callV (κ := 7) (r := (RX6, TX6, 4)) wk_X6_83 dX6_fit_2 (c_existing hw hf hp) rfl rfl (show ww_is _ _ 7 from hw.1).1 (show ww_is _ _ 7 from hw.1).2 rfl rfl (by omega) (by omega) (by omega) (by first | exact Nat.le_of_ble_eq_true rfl | (simp [ww_rf_cat, Value.category])) rfl (fun E M9 h9 => h9.elim) (fun v9 M9 h9 => ?_)
            obtain ⟨rfl, rfl⟩ := h9
            first | refine ww_astore_n (i := 3) (lv2 := [(0, _), (1, _), (2, _), (3, _)]) dX6_fit_5 rfl (Nat.le_of_ble_eq_true rfl) rfl ?_ | refine ww_astore_nQ (i := 3) (lv2 := [(0, _), (1, _), (2, _), (3, _)]) dX6_fit_5 rfl (Nat.le_of_ble_eq_true rfl) rfl ?_
            refine ww_aload_n (i := 0) dX6_fit_6 rfl rfl ?_
            refine ww_iload_n (i := 2) dX6_fit_7 rfl rfl ?_
            refine ww_callV (κ := 7) (r := (RX6, TX6, 4)) wk_X6_83 dX6_fit_8 (c_existing hw hf hh) rfl rfl (show ww_is _ _ 7 from hw.1).1 (show ww_is _ _ 7 from hw.1).2 rfl rfl (by omega) (by omega) (by omega) (by first | exact Nat.le_of_ble_eq_true rfl | (simp [ww_rf_cat, Value.category])) rfl (fun E M9 h9 => h9.elim) (fun v9 M9 h9 => ?_)
            obtain ⟨rfl, rfl⟩ := h9
            first | refine ww_astore (i := 4) (lv2 := [(0, _), (1, _), (2, _), (3, _), (4, _)]) dX6_fit_11 (Nat.le_of_ble_eq_true rfl) rfl ?_ | refine ww_astoreQ (i := 4) (lv2 := [(0, _), (1, _), (2, _), (3, _), (4, _)]) dX6_fit_11 (Nat.le_of_ble_eq_true rfl) rfl ?_
            refine ww_aload (i := 4) dX6_fit_13 rfl ?_
            refine ww_getI (f := 161) wf_X6_87 dX6_fit_15 rfl rfl (show ww_is _ _ 4 from hh4).1 (show ww_is _ _ 4 from hh4).2 ?_
            refine ww_aload_n (i := 3) dX6_fit_18 rfl rfl ?_
            refine ww_getI (f := 161) wf_X6_87 dX6_fit_19 rfl rfl (show ww_is _ _ 4 from hi4).1 (show ww_is _ _ 4 from hi4).2 ?_
            refine ww_callS wk_X6_90 rfl dX6_fit_22 (hpl) rfl rfl (by omega) (by omega) (by omega) (by first | exact Nat.le_of_ble_eq_true rfl | (simp [ww_rf_cat, Value.category])) rfl (fun E M9 h9 => h9.elim) (fun v9 M9 h9 => ?_)
            obtain ⟨rfl, rfl⟩ := h9
            refine ww_istore (i := 5) (lv2 := [(0, _), (1, _), (2, _), (3, _), (4, _), (5, _)]) dX6_fit_25 (Nat.le_of_ble_eq_true rfl) rfl ?_
            refine ww_iload (i := 5) dX6_fit_27 rfl ?_
            refine ww_if_ne_t (tgt := 42) dX6_fit_29 (by decide) hz ?_
            refine ww_aload_n (i := 3) dX6_fit_42 rfl rfl ?_
            refine ww_callV (κ := 4) (r := (RX3, TX3, 18)) wk_X6_96 dX6_fit_43 (p_store_t hf hG hp c1) rfl rfl (show ww_is _ _ 4 from hi4).1 (show ww_is _ _ 4 from hi4).2 rfl rfl (by omega) (by omega) (by omega) (by first | exact Nat.le_of_ble_eq_true rfl | (simp [ww_rf_cat, Value.category])) rfl (fun E M9 h9 => h9.elim) (fun v9 M9 h9 => ?_)
            obtain ⟨rfl, rfl⟩ := h9
            refine ww_if_eq_f (tgt := 56) dX6_fit_46 (by decide) (by decide) ?_
            refine ww_aload_n (i := 3) dX6_fit_49 rfl rfl ?_
            refine ww_getI (f := 171) wf_X6_100 dX6_fit_50 rfl rfl (show ww_is _ _ 4 from hi4).1 (show ww_is _ _ 4 from hi4).2 ?_
            refine ww_if_eq_t (tgt := 66) dX6_fit_53 (by decide) (k9.trans c2) ?_
            refine ww_aload (i := 4) dX6_fit_66 rfl ?_
            refine ww_getI (f := 167) wf_X6_106 dX6_fit_68 rfl rfl (show ww_is _ _ 4 from hh4).1 (show ww_is _ _ 4 from hh4).2 ?_
            refine ww_if_ne_f (tgt := 97) dX6_fit_71 (by decide) k167 ?_
            refine ww_aload (i := 4) dX6_fit_74 rfl ?_
            refine ww_callV (κ := 4) (r := (RX3, TX3, 18)) wk_X6_109 dX6_fit_76 (p_bound_f hf hG hh c4) rfl rfl (show ww_is _ _ 4 from hh4).1 (show ww_is _ _ 4 from hh4).2 rfl rfl (by omega) (by omega) (by omega) (by first | exact Nat.le_of_ble_eq_true rfl | (simp [ww_rf_cat, Value.category])) rfl (fun E M9 h9 => h9.elim) (fun v9 M9 h9 => ?_)
            obtain ⟨rfl, rfl⟩ := h9
            refine ww_if_ne_f (tgt := 97) dX6_fit_79 (by decide) (by decide) ?_
            refine ww_aload_n (i := 0) dX6_fit_82 rfl rfl ?_
            refine ww_aload (i := 4) dX6_fit_83 rfl ?_
            refine ww_aload_n (i := 3) dX6_fit_85 rfl rfl ?_
            refine ww_getI (f := 161) wf_X6_87 dX6_fit_86 rfl rfl (show ww_is _ _ 4 from hi4).1 (show ww_is _ _ 4 from hi4).2 ?_
            refine ww_callV (κ := 7) (r := (RX6, TX6, 4)) wk_X6_112 dX6_fit_89 (hin) rfl rfl (show ww_is _ _ 7 from hw.1).1 (show ww_is _ _ 7 from hw.1).2 rfl rfl (by omega) (by omega) (by omega) (by first | exact Nat.le_of_ble_eq_true rfl | (simp [ww_rf_cat, Value.category])) rfl (fun E M9 h9 => h9.elim) (fun v9 M9 h9 => ?_)
            obtain ⟨rfl, rfl⟩ := h9
            refine ww_iload (i := 5) dX6_fit_92 rfl ?_
            refine ww_icmp_lt_f (tgt := 107) dX6_fit_94 (by decide) c5' ?_
            exact ww_throw wx_X6_56_116 dX6_fit_97 dX6_fit_100 dX6_fit_101 dX6_fit_103 dX6_fit_106 rfl (Nat.le_of_ble_eq_true rfl) (by omega) (by omega) (by first | exact Nat.le_of_ble_eq_true rfl | (simp [ww_rf_cat, Value.category])) ⟨rfl, rfl⟩
    · refine ww_aload_n (i := 0) dX6_fit_0 rfl rfl ?_
      refine ww_iload_n (i := 1) dX6_fit_1 rfl rfl ?_
      refine ww_callV (κ := 7) (r := (RX6, TX6, 4)) wk_X6_83 dX6_fit_2 (c_existing hw hf hp) rfl rfl (show ww_is _ _ 7 from hw.1).1 (show ww_is _ _ 7 from hw.1).2 rfl rfl (by omega) (by omega) (by omega) (by first | exact Nat.le_of_ble_eq_true rfl | (simp [ww_rf_cat, Value.category])) rfl (fun E M9 h9 => h9.elim) (fun v9 M9 h9 => ?_)
      obtain ⟨rfl, rfl⟩ := h9
      first | refine ww_astore_n (i := 3) (lv2 := [(0, _), (1, _), (2, _), (3, _)]) dX6_fit_5 rfl (Nat.le_of_ble_eq_true rfl) rfl ?_ | refine ww_astore_nQ (i := 3) (lv2 := [(0, _), (1, _), (2, _), (3, _)]) dX6_fit_5 rfl (Nat.le_of_ble_eq_true rfl) rfl ?_
      refine ww_aload_n (i := 0) dX6_fit_6 rfl rfl ?_
      refine ww_iload_n (i := 2) dX6_fit_7 rfl rfl ?_
      refine ww_callV (κ := 7) (r := (RX6, TX6, 4)) wk_X6_83 dX6_fit_8 (c_existing hw hf hh) rfl rfl (show ww_is _ _ 7 from hw.1).1 (show ww_is _ _ 7 from hw.1).2 rfl rfl (by omega) (by omega) (by omega) (by first | exact Nat.le_of_ble_eq_true rfl | (simp [ww_rf_cat, Value.category])) rfl (fun E M9 h9 => h9.elim) (fun v9 M9 h9 => ?_)
      obtain ⟨rfl, rfl⟩ := h9
      first | refine ww_astore (i := 4) (lv2 := [(0, _), (1, _), (2, _), (3, _), (4, _)]) dX6_fit_11 (Nat.le_of_ble_eq_true rfl) rfl ?_ | refine ww_astoreQ (i := 4) (lv2 := [(0, _), (1, _), (2, _), (3, _), (4, _)]) dX6_fit_11 (Nat.le_of_ble_eq_true rfl) rfl ?_
      refine ww_aload (i := 4) dX6_fit_13 rfl ?_
      refine ww_getI (f := 161) wf_X6_87 dX6_fit_15 rfl rfl (show ww_is _ _ 4 from hh4).1 (show ww_is _ _ 4 from hh4).2 ?_
      refine ww_aload_n (i := 3) dX6_fit_18 rfl rfl ?_
      refine ww_getI (f := 161) wf_X6_87 dX6_fit_19 rfl rfl (show ww_is _ _ 4 from hi4).1 (show ww_is _ _ 4 from hi4).2 ?_
      refine ww_callS wk_X6_90 rfl dX6_fit_22 (hpl) rfl rfl (by omega) (by omega) (by omega) (by first | exact Nat.le_of_ble_eq_true rfl | (simp [ww_rf_cat, Value.category])) rfl (fun E M9 h9 => h9.elim) (fun v9 M9 h9 => ?_)
      obtain ⟨rfl, rfl⟩ := h9
      refine ww_istore (i := 5) (lv2 := [(0, _), (1, _), (2, _), (3, _), (4, _), (5, _)]) dX6_fit_25 (Nat.le_of_ble_eq_true rfl) rfl ?_
      refine ww_iload (i := 5) dX6_fit_27 rfl ?_
      refine ww_if_ne_t (tgt := 42) dX6_fit_29 (by decide) hz ?_
      refine ww_aload_n (i := 3) dX6_fit_42 rfl rfl ?_
      refine ww_callV (κ := 4) (r := (RX3, TX3, 18)) wk_X6_96 dX6_fit_43 (p_store_t hf hG hp c1) rfl rfl (show ww_is _ _ 4 from hi4).1 (show ww_is _ _ 4 from hi4).2 rfl rfl (by omega) (by omega) (by omega) (by first | exact Nat.le_of_ble_eq_true rfl | (simp [ww_rf_cat, Value.category])) rfl (fun E M9 h9 => h9.elim) (fun v9 M9 h9 => ?_)
      obtain ⟨rfl, rfl⟩ := h9
      refine ww_if_eq_f (tgt := 56) dX6_fit_46 (by decide) (by decide) ?_
      refine ww_aload_n (i := 3) dX6_fit_49 rfl rfl ?_
      refine ww_getI (f := 171) wf_X6_100 dX6_fit_50 rfl rfl (show ww_is _ _ 4 from hi4).1 (show ww_is _ _ 4 from hi4).2 ?_
      refine ww_if_eq_f (tgt := 66) dX6_fit_53 (by decide) (by rw [k9]; exact c2) ?_
      exact ww_throw wx_X6_56_104 dX6_fit_56 dX6_fit_59 dX6_fit_60 dX6_fit_62 dX6_fit_65 rfl (Nat.le_of_ble_eq_true rfl) (by omega) (by omega) (by first | exact Nat.le_of_ble_eq_true rfl | (simp [ww_rf_cat, Value.category])) ⟨rfl, rfl⟩
  · refine ww_aload_n (i := 0) dX6_fit_0 rfl rfl ?_
    refine ww_iload_n (i := 1) dX6_fit_1 rfl rfl ?_
    refine ww_callV (κ := 7) (r := (RX6, TX6, 4)) wk_X6_83 dX6_fit_2 (c_existing hw hf hp) rfl rfl (show ww_is _ _ 7 from hw.1).1 (show ww_is _ _ 7 from hw.1).2 rfl rfl (by omega) (by omega) (by omega) (by first | exact Nat.le_of_ble_eq_true rfl | (simp [ww_rf_cat, Value.category])) rfl (fun E M9 h9 => h9.elim) (fun v9 M9 h9 => ?_)
    obtain ⟨rfl, rfl⟩ := h9
    first | refine ww_astore_n (i := 3) (lv2 := [(0, _), (1, _), (2, _), (3, _)]) dX6_fit_5 rfl (Nat.le_of_ble_eq_true rfl) rfl ?_ | refine ww_astore_nQ (i := 3) (lv2 := [(0, _), (1, _), (2, _), (3, _)]) dX6_fit_5 rfl (Nat.le_of_ble_eq_true rfl) rfl ?_
    refine ww_aload_n (i := 0) dX6_fit_6 rfl rfl ?_
    refine ww_iload_n (i := 2) dX6_fit_7 rfl rfl ?_
    refine ww_callV (κ := 7) (r := (RX6, TX6, 4)) wk_X6_83 dX6_fit_8 (c_existing hw hf hh) rfl rfl (show ww_is _ _ 7 from hw.1).1 (show ww_is _ _ 7 from hw.1).2 rfl rfl (by omega) (by omega) (by omega) (by first | exact Nat.le_of_ble_eq_true rfl | (simp [ww_rf_cat, Value.category])) rfl (fun E M9 h9 => h9.elim) (fun v9 M9 h9 => ?_)
    obtain ⟨rfl, rfl⟩ := h9
    first | refine ww_astore (i := 4) (lv2 := [(0, _), (1, _), (2, _), (3, _), (4, _)]) dX6_fit_11 (Nat.le_of_ble_eq_true rfl) rfl ?_ | refine ww_astoreQ (i := 4) (lv2 := [(0, _), (1, _), (2, _), (3, _), (4, _)]) dX6_fit_11 (Nat.le_of_ble_eq_true rfl) rfl ?_
    refine ww_aload (i := 4) dX6_fit_13 rfl ?_
    refine ww_getI (f := 161) wf_X6_87 dX6_fit_15 rfl rfl (show ww_is _ _ 4 from hh4).1 (show ww_is _ _ 4 from hh4).2 ?_
    refine ww_aload_n (i := 3) dX6_fit_18 rfl rfl ?_
    refine ww_getI (f := 161) wf_X6_87 dX6_fit_19 rfl rfl (show ww_is _ _ 4 from hi4).1 (show ww_is _ _ 4 from hi4).2 ?_
    refine ww_callS wk_X6_90 rfl dX6_fit_22 (hpl) rfl rfl (by omega) (by omega) (by omega) (by first | exact Nat.le_of_ble_eq_true rfl | (simp [ww_rf_cat, Value.category])) rfl (fun E M9 h9 => h9.elim) (fun v9 M9 h9 => ?_)
    obtain ⟨rfl, rfl⟩ := h9
    refine ww_istore (i := 5) (lv2 := [(0, _), (1, _), (2, _), (3, _), (4, _), (5, _)]) dX6_fit_25 (Nat.le_of_ble_eq_true rfl) rfl ?_
    refine ww_iload (i := 5) dX6_fit_27 rfl ?_
    refine ww_if_ne_t (tgt := 42) dX6_fit_29 (by decide) hz ?_
    refine ww_aload_n (i := 3) dX6_fit_42 rfl rfl ?_
    refine ww_callV (κ := 4) (r := (RX3, TX3, 18)) wk_X6_96 dX6_fit_43 (p_store_f hf hG hp c1) rfl rfl (show ww_is _ _ 4 from hi4).1 (show ww_is _ _ 4 from hi4).2 rfl rfl (by omega) (by omega) (by omega) (by first | exact Nat.le_of_ble_eq_true rfl | (simp [ww_rf_cat, Value.category])) rfl (fun E M9 h9 => h9.elim) (fun v9 M9 h9 => ?_)
    obtain ⟨rfl, rfl⟩ := h9
    refine ww_if_eq_t (tgt := 56) dX6_fit_46 (by decide) (by decide) ?_
    exact ww_throw wx_X6_56_104 dX6_fit_56 dX6_fit_59 dX6_fit_60 dX6_fit_62 dX6_fit_65 rfl (Nat.le_of_ble_eq_true rfl) (by omega) (by omega) (by first | exact Nat.le_of_ble_eq_true rfl | (simp [ww_rf_cat, Value.category])) ⟨rfl, rfl⟩
set_option maxRecDepth 20000 in
set_option maxHeartbeats 8000000 in
theorem c_fit_0 (hr : ww_rc g M c ea P W kl f z D E n u w m S) (hG : q_G S n) (h5 : u < 512) (w0 : Nat) {p h : Nat} (hp : p < n) (hh : h < n) (hx : -100 ≤ (S 4 p - S 4 h).toInt) (hc : q_fitP S p h) (hs : q_fitS S n p h) : ww_C g wy_X6_fit 10 2 1037 [.ref (c 0), .int (nI p), .int (nI h)] M (ww_lQ g M c P W kl z D (q_eS E u (nI p) (nI h) 0) n (u + 1) w m (some (.int (nI (q_in (q_fit S w0 p h) n (nI h))))) (q_fit S w0 p h)) ww_no := by
  refine ww_ent (by decide +kernel) (Nat.le_of_ble_eq_true rfl) ⟨rfl, rfl, rfl, trivial⟩ ?_
  have hw := ww_cp_wo hr.1
  have hf := hr.1.2.1.1
  obtain ⟨⟨hi4, _, _, _, km, _⟩, _, _, _, _, ⟨_, _, _, k9, _⟩, _⟩ := hf.1 p hp
  obtain ⟨⟨hh4, _, _, _, kn, _⟩, _, _, _, k167, _⟩ := hf.1 h hh
  have hpl := c_placesFor (g := g) (M := M) (S 2 h) (S 2 p)
  rw [← ww_pf_kd hf p hp, ← ww_pf_kd hf h hh] at hpl
  have hz : ¬ q_places (ww_I M 161 (P h)) (ww_I M 161 (P p)) = 0 := by rw [ww_pf_kd hf p hp, ww_pf_kd hf h hh]; exact hc
  have hin := p_inside (g := g) hw hf hG hh (ww_I M 161 (P p))
  obtain ⟨c1, c2, c3, c4, c5, c6, c7⟩ := hs
  rw [if_neg c3] at k167
  have c5' : nI (q_inK S n (nI h) (ww_I M 161 (P p))) < q_places (ww_I M 161 (P h)) (ww_I M 161 (P p)) := by rw [ww_pf_kd hf p hp, ww_pf_kd hf h hh]; exact c5
  have c6' : (if 0 ≤ ww_I M 163 (P p) - ww_I M 163 (P h) then ww_I M 163 (P p) - ww_I M 163 (P h) else 0 - (ww_I M 163 (P p) - ww_I M 163 (P h))) ≤ 1 := by
    rw [km, kn, q_abs1 hx]
    exact ⟨c6, c7⟩
  have hlt : (S 2 h).toInt < (S 2 p).toInt := q_places_lt hc (q_gh_kd hG.2.2.1 hh).1 (q_gh_kd hG.2.2.1 hh).2
  have h6 := hG.2.1
  have f1 : ww_pf (ww_sR M 166 (P p) (some (P h))) P W kl n (ww_u2 S 5 p (nI h)) := ww_pf_166 hf hp (by rw [c1]; decide) (fun y => absurd (show ¬ nI h < 0 from nI_pos (by omega)) (by rw [y]; decide)) (by rw [if_neg (nI_pos (by omega)), nI_clamp (by omega)])
  have t1 : ww_ft M (ww_sR M 166 (P p) (some (P h))) (ww_pk M) (fun _ => False) := ww_ft_sR ww_ft_rf (Or.inr (Or.inl hi4.2))
  have hr1 := ww_rc_up hr t1 f1 (fun _ _ => rfl) rfl rfl rfl
  have hG1 := q_G_fit hG hh hlt
  have hR282 : ww_R (ww_sR M 166 (P p) (some (P h))) 282 (c 0) = some (c 5) := hr1.2.1.1
  have hlg := hr1.2.1.2.1
  have hx1 : ww_is (ww_sR M 166 (P p) (some (P h))).1 (c 0) 7 := hr1.1.1.1
  refine ww_aload_n (i := 0) dX6_fit_0 rfl rfl ?_
  refine ww_iload_n (i := 1) dX6_fit_1 rfl rfl ?_
  refine ww_callV (κ := 7) (r := (RX6, TX6, 4)) wk_X6_83 dX6_fit_2 (c_existing hw hf hp) rfl rfl (show ww_is _ _ 7 from hw.1).1 (show ww_is _ _ 7 from hw.1).2 rfl rfl (by omega) (by omega) (by omega) (by first | exact Nat.le_of_ble_eq_true rfl | (simp [ww_rf_cat, Value.category])) rfl (fun E M9 h9 => h9.elim) (fun v9 M9 h9 => ?_)
  obtain ⟨rfl, rfl⟩ := h9
  first | refine ww_astore_n (i := 3) (lv2 := [(0, _), (1, _), (2, _), (3, _)]) dX6_fit_5 rfl (Nat.le_of_ble_eq_true rfl) rfl ?_ | refine ww_astore_nQ (i := 3) (lv2 := [(0, _), (1, _), (2, _), (3, _)]) dX6_fit_5 rfl (Nat.le_of_ble_eq_true rfl) rfl ?_
  refine ww_aload_n (i := 0) dX6_fit_6 rfl rfl ?_
  refine ww_iload_n (i := 2) dX6_fit_7 rfl rfl ?_
  refine ww_callV (κ := 7) (r := (RX6, TX6, 4)) wk_X6_83 dX6_fit_8 (c_existing hw hf hh) rfl rfl (show ww_is _ _ 7 from hw.1).1 (show ww_is _ _ 7 from hw.1).2 rfl rfl (by omega) (by omega) (by omega) (by first | exact Nat.le_of_ble_eq_true rfl | (simp [ww_rf_cat, Value.category])) rfl (fun E M9 h9 => h9.elim) (fun v9 M9 h9 => ?_)
  obtain ⟨rfl, rfl⟩ := h9
  first | refine ww_astore (i := 4) (lv2 := [(0, _), (1, _), (2, _), (3, _), (4, _)]) dX6_fit_11 (Nat.le_of_ble_eq_true rfl) rfl ?_ | refine ww_astoreQ (i := 4) (lv2 := [(0, _), (1, _), (2, _), (3, _), (4, _)]) dX6_fit_11 (Nat.le_of_ble_eq_true rfl) rfl ?_
  refine ww_aload (i := 4) dX6_fit_13 rfl ?_
  refine ww_getI (f := 161) wf_X6_87 dX6_fit_15 rfl rfl (show ww_is _ _ 4 from hh4).1 (show ww_is _ _ 4 from hh4).2 ?_
  refine ww_aload_n (i := 3) dX6_fit_18 rfl rfl ?_
  refine ww_getI (f := 161) wf_X6_87 dX6_fit_19 rfl rfl (show ww_is _ _ 4 from hi4).1 (show ww_is _ _ 4 from hi4).2 ?_
  refine ww_callS wk_X6_90 rfl dX6_fit_22 (hpl) rfl rfl (by omega) (by omega) (by omega) (by first | exact Nat.le_of_ble_eq_true rfl | (simp [ww_rf_cat, Value.category])) rfl (fun E M9 h9 => h9.elim) (fun v9 M9 h9 => ?_)
  obtain ⟨rfl, rfl⟩ := h9
  refine ww_istore (i := 5) (lv2 := [(0, _), (1, _), (2, _), (3, _), (4, _), (5, _)]) dX6_fit_25 (Nat.le_of_ble_eq_true rfl) rfl ?_
  refine ww_iload (i := 5) dX6_fit_27 rfl ?_
  refine ww_if_ne_t (tgt := 42) dX6_fit_29 (by decide) hz ?_
  refine ww_aload_n (i := 3) dX6_fit_42 rfl rfl ?_
  refine ww_callV (κ := 4) (r := (RX3, TX3, 18)) wk_X6_96 dX6_fit_43 (p_store_t hf hG hp c1) rfl rfl (show ww_is _ _ 4 from hi4).1 (show ww_is _ _ 4 from hi4).2 rfl rfl (by omega) (by omega) (by omega) (by first | exact Nat.le_of_ble_eq_true rfl | (simp [ww_rf_cat, Value.category])) rfl (fun E M9 h9 => h9.elim) (fun v9 M9 h9 => ?_)
  obtain ⟨rfl, rfl⟩ := h9
  refine ww_if_eq_f (tgt := 56) dX6_fit_46 (by decide) (by decide) ?_
  refine ww_aload_n (i := 3) dX6_fit_49 rfl rfl ?_
  refine ww_getI (f := 171) wf_X6_100 dX6_fit_50 rfl rfl (show ww_is _ _ 4 from hi4).1 (show ww_is _ _ 4 from hi4).2 ?_
  refine ww_if_eq_t (tgt := 66) dX6_fit_53 (by decide) (k9.trans c2) ?_
  refine ww_aload (i := 4) dX6_fit_66 rfl ?_
  refine ww_getI (f := 167) wf_X6_106 dX6_fit_68 rfl rfl (show ww_is _ _ 4 from hh4).1 (show ww_is _ _ 4 from hh4).2 ?_
  refine ww_if_ne_f (tgt := 97) dX6_fit_71 (by decide) k167 ?_
  refine ww_aload (i := 4) dX6_fit_74 rfl ?_
  refine ww_callV (κ := 4) (r := (RX3, TX3, 18)) wk_X6_109 dX6_fit_76 (p_bound_f hf hG hh c4) rfl rfl (show ww_is _ _ 4 from hh4).1 (show ww_is _ _ 4 from hh4).2 rfl rfl (by omega) (by omega) (by omega) (by first | exact Nat.le_of_ble_eq_true rfl | (simp [ww_rf_cat, Value.category])) rfl (fun E M9 h9 => h9.elim) (fun v9 M9 h9 => ?_)
  obtain ⟨rfl, rfl⟩ := h9
  refine ww_if_ne_f (tgt := 97) dX6_fit_79 (by decide) (by decide) ?_
  refine ww_aload_n (i := 0) dX6_fit_82 rfl rfl ?_
  refine ww_aload (i := 4) dX6_fit_83 rfl ?_
  refine ww_aload_n (i := 3) dX6_fit_85 rfl rfl ?_
  refine ww_getI (f := 161) wf_X6_87 dX6_fit_86 rfl rfl (show ww_is _ _ 4 from hi4).1 (show ww_is _ _ 4 from hi4).2 ?_
  refine ww_callV (κ := 7) (r := (RX6, TX6, 4)) wk_X6_112 dX6_fit_89 (hin) rfl rfl (show ww_is _ _ 7 from hw.1).1 (show ww_is _ _ 7 from hw.1).2 rfl rfl (by omega) (by omega) (by omega) (by first | exact Nat.le_of_ble_eq_true rfl | (simp [ww_rf_cat, Value.category])) rfl (fun E M9 h9 => h9.elim) (fun v9 M9 h9 => ?_)
  obtain ⟨rfl, rfl⟩ := h9
  refine ww_iload (i := 5) dX6_fit_92 rfl ?_
  refine ww_icmp_lt_t (tgt := 107) dX6_fit_94 (by decide) c5' ?_
  refine ww_aload_n (i := 3) dX6_fit_107 rfl rfl ?_
  refine ww_getI (f := 163) wf_X6_118 dX6_fit_108 rfl rfl (show ww_is _ _ 4 from hi4).1 (show ww_is _ _ 4 from hi4).2 ?_
  refine ww_aload (i := 4) dX6_fit_111 rfl ?_
  refine ww_getI (f := 163) wf_X6_118 dX6_fit_113 rfl rfl (show ww_is _ _ 4 from hh4).1 (show ww_is _ _ 4 from hh4).2 ?_
  refine ww_isub dX6_fit_116 ?_
  refine ww_mabs wk_X6_121 dX6_fit_117 (by omega) (by first | exact Nat.le_of_ble_eq_true rfl | (simp [ww_rf_cat, Value.category])) ?_
  refine ww_iconst (v := 1) dX6_fit_120 (by decide) ?_
  refine ww_icmp_le_t (tgt := 134) dX6_fit_121 (by decide) c6' ?_
  refine ww_aload_n (i := 3) dX6_fit_134 rfl rfl ?_
  refine ww_aload (i := 4) dX6_fit_135 rfl ?_
  refine ww_putQ (f := 166) wf_X6_129 wt_4_6 dX6_fit_137 rfl rfl (show ww_is _ _ 4 from hi4).1 (show ww_is _ _ 4 from hi4).2 (r := some _) rfl rfl rfl ?_
  -- at 140, locals [0, 1, 2, 3, 4, 5]
  refine ww_aload_n (i := 0) dX6_fit_140 rfl rfl ?_
  refine ww_getR (f := 282) wf_X6_25 dX6_fit_141 rfl rfl (show ww_is _ _ 7 from hx1).1 (show ww_is _ _ 7 from hx1).2 hR282 ?_
  refine ww_iload_n (i := 1) dX6_fit_144 rfl rfl ?_
  refine ww_iload_n (i := 2) dX6_fit_145 rfl rfl ?_
  refine ww_callV (κ := 3) (r := (RX2, TX2, 2)) wk_X6_133 dX6_fit_146 (c_addMove hr1.2.1.2 h5 (nI p) (nI h)) rfl rfl (show ww_is _ _ 3 from hlg).1 (show ww_is _ _ 3 from hlg).2 rfl rfl (by omega) (by omega) (by omega) (by first | exact Nat.le_of_ble_eq_true rfl | (simp [ww_rf_cat, Value.category])) rfl (fun E M9 h9 => h9.elim) (fun v9 M9 h9 => ?_)
  skip
  -- at 149, locals [0, 1, 2, 3, 4, 5]
  refine ww_geL (fun hge => ?_)
  obtain ⟨ea', f', hr2, hck2, _⟩ := ww_rc_log hr1 h9 hge
  obtain ⟨rfl, _⟩ := h9
  have hf2 := hr2.1.2.1.1
  have hh42 := (hf2.1 h hh).1.1
  have htop := p_top (g := g) hf2 hG1 hh
  have hd := q_hd_lt hG1.2.2.1 hG1.2.1 5 h hh
  have ht4 := (hf2.1 _ hd).1.1
  have hkp : ww_kp M9 (ww_sI M9 175 (P (q_hd (ww_u2 S 5 p (nI h) 5) 5 h)) 0) := ww_kp_I ww_kp_rf (by decide)
  obtain ⟨hr3, hck3⟩ := ww_kp_rc hr2 hkp (ww_pf_175 (v := 0) hf2 hd) rfl rfl
  have hw3 := ww_cp_wo hr3.1
  have hG3 : q_G (ww_u2 (ww_u2 S 5 p (nI h)) 11 (q_hd (ww_u2 S 5 p (nI h) 5) 5 h) 0) n := q_G_b hG1 (Or.inl rfl) (by decide)
  have hin2 := p_inside2 (g := g) hw3 hr3.1.2.1.1 hG3 hh
  have e5 : q_fit S w0 p h 5 = ww_u2 S 5 p (nI h) 5 := by
    funext i
    exact (ww_u2n (fun y => absurd y.1 (by decide))).trans ((congrFun (q_moves_us (S := q_us S 0 0) rfl) i).trans (congrFun (ww_u2_k (q_us_use rfl rfl)) i))
  have ev : q_in (ww_u2 (ww_u2 S 5 p (nI h)) 11 (q_hd (ww_u2 S 5 p (nI h) 5) 5 h) 0) n (nI h) = q_in (q_fit S w0 p h) n (nI h) := by
    unfold q_in
    rw [e5]
    rfl
  rw [ev] at hin2
  have hfin : ww_rc g (ww_sI M9 175 (P (q_hd (ww_u2 S 5 p (nI h) 5) 5 h)) 0) c ea' P W kl f' z D (q_eS E u (nI p) (nI h) 0) n (u + 1) w m (q_fit S w0 p h) := ww_rc_us hr3 (fun k hk => by
    rw [q_hd_fit hG hh hlt]
    exact ww_u2_k ((q_moves_us hk).trans (ww_u2_k (q_us_use hk rfl))))
  have hck : ww_ck c M (ww_sI M9 175 (P (q_hd (ww_u2 S 5 p (nI h) 5) 5 h)) 0) := ww_ck_tr (ww_ck_tr (ww_ck_pk t1) hck2) hck3
  have hx3 : ww_is (ww_sI M9 175 (P (q_hd (ww_u2 S 5 p (nI h) 5) 5 h)) 0).1 (c 0) 7 := hr3.1.1.1
  refine ww_aload (i := 4) dX6_fit_149 rfl ?_
  refine ww_callV (κ := 4) (r := (RX3, TX3, 18)) wk_X6_137 dX6_fit_151 (htop) rfl rfl (show ww_is _ _ 4 from hh42).1 (show ww_is _ _ 4 from hh42).2 rfl rfl (by omega) (by omega) (by omega) (by first | exact Nat.le_of_ble_eq_true rfl | (simp [ww_rf_cat, Value.category])) rfl (fun E M9 h9 => h9.elim) (fun v9 M9 h9 => ?_)
  obtain ⟨rfl, rfl⟩ := h9
  refine ww_iconst (v := 0) dX6_fit_154 (by decide) ?_
  refine ww_putI (f := 175) wf_X6_141 wt_4_15 dX6_fit_155 rfl rfl (show ww_is _ _ 4 from ht4).1 (show ww_is _ _ 4 from ht4).2 (by first | rfl | exact ww_b_nar) (by first | rfl | exact ww_b_fit) ?_
  refine ww_aload_n (i := 0) dX6_fit_158 rfl rfl ?_
  refine ww_aload (i := 4) dX6_fit_159 rfl ?_
  refine ww_callV (κ := 7) (r := (RX6, TX6, 4)) wk_X6_144 dX6_fit_161 (hin2) rfl rfl (show ww_is _ _ 7 from hx3).1 (show ww_is _ _ 7 from hx3).2 rfl rfl (by omega) (by omega) (by omega) (by first | exact Nat.le_of_ble_eq_true rfl | (simp [ww_rf_cat, Value.category])) rfl (fun E M9 h9 => h9.elim) (fun v9 M9 h9 => ?_)
  obtain ⟨rfl, rfl⟩ := h9
  exact ww_ireturn dX6_fit_164 rfl (by first | rfl | exact ww_b_nar) ⟨rfl, ea', f', hfin, hck⟩
end WWA5
