/-! ===== the model changed in its content alone ===== -/
def ww_up (x : Nat) (ar : Nat → Nat) (M : ww_M) (S' : Nat → Nat → Int32) (M' : ww_M) : Prop :=
  M'.1 = M.1 ∧ M'.2.2.1 = M.2.2.1 ∧ ww_Y M' = ww_Y M ∧ ww_Z M' = ww_Z M ∧ (∀ f a, f < 320 → ww_I M' f a = ww_I M f a) ∧ (∀ a, (∀ k, ww_mr k = true → a ≠ ar k) → ww_X M' a = ww_X M a) ∧ q_S M' x ar = S'
section WWU
variable {g : ww_G} {M M1 : ww_M} {x : Nat} {ar : Nat → Nat} {n w : Nat} {S' : Nat → Nat → Int32}
theorem ww_up_rf : ww_up x ar M (q_S M x ar) M := ⟨rfl, rfl, rfl, rfl, fun _ _ _ => rfl, fun _ _ => rfl, rfl⟩
theorem ww_up_mo (hM : ww_mo x ar M.1 M.2.2.1) (h : ww_up x ar M S' M1) : ww_mo x ar M1.1 M1.2.2.1 := by
  rw [h.1, h.2.1]; exact hM
theorem q_S_a {k i : Nat} (h : ww_mr k = true) : q_S M x ar k i = ww_X M (ar k) i := if_pos h
theorem q_S_s {k i : Nat} (h : ¬ ww_mr k = true) : q_S M x ar k i = ww_I M (320 + k) x := if_neg h
theorem q_S_sX {k i : Nat} {v : Int32} (hM : ww_mo x ar M.1 M.2.2.1) (hk : ww_mr k = true) : q_S (ww_sX M (ar k) i v) x ar = ww_u2 (q_S M x ar) k i v := by
  funext k' i'
  by_cases h1 : ww_mr k' = true
  · rw [q_S_a h1]
    show (if ar k' = ar k ∧ i' = i then v else ww_X M (ar k') i') = if k' = k ∧ i' = i then v else q_S M x ar k' i'
    rw [q_S_a h1]
    by_cases h2 : k' = k
    · subst h2
      by_cases h3 : i' = i
      · rw [if_pos ⟨rfl, h3⟩, if_pos ⟨rfl, h3⟩]
      · rw [if_neg (fun z => h3 z.2), if_neg (fun z => h3 z.2)]
    · rw [if_neg (fun z => h2 (hM.2.2.2 k' k h1 hk z.1)), if_neg (fun z => h2 z.1)]
  · have h2 : k' ≠ k := fun z => h1 (by rw [z]; exact hk)
    rw [q_S_s h1]
    show ww_I M (320 + k') x = if k' = k ∧ i' = i then v else q_S M x ar k' i'
    rw [q_S_s h1, if_neg (fun z => h2 z.1)]
theorem q_S_sI {k : Nat} {v : Int32} (hk : ww_mr k = false) : q_S (ww_sI M (320 + k) x v) x ar = q_us (q_S M x ar) k v := by
  funext k' i'
  by_cases h1 : ww_mr k' = true
  · have h2 : k' ≠ k := fun z => by rw [z, hk] at h1; exact absurd h1 (by decide)
    rw [q_S_a h1]
    show ww_X M (ar k') i' = if k' = k then v else q_S M x ar k' i'
    rw [if_neg h2, q_S_a h1]
  · rw [q_S_s h1]
    show (if 320 + k' = 320 + k ∧ x = x then v else ww_I M (320 + k') x) = if k' = k then v else q_S M x ar k' i'
    rw [q_S_s h1]
    by_cases h2 : k' = k
    · subst h2
      rw [if_pos ⟨rfl, rfl⟩, if_pos rfl]
    · rw [if_neg (fun z => h2 (by omega)), if_neg h2]
theorem ww_up_sX {k i : Nat} {v : Int32} (hM : ww_mo x ar M.1 M.2.2.1) (hk : ww_mr k = true) (h : ww_up x ar M S' M1) : ww_up x ar M (ww_u2 S' k i v) (ww_sX M1 (ar k) i v) := by
  have hM1 := ww_up_mo hM h
  obtain ⟨h1, h2, h3, h4, h5, h6, h7⟩ := h
  refine ⟨h1, h2, h3, h4, h5, fun a ha => ?_, ?_⟩
  · rw [ww_row_n (ha k hk)]; exact h6 a ha
  · rw [q_S_sX hM1 hk, h7]
theorem ww_up_sI {k : Nat} {v : Int32} (hk : ww_mr k = false) (h : ww_up x ar M S' M1) : ww_up x ar M (q_us S' k v) (ww_sI M1 (320 + k) x v) := by
  obtain ⟨h1, h2, h3, h4, h5, h6, h7⟩ := h
  refine ⟨h1, h2, h3, h4, fun f a hf => ?_, h6, ?_⟩
  · rw [show ww_I (ww_sI M1 (320 + k) x v) f a = ww_I M1 f a from ww_u2n (fun z => by omega)]
    exact h5 f a hf
  · rw [q_S_sI hk, h7]
theorem ww_up_cg {S2 : Nat → Nat → Int32} (h : ww_up x ar M S' M1) (e : S' = S2) : ww_up x ar M S2 M1 := e ▸ h
theorem ww_up_tr {M2 : ww_M} {S2 : Nat → Nat → Int32} (h : ww_up x ar M S' M1) (h' : ww_up x ar M1 S2 M2) : ww_up x ar M S2 M2 := by
  obtain ⟨h1, h2, h3, h4, h5, h6, h7⟩ := h
  obtain ⟨g1, g2, g3, g4, g5, g6, g7⟩ := h'
  exact ⟨g1.trans h1, g2.trans h2, g3.trans h3, g4.trans h4, fun f a hf => (g5 f a hf).trans (h5 f a hf), fun a ha => (g6 a ha).trans (h6 a ha), g7⟩
/-- a contract's end: v0, and the content S' -/
def ww_ru (x : Nat) (ar : Nat → Nat) (M : ww_M) (v0 : Option Value) (S' : Nat → Nat → Int32) : Option Value → ww_M → Prop := fun v M' => v = v0 ∧ ww_up x ar M S' M'
theorem ww_C_mono {Y : ww_Yd} {d mc ms : Nat} {av : List Value} {Q Q' : Option Value → ww_M → Prop} {X X' : String → ww_M → Prop} (h : ww_C g Y d mc ms av M Q X) (hq : ∀ v M', Q v M' → Q' v M') (hx : ∀ E M', X E M' → X' E M') : ww_C g Y d mc ms av M Q' X' := by
  intro l hl p e h1 h2 h3 s m args below h4 h5 h6 h7
  obtain ⟨n, o, a1, a2, a3, a4⟩ := h l hl p e h1 h2 h3 s m args below h4 h5 h6 h7
  refine ⟨n, o, a1, a2, a3, ?_⟩
  rcases a4 with ⟨⟨⟨v, M', e1, e2, e3⟩, e4⟩, e5⟩ | ⟨q, e0, E, ce, L, ⟨⟨M', e2, e3⟩, e4⟩, e5⟩
  · exact Or.inl ⟨⟨⟨v, M', e1, hq v M' e2, e3⟩, e4⟩, e5⟩
  · exact Or.inr ⟨q, e0, E, ce, L, ⟨⟨M', hx E M' e2, e3⟩, e4⟩, e5⟩
theorem ww_A_mono {Y : ww_Yd} {d kc ks pc : Nat} {lv : List (Nat × Value)} {st : List Value} {Q Q' : Option Value → ww_M → Prop} {X X' : String → ww_M → Prop} (h : ww_A g Y d kc ks M pc lv st Q X) (hq : ∀ v M', Q v M' → Q' v M') (hx : ∀ E M', X E M' → X' E M') : ww_A g Y d kc ks M pc lv st Q' X' := by
  intro p l e R s m args below meth c H locs cells slots mc ms ls C B hl hH hS T hT X0
  obtain ⟨t, a1, o, b1, b2, b3⟩ := h p l e R s m args below meth c H locs cells slots mc ms ls C B hl hH hS T hT X0
  refine ⟨t, a1, o, b1, b2, ?_⟩
  rcases b3 with ⟨⟨⟨v, M', e1, e2, e3⟩, e4⟩, e5⟩ | ⟨q, e0, E, ce, L, ⟨⟨M', e2, e3⟩, e4⟩, e5⟩
  · exact Or.inl ⟨⟨⟨v, M', e1, hq v M' e2, e3⟩, e4⟩, e5⟩
  · exact Or.inr ⟨q, e0, E, ce, L, ⟨⟨M', hx E M' e2, e3⟩, e4⟩, e5⟩
theorem ww_C_up {Y : ww_Yd} {d mc ms : Nat} {av : List Value} {v0 : Option Value} {M' : ww_M} {X : String → ww_M → Prop} (h : ww_C g Y d mc ms av M (ww_ret v0 M') X) (hu : ww_up x ar M S' M') : ww_C g Y d mc ms av M (ww_ru x ar M v0 S') X := ww_C_mono h (fun v M2 h2 => by obtain ⟨rfl, rfl⟩ := h2; exact ⟨rfl, hu⟩) (fun _ _ h => h)
theorem ww_up_cd {c : Int32} : ww_up x ar M (q_us (q_S M x ar) 0 c) (ww_cd M x c) := ww_up_sI (k := 0) rfl ww_up_rf
theorem ww_sX_sX {a i : Nat} {v v' : Int32} : ww_sX (ww_sX M a i v) a i v' = ww_sX M a i v' := by
  have e : ww_u2 (ww_X (ww_sX M a i v)) a i v' = ww_u2 (ww_X M) a i v' := by
    funext b j
    show (if b = a ∧ j = i then v' else ww_u2 (ww_X M) a i v b j) = if b = a ∧ j = i then v' else ww_X M b j
    by_cases h : b = a ∧ j = i
    · rw [if_pos h, if_pos h]
    · rw [if_neg h, if_neg h]; exact if_neg h
  unfold ww_sX at e ⊢
  simp only [e]
theorem ww_sX_id {a i : Nat} {v : Int32} (h : ww_X M a i = v) : ww_sX M a i v = M := by
  have e : ww_u2 (ww_X M) a i v = ww_X M := by
    funext b j
    unfold ww_u2
    by_cases hb : b = a ∧ j = i
    · rw [if_pos hb, hb.1, hb.2, h]
    · rw [if_neg hb]
  unfold ww_sX
  rw [e]
  rfl
set_option maxRecDepth 20000 in
theorem m_take_1 (hM : ww_mo x ar M.1 M.2.2.1) (hn : ww_I M 321 x = nI n) (h6 : n ≤ 60) (p : Int32) (hc : q_noP n p) : ww_C g wy_X7_take 3 0 0 [.ref x, .int p] M (ww_ret (some (.int 0)) (ww_cd M x 1)) ww_no := by
  refine ww_ent (by decide +kernel) (Nat.le_of_ble_eq_true rfl) ⟨rfl, rfl, trivial⟩ ?_
  refine ww_aload_n (i := 0) dX7_take_0 rfl rfl ?_
  refine ww_aload_n (i := 0) dX7_take_1 rfl rfl ?_
  refine ww_iload_n (i := 1) dX7_take_2 rfl rfl ?_
  refine ww_callV (κ := 8) (r := (RX7, TX7, 33)) wk_X7_109 dX7_take_3 (m_isPart_f hM hn h6 hc) rfl rfl (show ww_is _ _ 8 from hM.1).1 (show ww_is _ _ 8 from hM.1).2 rfl rfl (by omega) (by omega) (by omega) (by first | exact Nat.le_of_ble_eq_true rfl | (simp [ww_rf_cat, Value.category])) rfl (fun E M9 h9 => h9.elim) (fun v9 M9 h9 => ?_)
  obtain ⟨rfl, rfl⟩ := h9
  refine ww_if_ne_f (tgt := 13) dX7_take_6 (by decide) (by decide) ?_
  refine ww_iconst (v := 1) dX7_take_9 (by decide) ?_
  refine ww_goto (tgt := 35) dX7_take_10 (by decide) ?_
  refine ww_putI (f := 320) wf_X7_98 wt_8_0 dX7_take_35 rfl rfl hM.1.1 hM.1.2 rfl rfl ?_
  refine ww_aload_n (i := 0) dX7_take_38 rfl rfl ?_
  refine ww_getI (f := 320) wf_X7_98 dX7_take_39 rfl rfl hM.1.1 hM.1.2 ?_
  refine ww_if_le_f (tgt := 47) dX7_take_42 (by decide) (ww_sI_nle (by decide)) ?_
  refine ww_iconst (v := 0) dX7_take_45 (by decide) ?_
  exact ww_ireturn dX7_take_46 rfl (by first | rfl | exact ww_b_nar) ⟨rfl, rfl⟩
def q_takeS (S : Nat → Nat → Int32) (p : Nat) : Prop := ¬ S 5 p < 0 ∧ ¬ q_bound S p
set_option maxRecDepth 20000 in
theorem m_take_2 (hM : ww_mo x ar M.1 M.2.2.1) (hn : ww_I M 321 x = nI n) (h6 : n ≤ 60) (hg : q_gh n (q_S M x ar 2) (q_S M x ar 5)) (b12 : q_bool (q_S M x ar) 12) {p : Nat} (hp : p < n) (hc : ¬ q_takeS (q_S M x ar) p) : ww_C g wy_X7_take 3 0 0 [.ref x, .int (nI p)] M (ww_ret (some (.int 0)) (ww_cd M x 2)) ww_no := by
  refine ww_ent (by decide +kernel) (Nat.le_of_ble_eq_true rfl) ⟨rfl, rfl, trivial⟩ ?_
  by_cases h1 : q_S M x ar 5 p < 0
  · refine ww_aload_n (i := 0) dX7_take_0 rfl rfl ?_
    refine ww_aload_n (i := 0) dX7_take_1 rfl rfl ?_
    refine ww_iload_n (i := 1) dX7_take_2 rfl rfl ?_
    refine ww_callV (κ := 8) (r := (RX7, TX7, 33)) wk_X7_109 dX7_take_3 (m_isPart_t hM hn h6 hp) rfl rfl (show ww_is _ _ 8 from hM.1).1 (show ww_is _ _ 8 from hM.1).2 rfl rfl (by omega) (by omega) (by omega) (by first | exact Nat.le_of_ble_eq_true rfl | (simp [ww_rf_cat, Value.category])) rfl (fun E M9 h9 => h9.elim) (fun v9 M9 h9 => ?_)
    obtain ⟨rfl, rfl⟩ := h9
    refine ww_if_ne_t (tgt := 13) dX7_take_6 (by decide) (by decide) ?_
    refine ww_aload_n (i := 0) dX7_take_13 rfl rfl ?_
    refine ww_getR (f := 325) wf_X7_19 dX7_take_14 rfl rfl hM.1.1 hM.1.2 (hM.2.1 5 rfl) ?_
    refine ww_iload_n (i := 1) dX7_take_17 rfl rfl ?_
    refine ww_mald (k := 5) hM dX7_take_18 rfl rfl rfl (show _ < 60 by omega) ?_
    refine ww_if_lt_t (tgt := 30) dX7_take_19 (by decide) h1 ?_
    refine ww_iconst (v := 2) dX7_take_30 (by decide) ?_
    refine ww_goto (tgt := 35) dX7_take_31 (by decide) ?_
    refine ww_putI (f := 320) wf_X7_98 wt_8_0 dX7_take_35 rfl rfl hM.1.1 hM.1.2 rfl rfl ?_
    refine ww_aload_n (i := 0) dX7_take_38 rfl rfl ?_
    refine ww_getI (f := 320) wf_X7_98 dX7_take_39 rfl rfl hM.1.1 hM.1.2 ?_
    refine ww_if_le_f (tgt := 47) dX7_take_42 (by decide) (ww_sI_nle (by decide)) ?_
    refine ww_iconst (v := 0) dX7_take_45 (by decide) ?_
    exact ww_ireturn dX7_take_46 rfl (by first | rfl | exact ww_b_nar) ⟨rfl, rfl⟩
  · have h2 : q_bound (q_S M x ar) p := Classical.not_not.mp fun z => hc ⟨h1, z⟩
    refine ww_aload_n (i := 0) dX7_take_0 rfl rfl ?_
    refine ww_aload_n (i := 0) dX7_take_1 rfl rfl ?_
    refine ww_iload_n (i := 1) dX7_take_2 rfl rfl ?_
    refine ww_callV (κ := 8) (r := (RX7, TX7, 33)) wk_X7_109 dX7_take_3 (m_isPart_t hM hn h6 hp) rfl rfl (show ww_is _ _ 8 from hM.1).1 (show ww_is _ _ 8 from hM.1).2 rfl rfl (by omega) (by omega) (by omega) (by first | exact Nat.le_of_ble_eq_true rfl | (simp [ww_rf_cat, Value.category])) rfl (fun E M9 h9 => h9.elim) (fun v9 M9 h9 => ?_)
    obtain ⟨rfl, rfl⟩ := h9
    refine ww_if_ne_t (tgt := 13) dX7_take_6 (by decide) (by decide) ?_
    refine ww_aload_n (i := 0) dX7_take_13 rfl rfl ?_
    refine ww_getR (f := 325) wf_X7_19 dX7_take_14 rfl rfl hM.1.1 hM.1.2 (hM.2.1 5 rfl) ?_
    refine ww_iload_n (i := 1) dX7_take_17 rfl rfl ?_
    refine ww_mald (k := 5) hM dX7_take_18 rfl rfl rfl (show _ < 60 by omega) ?_
    refine ww_if_lt_f (tgt := 30) dX7_take_19 (by decide) h1 ?_
    refine ww_aload_n (i := 0) dX7_take_22 rfl rfl ?_
    refine ww_iload_n (i := 1) dX7_take_23 rfl rfl ?_
    refine ww_callV (κ := 8) (r := (RX7, TX7, 33)) wk_X7_125 dX7_take_24 (m_bound_t hM hg h6 hp h2) rfl rfl (show ww_is _ _ 8 from hM.1).1 (show ww_is _ _ 8 from hM.1).2 rfl rfl (by omega) (by omega) (by omega) (by first | exact Nat.le_of_ble_eq_true rfl | (simp [ww_rf_cat, Value.category])) rfl (fun E M9 h9 => h9.elim) (fun v9 M9 h9 => ?_)
    obtain ⟨rfl, rfl⟩ := h9
    refine ww_if_eq_f (tgt := 34) dX7_take_27 (by decide) (by decide) ?_
    refine ww_iconst (v := 2) dX7_take_30 (by decide) ?_
    refine ww_goto (tgt := 35) dX7_take_31 (by decide) ?_
    refine ww_putI (f := 320) wf_X7_98 wt_8_0 dX7_take_35 rfl rfl hM.1.1 hM.1.2 rfl rfl ?_
    refine ww_aload_n (i := 0) dX7_take_38 rfl rfl ?_
    refine ww_getI (f := 320) wf_X7_98 dX7_take_39 rfl rfl hM.1.1 hM.1.2 ?_
    refine ww_if_le_f (tgt := 47) dX7_take_42 (by decide) (ww_sI_nle (by decide)) ?_
    refine ww_iconst (v := 0) dX7_take_45 (by decide) ?_
    exact ww_ireturn dX7_take_46 rfl (by first | rfl | exact ww_b_nar) ⟨rfl, rfl⟩
def ww_mtake (M : ww_M) (x : Nat) (ar : Nat → Nat) (w p : Nat) : ww_M := ww_mmoves (ww_sX (ww_cd M x 0) (ar 11) (q_hd (ww_X M (ar 5)) 5 p) 0) x ar p w (-1)
set_option maxRecDepth 20000 in
theorem m_take_0 (hM : ww_mo x ar M.1 M.2.2.1) (hn : ww_I M 321 x = nI n) (h6 : n ≤ 60) (hg : q_gh n (q_S M x ar 2) (q_S M x ar 5)) (b12 : q_bool (q_S M x ar) 12) (hw : ww_I M 343 x = nI w) (h4 : w < 4000) {p : Nat} (hp : p < n) (hc : q_takeS (q_S M x ar) p) : ww_C g wy_X7_take 3 0 0 [.ref x, .int (nI p)] M (ww_ret (some (.int (q_S M x ar 5 p))) (ww_mtake M x ar w p)) ww_no := by
  refine ww_ent (by decide +kernel) (Nat.le_of_ble_eq_true rfl) ⟨rfl, rfl, trivial⟩ ?_
  refine ww_aload_n (i := 0) dX7_take_0 rfl rfl ?_
  refine ww_aload_n (i := 0) dX7_take_1 rfl rfl ?_
  refine ww_iload_n (i := 1) dX7_take_2 rfl rfl ?_
  refine ww_callV (κ := 8) (r := (RX7, TX7, 33)) wk_X7_109 dX7_take_3 (m_isPart_t hM hn h6 hp) rfl rfl (show ww_is _ _ 8 from hM.1).1 (show ww_is _ _ 8 from hM.1).2 rfl rfl (by omega) (by omega) (by omega) (by first | exact Nat.le_of_ble_eq_true rfl | (simp [ww_rf_cat, Value.category])) rfl (fun E M9 h9 => h9.elim) (fun v9 M9 h9 => ?_)
  obtain ⟨rfl, rfl⟩ := h9
  refine ww_if_ne_t (tgt := 13) dX7_take_6 (by decide) (by decide) ?_
  refine ww_aload_n (i := 0) dX7_take_13 rfl rfl ?_
  refine ww_getR (f := 325) wf_X7_19 dX7_take_14 rfl rfl hM.1.1 hM.1.2 (hM.2.1 5 rfl) ?_
  refine ww_iload_n (i := 1) dX7_take_17 rfl rfl ?_
  refine ww_mald (k := 5) hM dX7_take_18 rfl rfl rfl (show _ < 60 by omega) ?_
  refine ww_if_lt_f (tgt := 30) dX7_take_19 (by decide) hc.1 ?_
  refine ww_aload_n (i := 0) dX7_take_22 rfl rfl ?_
  refine ww_iload_n (i := 1) dX7_take_23 rfl rfl ?_
  refine ww_callV (κ := 8) (r := (RX7, TX7, 33)) wk_X7_125 dX7_take_24 (m_bound_f hM hg h6 b12 hp hc.2) rfl rfl (show ww_is _ _ 8 from hM.1).1 (show ww_is _ _ 8 from hM.1).2 rfl rfl (by omega) (by omega) (by omega) (by first | exact Nat.le_of_ble_eq_true rfl | (simp [ww_rf_cat, Value.category])) rfl (fun E M9 h9 => h9.elim) (fun v9 M9 h9 => ?_)
  obtain ⟨rfl, rfl⟩ := h9
  refine ww_if_eq_t (tgt := 34) dX7_take_27 (by decide) (by decide) ?_
  refine ww_iconst (v := 0) dX7_take_34 (by decide) ?_
  refine ww_putI (f := 320) wf_X7_98 wt_8_0 dX7_take_35 rfl rfl hM.1.1 hM.1.2 rfl rfl ?_
  refine ww_aload_n (i := 0) dX7_take_38 rfl rfl ?_
  refine ww_getI (f := 320) wf_X7_98 dX7_take_39 rfl rfl hM.1.1 hM.1.2 ?_
  refine ww_if_le_t (tgt := 47) dX7_take_42 (by decide) (ww_sI_le (by decide)) ?_
  refine ww_aload_n (i := 0) dX7_take_47 rfl rfl ?_
  refine ww_getR (f := 325) wf_X7_19 dX7_take_48 rfl rfl hM.1.1 hM.1.2 (hM.2.1 5 rfl) ?_
  refine ww_iload_n (i := 1) dX7_take_51 rfl rfl ?_
  refine ww_mald (k := 5) hM dX7_take_52 rfl rfl rfl (show _ < 60 by omega) ?_
  refine ww_istore_n (i := 2) (lv2 := [(0, _), (1, _), (2, _)]) dX7_take_53 rfl (Nat.le_of_ble_eq_true rfl) rfl ?_
  refine ww_aload_n (i := 0) dX7_take_54 rfl rfl ?_
  refine ww_iload_n (i := 1) dX7_take_55 rfl rfl ?_
  refine ww_callV (κ := 8) (r := (RX7, TX7, 33)) wk_X7_135 dX7_take_56 (m_ends (M := ww_cd M x 0) hM hg h6 hp) rfl rfl (show ww_is _ _ 8 from hM.1).1 (show ww_is _ _ 8 from hM.1).2 rfl rfl (by omega) (by omega) (by omega) (by first | exact Nat.le_of_ble_eq_true rfl | (simp [ww_rf_cat, Value.category])) rfl (fun E M9 h9 => h9.elim) (fun v9 M9 h9 => ?_)
  obtain ⟨rfl, rfl⟩ := h9
  refine ww_aload_n (i := 0) dX7_take_59 rfl rfl ?_
  refine ww_iload_n (i := 1) dX7_take_60 rfl rfl ?_
  refine ww_iconst (v := (-1)) dX7_take_61 (by decide) ?_
  refine ww_callV (κ := 8) (r := (RX7, TX7, 33)) wk_X7_131 dX7_take_62 (m_moves (M := ww_sX (ww_cd M x 0) (ar 11) (q_hd (ww_X M (ar 5)) 5 p) 0) hM hw h4 (by omega) (-1)) rfl rfl (show ww_is _ _ 8 from hM.1).1 (show ww_is _ _ 8 from hM.1).2 rfl rfl (by omega) (by omega) (by omega) (by first | exact Nat.le_of_ble_eq_true rfl | (simp [ww_rf_cat, Value.category])) rfl (fun E M9 h9 => h9.elim) (fun v9 M9 h9 => ?_)
  obtain ⟨rfl, rfl⟩ := h9
  refine ww_iload_n (i := 2) dX7_take_65 rfl rfl ?_
  exact ww_ireturn dX7_take_66 rfl (by first | rfl | exact ww_b_nar) ⟨rfl, rfl⟩
set_option maxRecDepth 20000 in
theorem m_scrap_1 (hM : ww_mo x ar M.1 M.2.2.1) (hn : ww_I M 321 x = nI n) (h6 : n ≤ 60) (p : Int32) (hc : q_noP n p) : ww_C g wy_X7_scrap 3 0 0 [.ref x, .int p] M (ww_ret none (ww_cd M x 1)) ww_no := by
  refine ww_ent (by decide +kernel) (Nat.le_of_ble_eq_true rfl) ⟨rfl, rfl, trivial⟩ ?_
  refine ww_aload_n (i := 0) dX7_scrap_0 rfl rfl ?_
  refine ww_aload_n (i := 0) dX7_scrap_1 rfl rfl ?_
  refine ww_iload_n (i := 1) dX7_scrap_2 rfl rfl ?_
  refine ww_callV (κ := 8) (r := (RX7, TX7, 33)) wk_X7_109 dX7_scrap_3 (m_isPart_f hM hn h6 hc) rfl rfl (show ww_is _ _ 8 from hM.1).1 (show ww_is _ _ 8 from hM.1).2 rfl rfl (by omega) (by omega) (by omega) (by first | exact Nat.le_of_ble_eq_true rfl | (simp [ww_rf_cat, Value.category])) rfl (fun E M9 h9 => h9.elim) (fun v9 M9 h9 => ?_)
  obtain ⟨rfl, rfl⟩ := h9
  refine ww_if_ne_f (tgt := 13) dX7_scrap_6 (by decide) (by decide) ?_
  refine ww_iconst (v := 1) dX7_scrap_9 (by decide) ?_
  refine ww_goto (tgt := 53) dX7_scrap_10 (by decide) ?_
  refine ww_putI (f := 320) wf_X7_98 wt_8_0 dX7_scrap_53 rfl rfl hM.1.1 hM.1.2 rfl rfl ?_
  refine ww_aload_n (i := 0) dX7_scrap_56 rfl rfl ?_
  refine ww_getI (f := 320) wf_X7_98 dX7_scrap_57 rfl rfl hM.1.1 hM.1.2 ?_
  refine ww_if_ne_t (tgt := 70) dX7_scrap_60 (by decide) (ww_sI_ne (by decide)) ?_
  exact ww_vreturn dX7_scrap_70 rfl ⟨rfl, rfl⟩
/-- p waits for the night -/
def q_wait (S : Nat → Nat → Int32) (w : Nat) (v : Int32) : Prop := q_any (fun k => S 27 k = v) w
def q_scrapS (S : Nat → Nat → Int32) (n w p : Nat) : Prop := S 5 p = -1 ∧ q_in S n (nI p) = 0 ∧ ¬ q_bound S p ∧ ¬ q_wait S w (nI p)
theorem m_waits_t (hM : ww_mo x ar M.1 M.2.2.1) (hw : ww_I M 346 x = nI w) (h8 : w ≤ 8) {v : Int32} (h : q_wait (q_S M x ar) w v) : ww_C g wy_X7_waits 1 0 0 [.ref x, .int v] M (ww_ret (some (.int 1)) M) ww_no := by
  have e := m_waits (g := g) hM hw h8 v
  rw [show ww_b (q_any (fun k => q_S M x ar 27 k = v) w) = 1 from ww_b_t h] at e
  exact e
theorem m_waits_f (hM : ww_mo x ar M.1 M.2.2.1) (hw : ww_I M 346 x = nI w) (h8 : w ≤ 8) {v : Int32} (h : ¬ q_wait (q_S M x ar) w v) : ww_C g wy_X7_waits 1 0 0 [.ref x, .int v] M (ww_ret (some (.int 0)) M) ww_no := by
  have e := m_waits (g := g) hM hw h8 v
  rw [show ww_b (q_any (fun k => q_S M x ar 27 k = v) w) = 0 from ww_b_f h] at e
  exact e
set_option maxRecDepth 20000 in
set_option maxHeartbeats 4000000 in
theorem m_scrap_2 (hM : ww_mo x ar M.1 M.2.2.1) (hn : ww_I M 321 x = nI n) (h6 : n ≤ 60) (hg : q_gh n (q_S M x ar 2) (q_S M x ar 5)) (b12 : q_bool (q_S M x ar) 12) (hw : ww_I M 346 x = nI w) (h8 : w ≤ 8) {p : Nat} (hp : p < n) (hc : ¬ q_scrapS (q_S M x ar) n w p) : ww_C g wy_X7_scrap 3 0 0 [.ref x, .int (nI p)] M (ww_ret none (ww_cd M x 2)) ww_no := by
  refine ww_ent (by decide +kernel) (Nat.le_of_ble_eq_true rfl) ⟨rfl, rfl, trivial⟩ ?_
  have hle : q_in (q_S M x ar) n (nI p) ≤ n := q_cnt_le _ n
  by_cases h1 : q_S M x ar 5 p = -1
  · by_cases h2 : q_in (q_S M x ar) n (nI p) = 0
    · have h2' : ¬ 0 < nI (q_in (q_S M x ar) n (nI p)) := by rw [h2]; decide
      by_cases h3 : q_bound (q_S M x ar) p
      · refine ww_aload_n (i := 0) dX7_scrap_0 rfl rfl ?_
        refine ww_aload_n (i := 0) dX7_scrap_1 rfl rfl ?_
        refine ww_iload_n (i := 1) dX7_scrap_2 rfl rfl ?_
        refine ww_callV (κ := 8) (r := (RX7, TX7, 33)) wk_X7_109 dX7_scrap_3 (m_isPart_t hM hn h6 hp) rfl rfl (show ww_is _ _ 8 from hM.1).1 (show ww_is _ _ 8 from hM.1).2 rfl rfl (by omega) (by omega) (by omega) (by first | exact Nat.le_of_ble_eq_true rfl | (simp [ww_rf_cat, Value.category])) rfl (fun E M9 h9 => h9.elim) (fun v9 M9 h9 => ?_)
        obtain ⟨rfl, rfl⟩ := h9
        refine ww_if_ne_t (tgt := 13) dX7_scrap_6 (by decide) (by decide) ?_
        refine ww_aload_n (i := 0) dX7_scrap_13 rfl rfl ?_
        refine ww_getR (f := 325) wf_X7_19 dX7_scrap_14 rfl rfl hM.1.1 hM.1.2 (hM.2.1 5 rfl) ?_
        refine ww_iload_n (i := 1) dX7_scrap_17 rfl rfl ?_
        refine ww_mald (k := 5) hM dX7_scrap_18 rfl rfl rfl (show _ < 60 by omega) ?_
        refine ww_iconst (v := (-1)) dX7_scrap_19 (by decide) ?_
        refine ww_icmp_ne_f (tgt := 48) dX7_scrap_20 (by decide) h1 ?_
        refine ww_aload_n (i := 0) dX7_scrap_23 rfl rfl ?_
        refine ww_iload_n (i := 1) dX7_scrap_24 rfl rfl ?_
        refine ww_iconst (v := (-1)) dX7_scrap_25 (by decide) ?_
        refine ww_callV (κ := 8) (r := (RX7, TX7, 33)) wk_X7_128 dX7_scrap_26 (m_inside hM hn h6 (nI p)) rfl rfl (show ww_is _ _ 8 from hM.1).1 (show ww_is _ _ 8 from hM.1).2 rfl rfl (by omega) (by omega) (by omega) (by first | exact Nat.le_of_ble_eq_true rfl | (simp [ww_rf_cat, Value.category])) rfl (fun E M9 h9 => h9.elim) (fun v9 M9 h9 => ?_)
        obtain ⟨rfl, rfl⟩ := h9
        refine ww_if_gt_f (tgt := 48) dX7_scrap_29 (by decide) h2' ?_
        refine ww_aload_n (i := 0) dX7_scrap_32 rfl rfl ?_
        refine ww_iload_n (i := 1) dX7_scrap_33 rfl rfl ?_
        refine ww_callV (κ := 8) (r := (RX7, TX7, 33)) wk_X7_125 dX7_scrap_34 (m_bound_t hM hg h6 hp h3) rfl rfl (show ww_is _ _ 8 from hM.1).1 (show ww_is _ _ 8 from hM.1).2 rfl rfl (by omega) (by omega) (by omega) (by first | exact Nat.le_of_ble_eq_true rfl | (simp [ww_rf_cat, Value.category])) rfl (fun E M9 h9 => h9.elim) (fun v9 M9 h9 => ?_)
        obtain ⟨rfl, rfl⟩ := h9
        refine ww_if_ne_t (tgt := 48) dX7_scrap_37 (by decide) (by decide) ?_
        refine ww_iconst (v := 2) dX7_scrap_48 (by decide) ?_
        refine ww_goto (tgt := 53) dX7_scrap_49 (by decide) ?_
        refine ww_putI (f := 320) wf_X7_98 wt_8_0 dX7_scrap_53 rfl rfl hM.1.1 hM.1.2 rfl rfl ?_
        refine ww_aload_n (i := 0) dX7_scrap_56 rfl rfl ?_
        refine ww_getI (f := 320) wf_X7_98 dX7_scrap_57 rfl rfl hM.1.1 hM.1.2 ?_
        refine ww_if_ne_t (tgt := 70) dX7_scrap_60 (by decide) (ww_sI_ne (by decide)) ?_
        exact ww_vreturn dX7_scrap_70 rfl ⟨rfl, rfl⟩
      · have h4 : q_wait (q_S M x ar) w (nI p) := Classical.not_not.mp fun z => hc ⟨h1, h2, h3, z⟩
        refine ww_aload_n (i := 0) dX7_scrap_0 rfl rfl ?_
        refine ww_aload_n (i := 0) dX7_scrap_1 rfl rfl ?_
        refine ww_iload_n (i := 1) dX7_scrap_2 rfl rfl ?_
        refine ww_callV (κ := 8) (r := (RX7, TX7, 33)) wk_X7_109 dX7_scrap_3 (m_isPart_t hM hn h6 hp) rfl rfl (show ww_is _ _ 8 from hM.1).1 (show ww_is _ _ 8 from hM.1).2 rfl rfl (by omega) (by omega) (by omega) (by first | exact Nat.le_of_ble_eq_true rfl | (simp [ww_rf_cat, Value.category])) rfl (fun E M9 h9 => h9.elim) (fun v9 M9 h9 => ?_)
        obtain ⟨rfl, rfl⟩ := h9
        refine ww_if_ne_t (tgt := 13) dX7_scrap_6 (by decide) (by decide) ?_
        refine ww_aload_n (i := 0) dX7_scrap_13 rfl rfl ?_
        refine ww_getR (f := 325) wf_X7_19 dX7_scrap_14 rfl rfl hM.1.1 hM.1.2 (hM.2.1 5 rfl) ?_
        refine ww_iload_n (i := 1) dX7_scrap_17 rfl rfl ?_
        refine ww_mald (k := 5) hM dX7_scrap_18 rfl rfl rfl (show _ < 60 by omega) ?_
        refine ww_iconst (v := (-1)) dX7_scrap_19 (by decide) ?_
        refine ww_icmp_ne_f (tgt := 48) dX7_scrap_20 (by decide) h1 ?_
        refine ww_aload_n (i := 0) dX7_scrap_23 rfl rfl ?_
        refine ww_iload_n (i := 1) dX7_scrap_24 rfl rfl ?_
        refine ww_iconst (v := (-1)) dX7_scrap_25 (by decide) ?_
        refine ww_callV (κ := 8) (r := (RX7, TX7, 33)) wk_X7_128 dX7_scrap_26 (m_inside hM hn h6 (nI p)) rfl rfl (show ww_is _ _ 8 from hM.1).1 (show ww_is _ _ 8 from hM.1).2 rfl rfl (by omega) (by omega) (by omega) (by first | exact Nat.le_of_ble_eq_true rfl | (simp [ww_rf_cat, Value.category])) rfl (fun E M9 h9 => h9.elim) (fun v9 M9 h9 => ?_)
        obtain ⟨rfl, rfl⟩ := h9
        refine ww_if_gt_f (tgt := 48) dX7_scrap_29 (by decide) h2' ?_
        refine ww_aload_n (i := 0) dX7_scrap_32 rfl rfl ?_
        refine ww_iload_n (i := 1) dX7_scrap_33 rfl rfl ?_
        refine ww_callV (κ := 8) (r := (RX7, TX7, 33)) wk_X7_125 dX7_scrap_34 (m_bound_f hM hg h6 b12 hp h3) rfl rfl (show ww_is _ _ 8 from hM.1).1 (show ww_is _ _ 8 from hM.1).2 rfl rfl (by omega) (by omega) (by omega) (by first | exact Nat.le_of_ble_eq_true rfl | (simp [ww_rf_cat, Value.category])) rfl (fun E M9 h9 => h9.elim) (fun v9 M9 h9 => ?_)
        obtain ⟨rfl, rfl⟩ := h9
        refine ww_if_ne_f (tgt := 48) dX7_scrap_37 (by decide) (by decide) ?_
        refine ww_aload_n (i := 0) dX7_scrap_40 rfl rfl ?_
        refine ww_iload_n (i := 1) dX7_scrap_41 rfl rfl ?_
        refine ww_callV (κ := 8) (r := (RX7, TX7, 33)) wk_X7_142 dX7_scrap_42 (m_waits_t hM hw h8 h4) rfl rfl (show ww_is _ _ 8 from hM.1).1 (show ww_is _ _ 8 from hM.1).2 rfl rfl (by omega) (by omega) (by omega) (by first | exact Nat.le_of_ble_eq_true rfl | (simp [ww_rf_cat, Value.category])) rfl (fun E M9 h9 => h9.elim) (fun v9 M9 h9 => ?_)
        obtain ⟨rfl, rfl⟩ := h9
        refine ww_if_eq_f (tgt := 52) dX7_scrap_45 (by decide) (by decide) ?_
        refine ww_iconst (v := 2) dX7_scrap_48 (by decide) ?_
        refine ww_goto (tgt := 53) dX7_scrap_49 (by decide) ?_
        refine ww_putI (f := 320) wf_X7_98 wt_8_0 dX7_scrap_53 rfl rfl hM.1.1 hM.1.2 rfl rfl ?_
        refine ww_aload_n (i := 0) dX7_scrap_56 rfl rfl ?_
        refine ww_getI (f := 320) wf_X7_98 dX7_scrap_57 rfl rfl hM.1.1 hM.1.2 ?_
        refine ww_if_ne_t (tgt := 70) dX7_scrap_60 (by decide) (ww_sI_ne (by decide)) ?_
        exact ww_vreturn dX7_scrap_70 rfl ⟨rfl, rfl⟩
    · have h2' : 0 < nI (q_in (q_S M x ar) n (nI p)) := nI_lt (a := 0) (by omega) (by omega)
      refine ww_aload_n (i := 0) dX7_scrap_0 rfl rfl ?_
      refine ww_aload_n (i := 0) dX7_scrap_1 rfl rfl ?_
      refine ww_iload_n (i := 1) dX7_scrap_2 rfl rfl ?_
      refine ww_callV (κ := 8) (r := (RX7, TX7, 33)) wk_X7_109 dX7_scrap_3 (m_isPart_t hM hn h6 hp) rfl rfl (show ww_is _ _ 8 from hM.1).1 (show ww_is _ _ 8 from hM.1).2 rfl rfl (by omega) (by omega) (by omega) (by first | exact Nat.le_of_ble_eq_true rfl | (simp [ww_rf_cat, Value.category])) rfl (fun E M9 h9 => h9.elim) (fun v9 M9 h9 => ?_)
      obtain ⟨rfl, rfl⟩ := h9
      refine ww_if_ne_t (tgt := 13) dX7_scrap_6 (by decide) (by decide) ?_
      refine ww_aload_n (i := 0) dX7_scrap_13 rfl rfl ?_
      refine ww_getR (f := 325) wf_X7_19 dX7_scrap_14 rfl rfl hM.1.1 hM.1.2 (hM.2.1 5 rfl) ?_
      refine ww_iload_n (i := 1) dX7_scrap_17 rfl rfl ?_
      refine ww_mald (k := 5) hM dX7_scrap_18 rfl rfl rfl (show _ < 60 by omega) ?_
      refine ww_iconst (v := (-1)) dX7_scrap_19 (by decide) ?_
      refine ww_icmp_ne_f (tgt := 48) dX7_scrap_20 (by decide) h1 ?_
      refine ww_aload_n (i := 0) dX7_scrap_23 rfl rfl ?_
      refine ww_iload_n (i := 1) dX7_scrap_24 rfl rfl ?_
      refine ww_iconst (v := (-1)) dX7_scrap_25 (by decide) ?_
      refine ww_callV (κ := 8) (r := (RX7, TX7, 33)) wk_X7_128 dX7_scrap_26 (m_inside hM hn h6 (nI p)) rfl rfl (show ww_is _ _ 8 from hM.1).1 (show ww_is _ _ 8 from hM.1).2 rfl rfl (by omega) (by omega) (by omega) (by first | exact Nat.le_of_ble_eq_true rfl | (simp [ww_rf_cat, Value.category])) rfl (fun E M9 h9 => h9.elim) (fun v9 M9 h9 => ?_)
      obtain ⟨rfl, rfl⟩ := h9
      refine ww_if_gt_t (tgt := 48) dX7_scrap_29 (by decide) h2' ?_
      refine ww_iconst (v := 2) dX7_scrap_48 (by decide) ?_
      refine ww_goto (tgt := 53) dX7_scrap_49 (by decide) ?_
      refine ww_putI (f := 320) wf_X7_98 wt_8_0 dX7_scrap_53 rfl rfl hM.1.1 hM.1.2 rfl rfl ?_
      refine ww_aload_n (i := 0) dX7_scrap_56 rfl rfl ?_
      refine ww_getI (f := 320) wf_X7_98 dX7_scrap_57 rfl rfl hM.1.1 hM.1.2 ?_
      refine ww_if_ne_t (tgt := 70) dX7_scrap_60 (by decide) (ww_sI_ne (by decide)) ?_
      exact ww_vreturn dX7_scrap_70 rfl ⟨rfl, rfl⟩
  · refine ww_aload_n (i := 0) dX7_scrap_0 rfl rfl ?_
    refine ww_aload_n (i := 0) dX7_scrap_1 rfl rfl ?_
    refine ww_iload_n (i := 1) dX7_scrap_2 rfl rfl ?_
    refine ww_callV (κ := 8) (r := (RX7, TX7, 33)) wk_X7_109 dX7_scrap_3 (m_isPart_t hM hn h6 hp) rfl rfl (show ww_is _ _ 8 from hM.1).1 (show ww_is _ _ 8 from hM.1).2 rfl rfl (by omega) (by omega) (by omega) (by first | exact Nat.le_of_ble_eq_true rfl | (simp [ww_rf_cat, Value.category])) rfl (fun E M9 h9 => h9.elim) (fun v9 M9 h9 => ?_)
    obtain ⟨rfl, rfl⟩ := h9
    refine ww_if_ne_t (tgt := 13) dX7_scrap_6 (by decide) (by decide) ?_
    refine ww_aload_n (i := 0) dX7_scrap_13 rfl rfl ?_
    refine ww_getR (f := 325) wf_X7_19 dX7_scrap_14 rfl rfl hM.1.1 hM.1.2 (hM.2.1 5 rfl) ?_
    refine ww_iload_n (i := 1) dX7_scrap_17 rfl rfl ?_
    refine ww_mald (k := 5) hM dX7_scrap_18 rfl rfl rfl (show _ < 60 by omega) ?_
    refine ww_iconst (v := (-1)) dX7_scrap_19 (by decide) ?_
    refine ww_icmp_ne_t (tgt := 48) dX7_scrap_20 (by decide) h1 ?_
    refine ww_iconst (v := 2) dX7_scrap_48 (by decide) ?_
    refine ww_goto (tgt := 53) dX7_scrap_49 (by decide) ?_
    refine ww_putI (f := 320) wf_X7_98 wt_8_0 dX7_scrap_53 rfl rfl hM.1.1 hM.1.2 rfl rfl ?_
    refine ww_aload_n (i := 0) dX7_scrap_56 rfl rfl ?_
    refine ww_getI (f := 320) wf_X7_98 dX7_scrap_57 rfl rfl hM.1.1 hM.1.2 ?_
    refine ww_if_ne_t (tgt := 70) dX7_scrap_60 (by decide) (ww_sI_ne (by decide)) ?_
    exact ww_vreturn dX7_scrap_70 rfl ⟨rfl, rfl⟩
set_option maxRecDepth 20000 in
theorem m_scrap_0 (hM : ww_mo x ar M.1 M.2.2.1) (hn : ww_I M 321 x = nI n) (h6 : n ≤ 60) (hg : q_gh n (q_S M x ar 2) (q_S M x ar 5)) (b12 : q_bool (q_S M x ar) 12) {w' : Nat} (hw : ww_I M 346 x = nI w) (h8 : w ≤ 8) (hw' : ww_I M 343 x = nI w') (h4 : w' < 4000) {p : Nat} (hp : p < n) (hc : q_scrapS (q_S M x ar) n w p) : ww_C g wy_X7_scrap 3 0 0 [.ref x, .int (nI p)] M (ww_ret none (ww_mmoves (ww_cd M x 0) x ar p w' (-2))) ww_no := by
  refine ww_ent (by decide +kernel) (Nat.le_of_ble_eq_true rfl) ⟨rfl, rfl, trivial⟩ ?_
  obtain ⟨h1, h2, h3, h5⟩ := hc
  have h2' : ¬ 0 < nI (q_in (q_S M x ar) n (nI p)) := by rw [h2]; decide
  refine ww_aload_n (i := 0) dX7_scrap_0 rfl rfl ?_
  refine ww_aload_n (i := 0) dX7_scrap_1 rfl rfl ?_
  refine ww_iload_n (i := 1) dX7_scrap_2 rfl rfl ?_
  refine ww_callV (κ := 8) (r := (RX7, TX7, 33)) wk_X7_109 dX7_scrap_3 (m_isPart_t hM hn h6 hp) rfl rfl (show ww_is _ _ 8 from hM.1).1 (show ww_is _ _ 8 from hM.1).2 rfl rfl (by omega) (by omega) (by omega) (by first | exact Nat.le_of_ble_eq_true rfl | (simp [ww_rf_cat, Value.category])) rfl (fun E M9 h9 => h9.elim) (fun v9 M9 h9 => ?_)
  obtain ⟨rfl, rfl⟩ := h9
  refine ww_if_ne_t (tgt := 13) dX7_scrap_6 (by decide) (by decide) ?_
  refine ww_aload_n (i := 0) dX7_scrap_13 rfl rfl ?_
  refine ww_getR (f := 325) wf_X7_19 dX7_scrap_14 rfl rfl hM.1.1 hM.1.2 (hM.2.1 5 rfl) ?_
  refine ww_iload_n (i := 1) dX7_scrap_17 rfl rfl ?_
  refine ww_mald (k := 5) hM dX7_scrap_18 rfl rfl rfl (show _ < 60 by omega) ?_
  refine ww_iconst (v := (-1)) dX7_scrap_19 (by decide) ?_
  refine ww_icmp_ne_f (tgt := 48) dX7_scrap_20 (by decide) h1 ?_
  refine ww_aload_n (i := 0) dX7_scrap_23 rfl rfl ?_
  refine ww_iload_n (i := 1) dX7_scrap_24 rfl rfl ?_
  refine ww_iconst (v := (-1)) dX7_scrap_25 (by decide) ?_
  refine ww_callV (κ := 8) (r := (RX7, TX7, 33)) wk_X7_128 dX7_scrap_26 (m_inside hM hn h6 (nI p)) rfl rfl (show ww_is _ _ 8 from hM.1).1 (show ww_is _ _ 8 from hM.1).2 rfl rfl (by omega) (by omega) (by omega) (by first | exact Nat.le_of_ble_eq_true rfl | (simp [ww_rf_cat, Value.category])) rfl (fun E M9 h9 => h9.elim) (fun v9 M9 h9 => ?_)
  obtain ⟨rfl, rfl⟩ := h9
  refine ww_if_gt_f (tgt := 48) dX7_scrap_29 (by decide) h2' ?_
  refine ww_aload_n (i := 0) dX7_scrap_32 rfl rfl ?_
  refine ww_iload_n (i := 1) dX7_scrap_33 rfl rfl ?_
  refine ww_callV (κ := 8) (r := (RX7, TX7, 33)) wk_X7_125 dX7_scrap_34 (m_bound_f hM hg h6 b12 hp h3) rfl rfl (show ww_is _ _ 8 from hM.1).1 (show ww_is _ _ 8 from hM.1).2 rfl rfl (by omega) (by omega) (by omega) (by first | exact Nat.le_of_ble_eq_true rfl | (simp [ww_rf_cat, Value.category])) rfl (fun E M9 h9 => h9.elim) (fun v9 M9 h9 => ?_)
  obtain ⟨rfl, rfl⟩ := h9
  refine ww_if_ne_f (tgt := 48) dX7_scrap_37 (by decide) (by decide) ?_
  refine ww_aload_n (i := 0) dX7_scrap_40 rfl rfl ?_
  refine ww_iload_n (i := 1) dX7_scrap_41 rfl rfl ?_
  refine ww_callV (κ := 8) (r := (RX7, TX7, 33)) wk_X7_142 dX7_scrap_42 (m_waits_f hM hw h8 h5) rfl rfl (show ww_is _ _ 8 from hM.1).1 (show ww_is _ _ 8 from hM.1).2 rfl rfl (by omega) (by omega) (by omega) (by first | exact Nat.le_of_ble_eq_true rfl | (simp [ww_rf_cat, Value.category])) rfl (fun E M9 h9 => h9.elim) (fun v9 M9 h9 => ?_)
  obtain ⟨rfl, rfl⟩ := h9
  refine ww_if_eq_t (tgt := 52) dX7_scrap_45 (by decide) (by decide) ?_
  refine ww_iconst (v := 0) dX7_scrap_52 (by decide) ?_
  refine ww_putI (f := 320) wf_X7_98 wt_8_0 dX7_scrap_53 rfl rfl hM.1.1 hM.1.2 rfl rfl ?_
  refine ww_aload_n (i := 0) dX7_scrap_56 rfl rfl ?_
  refine ww_getI (f := 320) wf_X7_98 dX7_scrap_57 rfl rfl hM.1.1 hM.1.2 ?_
  refine ww_if_ne_f (tgt := 70) dX7_scrap_60 (by decide) (ww_sI_eq rfl) ?_
  refine ww_aload_n (i := 0) dX7_scrap_63 rfl rfl ?_
  refine ww_iload_n (i := 1) dX7_scrap_64 rfl rfl ?_
  refine ww_bipush (v := (-2)) dX7_scrap_65 (by decide) ?_
  refine ww_callV (κ := 8) (r := (RX7, TX7, 33)) wk_X7_131 dX7_scrap_67 (m_moves (M := ww_cd M x 0) hM hw' h4 (by omega) (-2)) rfl rfl (show ww_is _ _ 8 from hM.1).1 (show ww_is _ _ 8 from hM.1).2 rfl rfl (by omega) (by omega) (by omega) (by first | exact Nat.le_of_ble_eq_true rfl | (simp [ww_rf_cat, Value.category])) rfl (fun E M9 h9 => h9.elim) (fun v9 M9 h9 => ?_)
  obtain ⟨rfl, rfl⟩ := h9
  exact ww_vreturn dX7_scrap_70 rfl ⟨rfl, rfl⟩
end WWU
