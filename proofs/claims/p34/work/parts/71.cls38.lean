/-! ===== a new part ===== -/
/-- what a part's constructor leaves -/
def ww_np (M : ww_M) (a : Nat) (wo : Option Nat) (nu ki me mo : Int32) (lim : Nat) : Prop := (ww_I M 160 a = nu ∧ ww_I M 161 a = ki ∧ ww_I M 162 a = me ∧ ww_I M 163 a = mo ∧ ww_R M 164 a = some lim ∧ ww_R M 165 a = wo ∧ ww_I M 176 a = -1) ∧ ww_R M 166 a = none ∧ ww_I M 167 a = 0 ∧ ww_I M 168 a = 0 ∧ ww_I M 169 a = 0 ∧ ww_I M 170 a = 0 ∧ ww_I M 171 a = 0 ∧ ww_I M 172 a = 0 ∧ ww_I M 173 a = 0 ∧ ww_I M 174 a = 0 ∧ ww_I M 175 a = 0 ∧ ww_I M 177 a = 0
def ww_nwh (M : ww_M) (w : Nat) : Prop := ww_is M.1 w 5 ∧ ww_I M 200 w = 9000 ∧ ww_I M 201 w = 300 ∧ ww_I M 202 w = -1 ∧ ww_I M 203 w = 0
/-- the same, but for what is new, and for a -/
def ww_npQ (M : ww_M) (a : Nat) (nu ki me mo : Int32) (lim : Nat) : Option Value → ww_M → Prop := fun v M' => v = none ∧ ww_ft M M' (fun y => y = a) (fun _ => False) ∧ ∃ wo, ww_np M' a wo nu ki me mo lim ∧ (ki = 3 → ∃ w, wo = some w ∧ w ∉ ww_L M ∧ ww_nwh M' w) ∧ (¬ ki = 3 → wo = none)
section WWB4
variable {g : ww_G} {M0 M M1 M2 M3 : ww_M} {c ea P W kl f z D : Nat → Nat} {E : Nat → Nat → Int32} {n u w m a lim q : Nat} {S S1 : Nat → Nat → Int32} {v nu ki me mo : Int32}
def ww_pi (M : ww_M) (a : Nat) (nu ki me mo : Int32) (lim : Nat) : ww_M := ww_sR (ww_sI (ww_sI (ww_sI (ww_sI (ww_sI M 176 a (-1)) 160 a nu) 161 a ki) 162 a me) 163 a mo) 164 a (some lim)
theorem ww_pi_ft : ww_ft M (ww_pi M a nu ki me mo lim) (fun y => y = a) (fun _ => False) := ww_ft_sR (ww_ft_sI (ww_ft_sI (ww_ft_sI (ww_ft_sI (ww_ft_sI ww_ft_rf rfl) rfl) rfl) rfl) rfl) rfl
/-- a fresh part's fields -/
def ww_z0 (M : ww_M) (a : Nat) : Prop := ∀ k, ww_I M k a = 0 ∧ ww_R M k a = none
theorem ww_sR_n {f f' b : Nat} {r : Option Nat} (h : ¬ (f' = f ∧ b = a)) : ww_R (ww_sR M f a r) f' b = ww_R M f' b := ww_u2n h
theorem ww_np_pi {wo : Option Nat} (h : ww_z0 M a) : ww_np (ww_sR (ww_pi M a nu ki me mo lim) 165 a wo) a wo nu ki me mo lim := by
  have eI : ww_I (ww_sR (ww_pi M a nu ki me mo lim) 165 a wo) = ww_u2 (ww_u2 (ww_u2 (ww_u2 (ww_u2 (ww_I M) 176 a (-1)) 160 a nu) 161 a ki) 162 a me) 163 a mo := rfl
  have eR : ww_R (ww_sR (ww_pi M a nu ki me mo lim) 165 a wo) = ww_u2 (ww_u2 (ww_R M) 164 a (some lim)) 165 a wo := rfl
  have hI : ∀ k, ww_I M k a = 0 := fun k => (h k).1
  have hR : ∀ k, ww_R M k a = none := fun k => (h k).2
  unfold ww_np
  rw [eI, eR]
  simp [ww_u2, hI, hR]
theorem ww_np_ft {wo : Option Nat} {Pp A : Nat → Prop} (h : ww_np M a wo nu ki me mo lim) (ha : ww_is M.1 a 4) (t : ww_ft M M1 Pp A) (hp : ¬ Pp a) : ww_np M1 a wo nu ki me mo lim := by
  have I : ∀ {k : Nat}, k / 40 = 4 → ww_I M1 k a = ww_I M k a := fun hk => ww_ft_I t ha hp hk
  have R : ∀ {k : Nat}, k / 40 = 4 → ww_R M1 k a = ww_R M k a := fun hk => ww_ft_R t ha hp hk
  unfold ww_np at h ⊢
  rw [I (k := 160) rfl, I (k := 161) rfl, I (k := 162) rfl, I (k := 163) rfl, R (k := 164) rfl, R (k := 165) rfl, I (k := 176) rfl, R (k := 166) rfl, I (k := 167) rfl, I (k := 168) rfl, I (k := 169) rfl, I (k := 170) rfl, I (k := 171) rfl, I (k := 172) rfl, I (k := 173) rfl, I (k := 174) rfl, I (k := 175) rfl, I (k := 177) rfl]
  exact h
theorem ww_nwh_ft {w : Nat} {Pp A : Nat → Prop} (h : ww_nwh M w) (t : ww_ft M M1 Pp A) (hp : ¬ Pp w) : ww_nwh M1 w := by
  obtain ⟨h0, h1, h2, h3, h4⟩ := h
  exact ⟨ww_ft_in t h0, (ww_ft_I t h0 hp rfl).trans h1, (ww_ft_I t h0 hp rfl).trans h2, (ww_ft_I t h0 hp rfl).trans h3, (ww_ft_I t h0 hp rfl).trans h4⟩
theorem ww_nwh_0 {w : Nat} : ww_nwh (ww_wheel0 (ww_nw M w 5 0) w) w := ⟨⟨ww_nw_q.1, ww_nw_q.2.1⟩, (ww_sI_f (by decide)).trans ((ww_sI_f (by decide)).trans ww_sI_s), (ww_sI_f (by decide)).trans ww_sI_s, ww_sI_s, (ww_sI_f (by decide)).trans ((ww_sI_f (by decide)).trans ((ww_sI_f (by decide)).trans (if_pos rfl)))⟩
set_option maxRecDepth 20000 in
set_option maxHeartbeats 8000000 in
theorem c_partInit (ha : ww_is M.1 a 4) (h0 : ww_z0 M a) (nu ki me mo : Int32) (lim : Nat) : ww_C g wy_X3_init 3 1 4 [.ref a, .int nu, .int ki, .int me, .int mo, .ref lim] M (ww_npQ M a nu ki me mo lim) ww_no := by
  refine ww_ent (by decide +kernel) (Nat.le_of_ble_eq_true rfl) ⟨rfl, rfl, rfl, rfl, rfl, rfl, trivial⟩ ?_
  have ha2 : ww_is (ww_pi M a nu ki me mo lim).1 a 4 := ha
  by_cases hk : ki = 3
  · refine ww_aload_n (i := 0) dX3_init_0 rfl rfl ?_
    refine ww_objInit dX3_init_1 wm_261 wm_54 wm_55 (by omega) (by first | exact Nat.le_of_ble_eq_true rfl | (simp [ww_rf_cat, Value.category])) ?_
    refine ww_aload_n (i := 0) dX3_init_4 rfl rfl ?_
    refine ww_iconst (v := (-1)) dX3_init_5 (by decide) ?_
    refine ww_putI (f := 176) wf_X3_9 wt_4_16 dX3_init_6 rfl rfl (show ww_is _ _ 4 from ha).1 (show ww_is _ _ 4 from ha).2 rfl rfl ?_
    refine ww_aload_n (i := 0) dX3_init_9 rfl rfl ?_
    refine ww_iload_n (i := 1) dX3_init_10 rfl rfl ?_
    refine ww_putI (f := 160) wf_X3_15 wt_4_0 dX3_init_11 rfl rfl (show ww_is _ _ 4 from ha).1 (show ww_is _ _ 4 from ha).2 rfl rfl ?_
    refine ww_aload_n (i := 0) dX3_init_14 rfl rfl ?_
    refine ww_iload_n (i := 2) dX3_init_15 rfl rfl ?_
    refine ww_putI (f := 161) wf_X3_18 wt_4_1 dX3_init_16 rfl rfl (show ww_is _ _ 4 from ha).1 (show ww_is _ _ 4 from ha).2 rfl rfl ?_
    refine ww_aload_n (i := 0) dX3_init_19 rfl rfl ?_
    refine ww_iload_n (i := 3) dX3_init_20 rfl rfl ?_
    refine ww_putI (f := 162) wf_X3_21 wt_4_2 dX3_init_21 rfl rfl (show ww_is _ _ 4 from ha).1 (show ww_is _ _ 4 from ha).2 rfl rfl ?_
    refine ww_aload_n (i := 0) dX3_init_24 rfl rfl ?_
    refine ww_iload (i := 4) dX3_init_25 rfl ?_
    refine ww_putI (f := 163) wf_X3_24 wt_4_3 dX3_init_27 rfl rfl (show ww_is _ _ 4 from ha).1 (show ww_is _ _ 4 from ha).2 rfl rfl ?_
    refine ww_aload_n (i := 0) dX3_init_30 rfl rfl ?_
    first | refine ww_aload (i := 5) dX3_init_31 rfl ?_ | refine ww_aloadQ (i := 5) dX3_init_31 rfl ?_
    refine ww_putQ (f := 164) wf_X3_27 wt_4_4 dX3_init_33 rfl rfl (show ww_is _ _ 4 from ha).1 (show ww_is _ _ 4 from ha).2 (r := some _) rfl rfl rfl ?_
    refine ww_aload_n (i := 0) dX3_init_36 rfl rfl ?_
    refine ww_iload_n (i := 2) dX3_init_37 rfl rfl ?_
    refine ww_iconst (v := 3) dX3_init_38 (by decide) ?_
    refine ww_icmp_ne_f (tgt := 52) dX3_init_39 (by decide) hk ?_
    -- at 42, locals [0, 1, 2, 3, 4, 5]
    refine ww_newO (κ := 5) wn_X3_31 dX3_init_42 (by omega) (by decide) (fun w hw => ?_)
    obtain ⟨q1, q2, _⟩ := ww_nw_q (M := ww_pi M a nu ki me mo lim) (q := w) (κ := 5) (n := 0)
    have hw5 : ww_is (ww_nw (ww_pi M a nu ki me mo lim) w 5 0).1 w 5 := ⟨q1, q2⟩
    have hne : ¬ a = w := fun e => hw (by rw [← e]; exact ha2.1)
    have t1 : ww_ft (ww_pi M a nu ki me mo lim) (ww_wheel0 (ww_nw (ww_pi M a nu ki me mo lim) w 5 0) w) (fun _ => False) (fun _ => False) := ww_ft_sIn (ww_ft_sIn (ww_ft_sIn (ww_ft_nw ww_ft_rf hw) hw) hw) hw
    have ha3 : ww_is (ww_wheel0 (ww_nw (ww_pi M a nu ki me mo lim) w 5 0) w).1 a 4 := ww_ft_in t1 ha2
    refine ww_less (kc2 := 0) (ks2 := 0) (Nat.zero_le _) (Nat.zero_le _) ?_
    refine ww_dup dX3_init_45 (by first | rfl | exact ww_rf_cat _) ?_
    refine ww_callIN wk_X3_33 rfl dX3_init_46 (c_wheelInit hw5) rfl rfl (by omega) (by omega) (by omega) (by first | exact Nat.le_of_ble_eq_true rfl | (simp [ww_rf_cat, Value.category])) (fun v9 M9 h9 => ?_)
    obtain ⟨rfl, rfl⟩ := h9
    refine ww_goto (tgt := 53) dX3_init_49 (by decide) ?_
    -- at 53, locals [0, 1, 2, 3, 4, 5]
    refine ww_putQ (f := 165) wf_X3_34 wt_4_5 dX3_init_53 rfl rfl (show ww_is _ _ 4 from ha3).1 (show ww_is _ _ 4 from ha3).2 (r := some w) rfl rfl rfl ?_
    have hnp0 := ww_np_pi (nu := nu) (ki := ki) (me := me) (mo := mo) (lim := lim) (wo := some w) h0
    have hfin : ww_np (ww_sR (ww_wheel0 (ww_nw (ww_pi M a nu ki me mo lim) w 5 0) w) 165 a (some w)) a (some w) nu ki me mo lim := by
      have I : ∀ {k : Nat}, k / 40 = 4 → ww_I (ww_sR (ww_wheel0 (ww_nw (ww_pi M a nu ki me mo lim) w 5 0) w) 165 a (some w)) k a = ww_I (ww_sR (ww_pi M a nu ki me mo lim) 165 a (some w)) k a := fun {k} hk => (show ww_I (ww_wheel0 (ww_nw (ww_pi M a nu ki me mo lim) w 5 0) w) k a = ww_I (ww_pi M a nu ki me mo lim) k a from ww_ft_I t1 ha2 (fun e => e) hk)
      have R : ∀ {k : Nat}, k / 40 = 4 → ww_R (ww_sR (ww_wheel0 (ww_nw (ww_pi M a nu ki me mo lim) w 5 0) w) 165 a (some w)) k a = ww_R (ww_sR (ww_pi M a nu ki me mo lim) 165 a (some w)) k a := fun {k} hk => by
        by_cases e : k = 165
        · subst e
          exact (show ww_R (ww_sR (ww_wheel0 (ww_nw (ww_pi M a nu ki me mo lim) w 5 0) w) 165 a (some w)) 165 a = some w from ww_u2s).trans (show ww_R (ww_sR (ww_pi M a nu ki me mo lim) 165 a (some w)) 165 a = some w from ww_u2s).symm
        · rw [ww_sR_n (fun y => e y.1), ww_sR_n (fun y => e y.1)]
          exact ww_ft_R t1 ha2 (fun e => e) hk
      unfold ww_np at hnp0 ⊢
      rw [I (k := 160) rfl, I (k := 161) rfl, I (k := 162) rfl, I (k := 163) rfl, R (k := 164) rfl, R (k := 165) rfl, I (k := 176) rfl, R (k := 166) rfl, I (k := 167) rfl, I (k := 168) rfl, I (k := 169) rfl, I (k := 170) rfl, I (k := 171) rfl, I (k := 172) rfl, I (k := 173) rfl, I (k := 174) rfl, I (k := 175) rfl, I (k := 177) rfl]
      exact hnp0
    have tf : ww_ft M (ww_sR (ww_wheel0 (ww_nw (ww_pi M a nu ki me mo lim) w 5 0) w) 165 a (some w)) (fun y => y = a) (fun _ => False) := ww_ft_sR (ww_ft_wk (ww_ft_tr ww_pi_ft t1) (fun y _ e => e.elim id (fun x => x.elim)) (fun y _ e => e.elim id id)) rfl
    have hwn : ww_nwh (ww_sR (ww_wheel0 (ww_nw (ww_pi M a nu ki me mo lim) w 5 0) w) 165 a (some w)) w := ww_nwh_0
    exact ww_vreturn dX3_init_56 rfl ⟨rfl, tf, some w, hfin, fun _ => ⟨w, rfl, fun e => hw e, hwn⟩, fun e => absurd hk e⟩
  · refine ww_aload_n (i := 0) dX3_init_0 rfl rfl ?_
    refine ww_objInit dX3_init_1 wm_261 wm_54 wm_55 (by omega) (by first | exact Nat.le_of_ble_eq_true rfl | (simp [ww_rf_cat, Value.category])) ?_
    refine ww_aload_n (i := 0) dX3_init_4 rfl rfl ?_
    refine ww_iconst (v := (-1)) dX3_init_5 (by decide) ?_
    refine ww_putI (f := 176) wf_X3_9 wt_4_16 dX3_init_6 rfl rfl (show ww_is _ _ 4 from ha).1 (show ww_is _ _ 4 from ha).2 rfl rfl ?_
    refine ww_aload_n (i := 0) dX3_init_9 rfl rfl ?_
    refine ww_iload_n (i := 1) dX3_init_10 rfl rfl ?_
    refine ww_putI (f := 160) wf_X3_15 wt_4_0 dX3_init_11 rfl rfl (show ww_is _ _ 4 from ha).1 (show ww_is _ _ 4 from ha).2 rfl rfl ?_
    refine ww_aload_n (i := 0) dX3_init_14 rfl rfl ?_
    refine ww_iload_n (i := 2) dX3_init_15 rfl rfl ?_
    refine ww_putI (f := 161) wf_X3_18 wt_4_1 dX3_init_16 rfl rfl (show ww_is _ _ 4 from ha).1 (show ww_is _ _ 4 from ha).2 rfl rfl ?_
    refine ww_aload_n (i := 0) dX3_init_19 rfl rfl ?_
    refine ww_iload_n (i := 3) dX3_init_20 rfl rfl ?_
    refine ww_putI (f := 162) wf_X3_21 wt_4_2 dX3_init_21 rfl rfl (show ww_is _ _ 4 from ha).1 (show ww_is _ _ 4 from ha).2 rfl rfl ?_
    refine ww_aload_n (i := 0) dX3_init_24 rfl rfl ?_
    refine ww_iload (i := 4) dX3_init_25 rfl ?_
    refine ww_putI (f := 163) wf_X3_24 wt_4_3 dX3_init_27 rfl rfl (show ww_is _ _ 4 from ha).1 (show ww_is _ _ 4 from ha).2 rfl rfl ?_
    refine ww_aload_n (i := 0) dX3_init_30 rfl rfl ?_
    first | refine ww_aload (i := 5) dX3_init_31 rfl ?_ | refine ww_aloadQ (i := 5) dX3_init_31 rfl ?_
    refine ww_putQ (f := 164) wf_X3_27 wt_4_4 dX3_init_33 rfl rfl (show ww_is _ _ 4 from ha).1 (show ww_is _ _ 4 from ha).2 (r := some _) rfl rfl rfl ?_
    refine ww_aload_n (i := 0) dX3_init_36 rfl rfl ?_
    refine ww_iload_n (i := 2) dX3_init_37 rfl rfl ?_
    refine ww_iconst (v := 3) dX3_init_38 (by decide) ?_
    refine ww_icmp_ne_t (tgt := 52) dX3_init_39 (by decide) hk ?_
    -- at 52, locals [0, 1, 2, 3, 4, 5]
    refine ww_null dX3_init_52 ?_
    refine ww_putQ (f := 165) wf_X3_34 wt_4_5 dX3_init_53 rfl rfl (show ww_is _ _ 4 from ha2).1 (show ww_is _ _ 4 from ha2).2 (r := none) rfl rfl rfl ?_
    have tf : ww_ft M (ww_sR (ww_pi M a nu ki me mo lim) 165 a none) (fun y => y = a) (fun _ => False) := ww_ft_sR ww_pi_ft rfl
    exact ww_vreturn dX3_init_56 rfl ⟨rfl, tf, none, ww_np_pi h0, fun e => absurd e hk, fun _ => rfl⟩
end WWB4
/-- the slots of a part that isn't there yet -/
def q_nil (S : Nat → Nat → Int32) (i : Nat) : Prop := S 6 i = 0 ∧ S 7 i = 0 ∧ S 8 i = 0 ∧ S 9 i = 0 ∧ S 10 i = 0 ∧ S 11 i = 0 ∧ S 12 i = 0 ∧ S 15 i = 0 ∧ S 17 i = 0 ∧ S 18 i = 0 ∧ S 19 i = 0 ∧ S 28 i = 0
section WWB5
variable {g : ww_G} {M0 M M1 M2 M3 : ww_M} {c ea P W kl f z D : Nat → Nat} {E : Nat → Nat → Int32} {n u w m a lim q k : Nat} {S S1 : Nat → Nat → Int32} {v e d : Int32}
theorem q_part_i {i j : Nat} (hi : i ≠ n) (hj : j ≠ 0) (hj1 : j ≠ 1) : q_part S n v e d j i = S j i := by
  have u : ∀ {T : Nat → Nat → Int32} {b : Nat} {x : Int32}, ww_u2 T b n x j i = T j i := fun {T b x} => ww_u2n (fun y => hi y.2)
  unfold q_part
  show (if j = 1 then _ else _) = _
  rw [if_neg hj1, u, u, u, u, u, u]
  exact if_neg hj
theorem q_part_o {j : Nat} (h : j ≠ 0) (h1 : j ≠ 1) (h2 : j ≠ 2) (h3 : j ≠ 3) (h4 : j ≠ 4) (h5 : j ≠ 5) (h13 : j ≠ 13) (h14 : j ≠ 14) : q_part S n v e d j = S j := by
  funext i
  unfold q_part
  show (if j = 1 then _ else _) = _
  rw [if_neg h1, ww_u2n (fun y => h14 y.1), ww_u2n (fun y => h13 y.1), ww_u2n (fun y => h5 y.1), ww_u2n (fun y => h4 y.1), ww_u2n (fun y => h3 y.1), ww_u2n (fun y => h2 y.1)]
  exact if_neg h
theorem q_part_n : q_part S n v e d 2 n = v ∧ q_part S n v e d 3 n = e ∧ q_part S n v e d 4 n = d ∧ q_part S n v e d 5 n = -1 ∧ q_part S n v e d 13 n = 9000 ∧ q_part S n v e d 14 n = 300 := by
  unfold q_part q_us
  simp [ww_u2]
theorem ww_rc_part {wo : Option Nat} {W' e' : Nat} (hr : ww_rc g M c ea P W kl f z D E n u w m S) (hG : q_G S n) (hW : q_W S n w) (hz : ∀ i, i < m → z i < n) (hk5 : k < 5) (h60 : n < 60) (h0 : q_nil S n) (hq : q ∉ ww_L M) (t2 : ww_ft M M2 (fun _ => False) (fun _ => False)) (q2 : ww_is M2.1 q 4) (np : ww_np M2 q wo (nI n) (nI k) e d (kl k)) (w1 : nI k = 3 → wo = some W' ∧ W' ∉ ww_L M ∧ ww_nwh M2 W') (w2 : ¬ nI k = 3 → wo = none)
    (k1 : ww_ls g M3 4 (c 1) e' (n + 1) (q_snoc P n q)) (k2 : e' = ea 0 ∨ e' ∉ ww_L M2) (k3 : ww_fr M2 M3 (fun y => y = c 1) (fun y => y = ea 0 ∧ ww_is M2.1 (ea 0) 12)) (hge : ww_ge g ∉ ww_L M3) : ww_rc g M3 c (q_ea ea 0 e') (q_snoc P n q) (q_snoc W n W') kl f z D E (n + 1) u w m (q_part S n (nI k) e d) ∧ ww_ck c M M3 := by
  obtain ⟨⟨⟨a1, a2, a3, a4⟩, ⟨b1, b2⟩, b3, b4⟩, h5, h7, hap⟩ := id hr
  obtain ⟨p1, p2, p3, p4⟩ := id hap
  have t3 : ww_ft M M3 (fun y => y = c 1) (fun y => y = ea 0 ∧ ww_is M.1 (ea 0) 12) := ww_ft_wk (ww_ft_tr t2 (ww_ft_fr k3)) (fun y _ x => x.elim (fun s => s.elim) id) (fun y hy x => x.elim (fun s => s.elim) (fun s => ⟨s.1, by
    rw [← s.1]
    refine ⟨hy, ?_⟩
    have e1 := (t2.1 y hy).2.1
    have e2 : ww_K M2 (ea 0) = 12 := s.2.2
    rw [← s.1, e1] at e2
    exact e2⟩))
  have kk : ww_K M (c 1) = 0 := a3.1.2
  have k0 : ∀ {y κ : Nat}, y = c 1 → ¬ κ = 0 → ¬ ww_K M y = κ := fun e hk y => hk (by rw [e, kk] at y; exact y.symm)
  have n7 : ¬ c 0 = c 1 := fun e => k0 e (κ := 7) (by decide) a1.2
  have ne : ∀ y j, y = c 1 → 2 ≤ j → j ≤ 4 → ¬ y = c j := fun y j e h1 h2 x => by
    have := p1 1 j (by decide) (by decide) (by omega) h2 (e.symm.trans x)
    omega
  have nea : ∀ y j, (y = ea 0 ∧ ww_is M.1 (ea 0) 12) → j < 4 → ¬ j = 0 → ¬ y = ea j := fun y j ha hj hne e => by
    rcases p2 0 j (by decide) hj (ha.1.symm.trans e) with x | x
    · exact hne x.symm
    · exact p4 (by rw [← x]; exact ha.2.1)
  have k12 : ∀ {y κ : Nat}, (y = ea 0 ∧ ww_is M.1 (ea 0) 12) → ¬ κ = 12 → ¬ ww_K M y = κ := fun hy hk y => hk (by rw [hy.1, show ww_K M (ea 0) = 12 from hy.2.2] at y; exact y.symm)
  have Pi : ∀ {i : Nat}, i < n → q_snoc P n q i = P i := fun hi => if_neg (by omega)
  have Wi : ∀ {i : Nat}, i < n → q_snoc W n W' i = W i := fun hi => if_neg (by omega)
  have Pn : q_snoc P n q n = q := if_pos rfl
  have Wn : q_snoc W n W' n = W' := if_pos rfl
  have qne : ¬ q = c 1 := fun x => hq (by rw [x]; exact a3.1.1)
  have tq : ww_ft M2 M3 (fun y => y = c 1) (fun y => y = ea 0 ∧ ww_is M2.1 (ea 0) 12) := ww_ft_fr k3
  have np3 := ww_np_ft np q2 tq qne
  have q3 := ww_ft_in tq q2
  obtain ⟨s2, s3, s4, s5, s13, s14⟩ := q_part_n (S := S) (n := n) (v := nI k) (e := e) (d := d)
  obtain ⟨z6, z7, z8, z9, z10, z11, z12, z15, z17, z18, z19, z28⟩ := h0
  have so : ∀ {j : Nat}, j ≠ 0 → j ≠ 1 → j ≠ 2 → j ≠ 3 → j ≠ 4 → j ≠ 5 → j ≠ 13 → j ≠ 14 → ∀ i, q_part S n (nI k) e d j i = S j i := fun h h1 h2 h3 h4 h5 h6 h7 i => congrFun (q_part_o h h1 h2 h3 h4 h5 h6 h7) i
  have hpf0 := ww_pf_ft b1 t3 (fun y e x => by
    unfold ww_pk at x
    rcases x with x | x | x
    · exact k0 e (by decide) x
    · exact k0 e (by decide) x
    · exact k0 e (by decide) x)
  have hpf : ww_pf M3 (q_snoc P n q) (q_snoc W n W') kl (n + 1) (q_part S n (nI k) e d) := by
    refine ⟨fun i hi => ?_, fun j hj => ?_, fun i j hi hj x => ?_⟩
    · by_cases c1 : i = n
      · rw [c1]
        obtain ⟨⟨m0, m1, m2, m3, m4, m5, m6⟩, r1, r2, r3, r4, r5, r6, r7, r8, r9, r10, r11⟩ := np3
        unfold ww_pt q_kd
        rw [Pn, Wn, s2, s3, s4, s5, s13, s14, so (j := 6) (by decide) (by decide) (by decide) (by decide) (by decide) (by decide) (by decide) (by decide), so (j := 7) (by decide) (by decide) (by decide) (by decide) (by decide) (by decide) (by decide) (by decide), so (j := 8) (by decide) (by decide) (by decide) (by decide) (by decide) (by decide) (by decide) (by decide), so (j := 9) (by decide) (by decide) (by decide) (by decide) (by decide) (by decide) (by decide) (by decide), so (j := 10) (by decide) (by decide) (by decide) (by decide) (by decide) (by decide) (by decide) (by decide), so (j := 11) (by decide) (by decide) (by decide) (by decide) (by decide) (by decide) (by decide) (by decide), so (j := 12) (by decide) (by decide) (by decide) (by decide) (by decide) (by decide) (by decide) (by decide), so (j := 15) (by decide) (by decide) (by decide) (by decide) (by decide) (by decide) (by decide) (by decide), so (j := 16) (by decide) (by decide) (by decide) (by decide) (by decide) (by decide) (by decide) (by decide), so (j := 17) (by decide) (by decide) (by decide) (by decide) (by decide) (by decide) (by decide) (by decide), so (j := 18) (by decide) (by decide) (by decide) (by decide) (by decide) (by decide) (by decide) (by decide), so (j := 19) (by decide) (by decide) (by decide) (by decide) (by decide) (by decide) (by decide) (by decide), so (j := 28) (by decide) (by decide) (by decide) (by decide) (by decide) (by decide) (by decide) (by decide), z6, z7, z8, z9, z10, z11, z12, z15, z17, z18, z19, z28, nI_clamp (by omega)]
        refine ⟨⟨q3, m0, m1, m2, m3, m4⟩, fun hk => ?_, fun hk => m5.trans (w2 hk), ?_, ?_, ⟨r3, r4, r5, r6, r7, r8, r9, r10, r11⟩, ⟨fun _ => rfl, fun _ => m6⟩⟩
        · obtain ⟨x1, x2, x3⟩ := w1 hk
          obtain ⟨y1, y2, y3, y4, y5⟩ := ww_nwh_ft x3 tq (fun x => x2 (by rw [x]; exact a3.1.1))
          exact ⟨m5.trans x1, y1, y2, y3, by rw [if_pos rfl]; exact y4, y5⟩
        · rw [if_pos (by decide)]; exact r1
        · rw [if_neg (by decide)]; exact r2
      · have hi' : i < n := by omega
        have si : ∀ {j : Nat}, j ≠ 0 → j ≠ 1 → q_part S n (nI k) e d j i = S j i := fun h h1 => q_part_i c1 h h1
        have hpt := hpf0.1 i hi'
        unfold ww_pt q_kd at hpt ⊢
        rw [Pi hi', Wi hi', si (j := 2) (by decide) (by decide), si (j := 3) (by decide) (by decide), si (j := 4) (by decide) (by decide), si (j := 5) (by decide) (by decide), si (j := 6) (by decide) (by decide), si (j := 7) (by decide) (by decide), si (j := 8) (by decide) (by decide), si (j := 9) (by decide) (by decide), si (j := 10) (by decide) (by decide), si (j := 11) (by decide) (by decide), si (j := 12) (by decide) (by decide), si (j := 13) (by decide) (by decide), si (j := 14) (by decide) (by decide), si (j := 15) (by decide) (by decide), si (j := 16) (by decide) (by decide), si (j := 17) (by decide) (by decide), si (j := 18) (by decide) (by decide), si (j := 19) (by decide) (by decide), si (j := 28) (by decide) (by decide)]
        obtain ⟨x1, x2, x3, x4, x5⟩ := hpt
        refine ⟨x1, x2, x3, ?_, x5⟩
        rw [x4]
        rcases q_gh_cases hG.2.2.1 (by omega) hi' with y | ⟨r, hr, y, _⟩
        · rw [if_pos y, if_pos y]
        · rw [y, if_neg (nI_pos (by omega)), if_neg (nI_pos (by omega)), nI_clamp (by omega), Pi hr]
    · rw [so (j := 20) (by decide) (by decide) (by decide) (by decide) (by decide) (by decide) (by decide) (by decide), so (j := 21) (by decide) (by decide) (by decide) (by decide) (by decide) (by decide) (by decide) (by decide), so (j := 22) (by decide) (by decide) (by decide) (by decide) (by decide) (by decide) (by decide) (by decide)]
      exact hpf0.2.1 j hj
    · by_cases c1 : i = n
      · by_cases c2 : j = n
        · omega
        · rw [c1, Pn, Pi (by omega)] at x
          exact absurd (x ▸ (ww_rc_is hr (p := j) (by omega)).1) hq
      · by_cases c2 : j = n
        · rw [c2, Pn, Pi (by omega)] at x
          exact absurd (x ▸ (ww_rc_is hr (p := i) (by omega)).1) hq
        · rw [Pi (by omega), Pi (by omega)] at x
          exact b1.2.2 i j (by omega) (by omega) x
  have hwa : ww_wa (q_snoc W n W') (n + 1) (q_part S n (nI k) e d) := by
    intro i j hi hj ki kj x
    have no : ∀ i, i < n → q_part S n (nI k) e d 2 i = 3 → W i ∈ ww_L M := fun i hi ki => by
      rw [q_part_i (by omega) (by decide) (by decide)] at ki
      exact ((b1.1 i hi).2.1 ki).2.1.1
    by_cases c1 : i = n
    · by_cases c2 : j = n
      · omega
      · rw [c1, s2] at ki
        rw [c1, Wn, Wi (by omega)] at x
        exact absurd (x ▸ no j (by omega) kj) (w1 ki).2.1
    · by_cases c2 : j = n
      · rw [c2, s2] at kj
        rw [c2, Wn, Wi (by omega)] at x
        exact absurd (x ▸ no i (by omega) ki) (w1 kj).2.1
      · rw [Wi (by omega), Wi (by omega)] at x
        rw [q_part_i c1 (by decide) (by decide)] at ki
        rw [q_part_i c2 (by decide) (by decide)] at kj
        exact b2 i j (by omega) (by omega) ki kj x
  have hcl := ww_cl_ft h5 a1 t3 (fun y e => ⟨k0 e (by decide), k0 e (by decide), k0 e (by decide), ne y 2 e (by decide) (by decide)⟩) (fun y _ ha _ => nea y 1 ha (by decide) (by decide))
  have hcy := ww_cy_ft h7 a1 t3 (fun y e => ⟨k0 e (by decide), k0 e (by decide), ne y 3 e (by decide) (by decide), ne y 4 e (by decide) (by decide)⟩) (fun y _ ha _ => ⟨nea y 2 ha (by decide) (by decide), nea y 3 ha (by decide) (by decide)⟩) (fun i hi => by
    have h4 := ww_ls_el h7.2.1.2 hi
    exact ww_ft_I t3 h4 (fun x => k0 x (κ := 4) (by decide) h4.2) rfl)
  have e27 : ∀ i, q_wq (q_part S n (nI k) e d) i = q_wq S i := fun i => by unfold q_wq; rw [q_part_o (by decide) (by decide) (by decide) (by decide) (by decide) (by decide) (by decide) (by decide)]
  refine ⟨⟨⟨⟨ww_ft_in t3 a1, (ww_ft_R t3 a1 n7 rfl).trans a2, k1, by omega⟩, ⟨hpf, hwa⟩, ww_kl_ft b3 a1 t3 n7 (fun x => k12 x (κ := 11) (by decide) b3.2.1.2), b4⟩, hcl, ?_, ww_ap_ea (by decide) hap (k2.imp id (fun x s => x (t2.1 _ s).1)) hge (fun i hi hne => ?_)⟩, ww_ck_ft t3 (fun y _ x => k0 x (by decide)) (fun y _ x => Or.inr (Or.inl (by rw [x.1]; exact x.2.2)))⟩
  · obtain ⟨⟨y1, y2⟩, ⟨y3, y4⟩, y5, y6⟩ := hcy
    refine ⟨⟨y1, ?_⟩, ⟨y3, ww_ls_cg y4 (fun i hi => (Pi (hz i hi)).symm)⟩, fun i hi => by rw [Pi (hz i hi)]; exact y5 i hi, y6⟩
    obtain ⟨d1, d2, d3, d4, d5, d6, d7⟩ := y2
    exact ⟨d1, d2, d3, d4, d5, d6, ww_ls_cg d7 (fun i hi => by rw [e27, Pi (hW.2.2 i hi).1])⟩
  · match i, hi, hne with
    | 0, _, hne => exact absurd rfl hne
    | 1, _, _ => exact ww_e_or h5.2.2.2.2.2.2.2.1
    | 2, _, _ => exact ww_e_or h7.1.2.2.2.2.2.2.2
    | 3, _, _ => exact ww_e_or h7.2.1.2
/-! part -/
def ww_nQ (g : ww_G) (M : ww_M) (c kl f z D : Nat → Nat) (E : Nat → Nat → Int32) (n u w m : Nat) (v0 : Option Value) (S' : Nat → Nat → Int32) : Option Value → ww_M → Prop := fun v M' => v = v0 ∧ ∃ ea' P' W', ww_rc g M' c ea' P' W' kl f z D E n u w m S' ∧ ww_ck c M M'
set_option maxRecDepth 20000 in
set_option maxHeartbeats 4000000 in
theorem c_part_1 (hr : ww_rc g M c ea P W kl f z D E n u w m S) {v e d : Int32} (hc : ¬ (q_rg 0 4 v ∧ q_rg 0 9 e ∧ q_rg 0 3 d)) : ww_C g wy_X6_part 8 1 6 [.ref (c 0), .int v, .int e, .int d] M ww_nr (ww_th "java/lang/IllegalArgumentException" M) := by
  refine ww_ent (by decide +kernel) (Nat.le_of_ble_eq_true rfl) ⟨rfl, rfl, rfl, rfl, trivial⟩ ?_
  have hw := ww_cp_wo hr.1
  have hk := hr.1.2.2.1
  by_cases h1 : q_rg 0 4 v
  · obtain ⟨j, hj, rfl⟩ := ww_nat (n := 5) (by have := h1.1; rw [ww_le'] at this; exact this) (by have := h1.2; rw [ww_le', show (4 : Int32).toInt = 4 from rfl] at this; omega) (by decide)
    by_cases h2 : q_rg 0 9 e
    · have h3 : ¬ q_rg 0 3 d := fun y => hc ⟨h1, h2, y⟩
      refine ww_aload_n (i := 0) dX6_part_0 rfl rfl ?_
      refine ww_iload_n (i := 1) dX6_part_1 rfl rfl ?_
      refine ww_callV (κ := 7) (r := (RX6, TX6, 4)) wk_X6_37 dX6_part_2 (c_limitsOf hw hk hj) rfl rfl (show ww_is _ _ 7 from hw.1).1 (show ww_is _ _ 7 from hw.1).2 rfl rfl (by omega) (by omega) (by omega) (by first | exact Nat.le_of_ble_eq_true rfl | (simp [ww_rf_cat, Value.category])) rfl (fun E M9 h9 => h9.elim) (fun v9 M9 h9 => ?_)
      obtain ⟨rfl, rfl⟩ := h9
      first | refine ww_astore (i := 4) (lv2 := [(0, _), (1, _), (2, _), (3, _), (4, _)]) dX6_part_5 (Nat.le_of_ble_eq_true rfl) rfl ?_ | refine ww_astoreQ (i := 4) (lv2 := [(0, _), (1, _), (2, _), (3, _), (4, _)]) dX6_part_5 (Nat.le_of_ble_eq_true rfl) rfl ?_
      refine ww_iload_n (i := 2) dX6_part_7 rfl rfl ?_
      refine ww_iconst (v := 0) dX6_part_8 (by decide) ?_
      refine ww_bipush (v := 9) dX6_part_9 (by decide) ?_
      refine ww_callS wk_X6_41 rfl dX6_part_11 (c_out_f h2) rfl rfl (by omega) (by omega) (by omega) (by first | exact Nat.le_of_ble_eq_true rfl | (simp [ww_rf_cat, Value.category])) rfl (fun E M9 h9 => h9.elim) (fun v9 M9 h9 => ?_)
      obtain ⟨rfl, rfl⟩ := h9
      refine ww_if_ne_f (tgt := 26) dX6_part_14 (by decide) (by decide) ?_
      refine ww_iload_n (i := 3) dX6_part_17 rfl rfl ?_
      refine ww_iconst (v := 0) dX6_part_18 (by decide) ?_
      refine ww_iconst (v := 3) dX6_part_19 (by decide) ?_
      refine ww_callS wk_X6_41 rfl dX6_part_20 (c_out_t h3) rfl rfl (by omega) (by omega) (by omega) (by first | exact Nat.le_of_ble_eq_true rfl | (simp [ww_rf_cat, Value.category])) rfl (fun E M9 h9 => h9.elim) (fun v9 M9 h9 => ?_)
      obtain ⟨rfl, rfl⟩ := h9
      refine ww_if_eq_f (tgt := 36) dX6_part_23 (by decide) (by decide) ?_
      exact ww_throw wx_X6_45_47 dX6_part_26 dX6_part_29 dX6_part_30 dX6_part_32 dX6_part_35 rfl (Nat.le_of_ble_eq_true rfl) (by omega) (by omega) (by first | exact Nat.le_of_ble_eq_true rfl | (simp [ww_rf_cat, Value.category])) ⟨rfl, rfl⟩
    · refine ww_aload_n (i := 0) dX6_part_0 rfl rfl ?_
      refine ww_iload_n (i := 1) dX6_part_1 rfl rfl ?_
      refine ww_callV (κ := 7) (r := (RX6, TX6, 4)) wk_X6_37 dX6_part_2 (c_limitsOf hw hk hj) rfl rfl (show ww_is _ _ 7 from hw.1).1 (show ww_is _ _ 7 from hw.1).2 rfl rfl (by omega) (by omega) (by omega) (by first | exact Nat.le_of_ble_eq_true rfl | (simp [ww_rf_cat, Value.category])) rfl (fun E M9 h9 => h9.elim) (fun v9 M9 h9 => ?_)
      obtain ⟨rfl, rfl⟩ := h9
      first | refine ww_astore (i := 4) (lv2 := [(0, _), (1, _), (2, _), (3, _), (4, _)]) dX6_part_5 (Nat.le_of_ble_eq_true rfl) rfl ?_ | refine ww_astoreQ (i := 4) (lv2 := [(0, _), (1, _), (2, _), (3, _), (4, _)]) dX6_part_5 (Nat.le_of_ble_eq_true rfl) rfl ?_
      refine ww_iload_n (i := 2) dX6_part_7 rfl rfl ?_
      refine ww_iconst (v := 0) dX6_part_8 (by decide) ?_
      refine ww_bipush (v := 9) dX6_part_9 (by decide) ?_
      refine ww_callS wk_X6_41 rfl dX6_part_11 (c_out_t h2) rfl rfl (by omega) (by omega) (by omega) (by first | exact Nat.le_of_ble_eq_true rfl | (simp [ww_rf_cat, Value.category])) rfl (fun E M9 h9 => h9.elim) (fun v9 M9 h9 => ?_)
      obtain ⟨rfl, rfl⟩ := h9
      refine ww_if_ne_t (tgt := 26) dX6_part_14 (by decide) (by decide) ?_
      exact ww_throw wx_X6_45_47 dX6_part_26 dX6_part_29 dX6_part_30 dX6_part_32 dX6_part_35 rfl (Nat.le_of_ble_eq_true rfl) (by omega) (by omega) (by first | exact Nat.le_of_ble_eq_true rfl | (simp [ww_rf_cat, Value.category])) ⟨rfl, rfl⟩
  · refine ww_aload_n (i := 0) dX6_part_0 rfl rfl ?_
    refine ww_iload_n (i := 1) dX6_part_1 rfl rfl ?_
    refine ww_callV (κ := 7) (r := (RX6, TX6, 4)) wk_X6_37 dX6_part_2 (c_limitsOf_x hw hk h1) rfl rfl (show ww_is _ _ 7 from hw.1).1 (show ww_is _ _ 7 from hw.1).2 rfl rfl (by omega) (by omega) (by omega) (by first | exact Nat.le_of_ble_eq_true rfl | (simp [ww_rf_cat, Value.category])) rfl (fun E M9 h9 => h9) (fun v9 M9 h9 => ?_)
    exact h9.elim
    -- at 5, locals [0, 1, 2, 3]
set_option maxRecDepth 20000 in
theorem c_part_2 (hr : ww_rc g M c ea P W kl f z D E n u w m S) (h60 : n = 60) {e d : Int32} (hk5 : k < 5) (h2 : q_rg 0 9 e) (h3 : q_rg 0 3 d) : ww_C g wy_X6_part 8 1 6 [.ref (c 0), .int (nI k), .int e, .int d] M ww_nr (ww_th "java/lang/IllegalStateException" M) := by
  refine ww_ent (by decide +kernel) (Nat.le_of_ble_eq_true rfl) ⟨rfl, rfl, rfl, rfl, trivial⟩ ?_
  have hw := ww_cp_wo hr.1
  have hk := hr.1.2.2.1
  have hsz := l_size (g := g) hw.2.2.1
  refine ww_aload_n (i := 0) dX6_part_0 rfl rfl ?_
  refine ww_iload_n (i := 1) dX6_part_1 rfl rfl ?_
  refine ww_callV (κ := 7) (r := (RX6, TX6, 4)) wk_X6_37 dX6_part_2 (c_limitsOf hw hk hk5) rfl rfl (show ww_is _ _ 7 from hw.1).1 (show ww_is _ _ 7 from hw.1).2 rfl rfl (by omega) (by omega) (by omega) (by first | exact Nat.le_of_ble_eq_true rfl | (simp [ww_rf_cat, Value.category])) rfl (fun E M9 h9 => h9.elim) (fun v9 M9 h9 => ?_)
  obtain ⟨rfl, rfl⟩ := h9
  first | refine ww_astore (i := 4) (lv2 := [(0, _), (1, _), (2, _), (3, _), (4, _)]) dX6_part_5 (Nat.le_of_ble_eq_true rfl) rfl ?_ | refine ww_astoreQ (i := 4) (lv2 := [(0, _), (1, _), (2, _), (3, _), (4, _)]) dX6_part_5 (Nat.le_of_ble_eq_true rfl) rfl ?_
  refine ww_iload_n (i := 2) dX6_part_7 rfl rfl ?_
  refine ww_iconst (v := 0) dX6_part_8 (by decide) ?_
  refine ww_bipush (v := 9) dX6_part_9 (by decide) ?_
  refine ww_callS wk_X6_41 rfl dX6_part_11 (c_out_f h2) rfl rfl (by omega) (by omega) (by omega) (by first | exact Nat.le_of_ble_eq_true rfl | (simp [ww_rf_cat, Value.category])) rfl (fun E M9 h9 => h9.elim) (fun v9 M9 h9 => ?_)
  obtain ⟨rfl, rfl⟩ := h9
  refine ww_if_ne_f (tgt := 26) dX6_part_14 (by decide) (by decide) ?_
  refine ww_iload_n (i := 3) dX6_part_17 rfl rfl ?_
  refine ww_iconst (v := 0) dX6_part_18 (by decide) ?_
  refine ww_iconst (v := 3) dX6_part_19 (by decide) ?_
  refine ww_callS wk_X6_41 rfl dX6_part_20 (c_out_f h3) rfl rfl (by omega) (by omega) (by omega) (by first | exact Nat.le_of_ble_eq_true rfl | (simp [ww_rf_cat, Value.category])) rfl (fun E M9 h9 => h9.elim) (fun v9 M9 h9 => ?_)
  obtain ⟨rfl, rfl⟩ := h9
  refine ww_if_eq_t (tgt := 36) dX6_part_23 (by decide) (by decide) ?_
  refine ww_aload_n (i := 0) dX6_part_36 rfl rfl ?_
  refine ww_getR (f := 280) wf_X6_10 dX6_part_37 rfl rfl (show ww_is _ _ 7 from hw.1).1 (show ww_is _ _ 7 from hw.1).2 hw.2.1 ?_
  refine ww_callV (κ := 0) (r := (RJx4a65c, TJx4a65c, 3)) wk_X6_52 dX6_part_40 (hsz) rfl rfl (show ww_is _ _ 0 from hw.2.2.1.1).1 (show ww_is _ _ 0 from hw.2.2.1.1).2 rfl rfl (by omega) (by omega) (by omega) (by first | exact Nat.le_of_ble_eq_true rfl | (simp [ww_rf_cat, Value.category])) rfl (fun E M9 h9 => h9.elim) (fun v9 M9 h9 => ?_)
  obtain ⟨rfl, rfl⟩ := h9
  refine ww_istore (i := 5) (lv2 := [(0, _), (1, _), (2, _), (3, _), (4, _), (5, _)]) dX6_part_43 (Nat.le_of_ble_eq_true rfl) rfl ?_
  refine ww_iload (i := 5) dX6_part_45 rfl ?_
  refine ww_bipush (v := 60) dX6_part_47 (by decide) ?_
  refine ww_icmp_lt_f (tgt := 62) dX6_part_49 (by decide) (nI_nlt (b := 60) (by omega) (by omega)) ?_
  exact ww_throw wx_X6_56_58 dX6_part_52 dX6_part_55 dX6_part_56 dX6_part_58 dX6_part_61 rfl (Nat.le_of_ble_eq_true rfl) (by omega) (by omega) (by first | exact Nat.le_of_ble_eq_true rfl | (simp [ww_rf_cat, Value.category])) ⟨rfl, rfl⟩
set_option maxRecDepth 20000 in
set_option maxHeartbeats 8000000 in
theorem c_part_0 (hr : ww_rc g M c ea P W kl f z D E n u w m S) (hG : q_G S n) (hW : q_W S n w) (hz : ∀ i, i < m → z i < n) (h60 : n < 60) (h0 : q_nil S n) {e d : Int32} (hk5 : k < 5) (h2 : q_rg 0 9 e) (h3 : q_rg 0 3 d) : ww_C g wy_X6_part 8 4 1037 [.ref (c 0), .int (nI k), .int e, .int d] M (ww_nQ g M c kl f z D E (n + 1) u w m (some (.int (nI n))) (q_part S n (nI k) e d)) ww_no := by
  refine ww_ent (by decide +kernel) (Nat.le_of_ble_eq_true rfl) ⟨rfl, rfl, rfl, rfl, trivial⟩ ?_
  have hw := ww_cp_wo hr.1
  have hk := hr.1.2.2.1
  have hsz := l_size (g := g) hw.2.2.1
  refine ww_aload_n (i := 0) dX6_part_0 rfl rfl ?_
  refine ww_iload_n (i := 1) dX6_part_1 rfl rfl ?_
  refine ww_callV (κ := 7) (r := (RX6, TX6, 4)) wk_X6_37 dX6_part_2 (c_limitsOf hw hk hk5) rfl rfl (show ww_is _ _ 7 from hw.1).1 (show ww_is _ _ 7 from hw.1).2 rfl rfl (by omega) (by omega) (by omega) (by first | exact Nat.le_of_ble_eq_true rfl | (simp [ww_rf_cat, Value.category])) rfl (fun E M9 h9 => h9.elim) (fun v9 M9 h9 => ?_)
  obtain ⟨rfl, rfl⟩ := h9
  first | refine ww_astore (i := 4) (lv2 := [(0, _), (1, _), (2, _), (3, _), (4, _)]) dX6_part_5 (Nat.le_of_ble_eq_true rfl) rfl ?_ | refine ww_astoreQ (i := 4) (lv2 := [(0, _), (1, _), (2, _), (3, _), (4, _)]) dX6_part_5 (Nat.le_of_ble_eq_true rfl) rfl ?_
  refine ww_iload_n (i := 2) dX6_part_7 rfl rfl ?_
  refine ww_iconst (v := 0) dX6_part_8 (by decide) ?_
  refine ww_bipush (v := 9) dX6_part_9 (by decide) ?_
  refine ww_callS wk_X6_41 rfl dX6_part_11 (c_out_f h2) rfl rfl (by omega) (by omega) (by omega) (by first | exact Nat.le_of_ble_eq_true rfl | (simp [ww_rf_cat, Value.category])) rfl (fun E M9 h9 => h9.elim) (fun v9 M9 h9 => ?_)
  obtain ⟨rfl, rfl⟩ := h9
  refine ww_if_ne_f (tgt := 26) dX6_part_14 (by decide) (by decide) ?_
  refine ww_iload_n (i := 3) dX6_part_17 rfl rfl ?_
  refine ww_iconst (v := 0) dX6_part_18 (by decide) ?_
  refine ww_iconst (v := 3) dX6_part_19 (by decide) ?_
  refine ww_callS wk_X6_41 rfl dX6_part_20 (c_out_f h3) rfl rfl (by omega) (by omega) (by omega) (by first | exact Nat.le_of_ble_eq_true rfl | (simp [ww_rf_cat, Value.category])) rfl (fun E M9 h9 => h9.elim) (fun v9 M9 h9 => ?_)
  obtain ⟨rfl, rfl⟩ := h9
  refine ww_if_eq_t (tgt := 36) dX6_part_23 (by decide) (by decide) ?_
  refine ww_aload_n (i := 0) dX6_part_36 rfl rfl ?_
  refine ww_getR (f := 280) wf_X6_10 dX6_part_37 rfl rfl (show ww_is _ _ 7 from hw.1).1 (show ww_is _ _ 7 from hw.1).2 hw.2.1 ?_
  refine ww_callV (κ := 0) (r := (RJx4a65c, TJx4a65c, 3)) wk_X6_52 dX6_part_40 (hsz) rfl rfl (show ww_is _ _ 0 from hw.2.2.1.1).1 (show ww_is _ _ 0 from hw.2.2.1.1).2 rfl rfl (by omega) (by omega) (by omega) (by first | exact Nat.le_of_ble_eq_true rfl | (simp [ww_rf_cat, Value.category])) rfl (fun E M9 h9 => h9.elim) (fun v9 M9 h9 => ?_)
  obtain ⟨rfl, rfl⟩ := h9
  refine ww_istore (i := 5) (lv2 := [(0, _), (1, _), (2, _), (3, _), (4, _), (5, _)]) dX6_part_43 (Nat.le_of_ble_eq_true rfl) rfl ?_
  refine ww_iload (i := 5) dX6_part_45 rfl ?_
  refine ww_bipush (v := 60) dX6_part_47 (by decide) ?_
  refine ww_icmp_lt_t (tgt := 62) dX6_part_49 (by decide) (nI_lt (b := 60) h60 (by decide)) ?_
  refine ww_aload_n (i := 0) dX6_part_62 rfl rfl ?_
  refine ww_getR (f := 280) wf_X6_10 dX6_part_63 rfl rfl (show ww_is _ _ 7 from hw.1).1 (show ww_is _ _ 7 from hw.1).2 hw.2.1 ?_
  -- at 66, locals [0, 1, 2, 3, 4, 5]
  refine ww_newO (κ := 4) wn_X6_61 dX6_part_66 (by omega) (by decide) (fun q hq => ?_)
  refine ww_less (kc2 := 2) (ks2 := 1000) (Nat.le_of_ble_eq_true rfl) (Nat.le_of_ble_eq_true rfl) ?_
  obtain ⟨q1, q2, _⟩ := ww_nw_q (M := M) (q := q) (κ := 4) (n := 0)
  have hq4 : ww_is (ww_nw M q 4 0).1 q 4 := ⟨q1, q2⟩
  have hz0 : ww_z0 (ww_nw M q 4 0) q := fun k => ⟨if_pos rfl, if_pos rfl⟩
  have hpi := c_partInit (g := g) hq4 hz0 (nI n) (nI k) e d (kl k)
  refine ww_dup dX6_part_69 (by first | rfl | exact ww_rf_cat _) ?_
  refine ww_iload (i := 5) dX6_part_70 rfl ?_
  refine ww_iload_n (i := 1) dX6_part_72 rfl rfl ?_
  refine ww_iload_n (i := 2) dX6_part_73 rfl rfl ?_
  refine ww_iload_n (i := 3) dX6_part_74 rfl rfl ?_
  refine ww_aload (i := 4) dX6_part_75 rfl ?_
  refine ww_callI wk_X6_63 rfl dX6_part_77 (hpi) rfl rfl (by omega) (by omega) (by omega) (by first | exact Nat.le_of_ble_eq_true rfl | (simp [ww_rf_cat, Value.category])) (fun v9 M9 h9 => ?_)
  obtain ⟨rfl, t1, wo, np, w1, w2⟩ := h9
  -- at 80, locals [0, 1, 2, 3, 4, 5]
  have t2 : ww_ft M M9 (fun _ => False) (fun _ => False) := ww_ft_wk (ww_ft_tr (ww_ft_nw (P := fun _ => False) (A := fun _ => False) ww_ft_rf hq) t1) (fun y hy x => x.elim id (fun s => hq (s ▸ hy))) (fun y _ x => x.elim id id)
  have hq2 : ww_is M9.1 q 4 := ww_ft_in t1 hq4
  have hls : ww_ls g M9 4 (c 1) (ea 0) n P := ww_ls_ft hw.2.2.1 t2 (fun x => x) (fun _ x => x)
  have hls1 := hls.1
  have hadd := j_add (g := g) (b := q) hls (by omega) ⟨hq2.1, hq2.2⟩ (r := (RX3, TX3, 18)) rfl (by decide)
  refine ww_callV (κ := 0) (r := (RJx4a65c, TJx4a65c, 3)) wk_X6_66 dX6_part_80 (hadd) rfl rfl (show ww_is _ _ 0 from hls1).1 (show ww_is _ _ 0 from hls1).2 rfl rfl (by omega) (by omega) (by omega) (by first | exact Nat.le_of_ble_eq_true rfl | (simp [ww_rf_cat, Value.category])) rfl (fun E M9 h9 => h9.elim) (fun v9 M9 h9 => ?_)
  obtain ⟨rfl, e', k1, k2, k3⟩ := h9
  refine ww_pop dX6_part_83 (by first | rfl | exact ww_rf_cat _) ?_
  -- at 84, locals [0, 1, 2, 3, 4, 5]
  refine ww_geL (fun hge => ?_)
  by_cases c3 : nI k = 3
  · obtain ⟨W', x1, x2, x3⟩ := w1 c3
    obtain ⟨hr2, hck2⟩ := ww_rc_part (W' := W') (e' := e') hr hG hW hz hk5 h60 h0 hq t2 hq2 np (fun _ => ⟨x1, fun y => x2 (ww_nw_in y hq).1, x3⟩) w2 k1 k2 k3 hge
    refine ww_iload (i := 5) dX6_part_84 rfl ?_
    exact ww_ireturn dX6_part_86 rfl (by first | rfl | exact ww_b_nar) ⟨rfl, _, _, _, hr2, hck2⟩
  · obtain ⟨hr2, hck2⟩ := ww_rc_part (W' := 0) (e' := e') hr hG hW hz hk5 h60 h0 hq t2 hq2 np (fun y => absurd y c3) w2 k1 k2 k3 hge
    refine ww_iload (i := 5) dX6_part_84 rfl ?_
    exact ww_ireturn dX6_part_86 rfl (by first | rfl | exact ww_b_nar) ⟨rfl, _, _, _, hr2, hck2⟩
end WWB5
