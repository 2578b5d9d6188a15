/-! ===== the log grows ===== -/
def q_eS (E : Nat → Nat → Int32) (u : Nat) (a b k : Int32) : Nat → Nat → Int32 := fun j i => if i = u then (if j = 0 then a else if j = 1 then b else k) else E j i
def ww_lgQ (g : ww_G) (M : ww_M) (lg ll le lh u : Nat) (f : Nat → Nat) (E : Nat → Nat → Int32) (a b k : Int32) : Option Value → ww_M → Prop := fun v M' => v = none ∧ ∃ e' f', ww_lo g M' lg ll e' lh (u + 1) f' (q_eS E u a b k) ∧ (e' = le ∨ e' ∉ ww_L M) ∧ ww_ft M M' (fun y => y = ll) (fun y => y = le ∧ ww_is M.1 le 12)
section WWZ2
variable {g : ww_G} {M M1 M' : ww_M} {lg ll le lh u q b : Nat} {f : Nat → Nat} {E : Nat → Nat → Int32} {Pp A : Nat → Prop}
theorem ww_ft_sIn {f a : Nat} {v : Int32} (h : ww_ft M M1 Pp A) (hq : a ∉ ww_L M) : ww_ft M (ww_sI M1 f a v) Pp A := by
  refine ⟨h.1, fun f' y hy z hf => ⟨?_, (h.2.1 f' y hy z hf).2⟩, h.2.2⟩
  rw [← (h.2.1 f' y hy z hf).1]
  exact ww_u2n (fun w => hq (w.2 ▸ hy))
set_option maxRecDepth 20000 in
theorem c_logAdd (ho : ww_lo g M lg ll le lh u f E) (h5 : u < 512) (hb : ww_is M.1 b 1) : ww_C g wy_X2_add 8 1 1034 [.ref lg, .ref b] M (fun v M' => v = none ∧ ∃ e', ww_ls g M' 1 ll e' (u + 1) (q_snoc f u b) ∧ (e' = le ∨ e' ∉ ww_L M) ∧ ww_fr M M' (fun y => y = ll) (fun y => y = le ∧ ww_is M.1 le 12)) ww_no := by
  refine ww_ent (by decide +kernel) (Nat.le_of_ble_eq_true rfl) ⟨rfl, rfl, trivial⟩ ?_
  have hl := ho.2.2.2.2.2.2.1
  have hadd := j_add (g := g) hl (by omega) hb (r := (RX0, TX0, 3)) rfl (by decide)
  refine ww_aload_n (i := 0) dX2_add_0 rfl rfl ?_
  refine ww_getR (f := 120) wf_X2_12 dX2_add_1 rfl rfl (show ww_is _ _ 3 from ho.1).1 (show ww_is _ _ 3 from ho.1).2 ho.2.1 ?_
  refine ww_callV (κ := 0) (r := (RJx4a65c, TJx4a65c, 3)) wk_X2_31 dX2_add_4 (l_size hl) rfl rfl (show ww_is _ _ 0 from hl.1).1 (show ww_is _ _ 0 from hl.1).2 rfl rfl (by omega) (by omega) (by omega) (by first | exact Nat.le_of_ble_eq_true rfl | (simp [ww_rf_cat, Value.category])) rfl (fun E M9 h9 => h9.elim) (fun v9 M9 h9 => ?_)
  obtain ⟨rfl, rfl⟩ := h9
  refine ww_sipush (v := 512) dX2_add_7 (by decide) ?_
  refine ww_icmp_ge_f (tgt := 22) dX2_add_10 (by decide) (nI_ge (b := 512) h5 (by decide)) ?_
  refine ww_aload_n (i := 0) dX2_add_13 rfl rfl ?_
  refine ww_getR (f := 120) wf_X2_12 dX2_add_14 rfl rfl (show ww_is _ _ 3 from ho.1).1 (show ww_is _ _ 3 from ho.1).2 ho.2.1 ?_
  refine ww_aload_n (i := 1) dX2_add_17 rfl rfl ?_
  refine ww_callV (κ := 0) (r := (RJx4a65c, TJx4a65c, 3)) wk_X2_35 dX2_add_18 (hadd) rfl rfl (show ww_is _ _ 0 from hl.1).1 (show ww_is _ _ 0 from hl.1).2 rfl rfl (by omega) (by omega) (by omega) (by first | exact Nat.le_of_ble_eq_true rfl | (simp [ww_rf_cat, Value.category])) rfl (fun E M9 h9 => h9.elim) (fun v9 M9 h9 => ?_)
  obtain ⟨rfl, e1, k1, k2, k3⟩ := h9
  refine ww_pop dX2_add_21 (by first | rfl | exact ww_rf_cat _) ?_
  exact ww_vreturn dX2_add_22 rfl ⟨rfl, e1, k1, k2, k3⟩
theorem ww_lo_snoc {a v k : Int32} {e' : Nat} (ho : ww_lo g M lg ll le lh u f E) (h5 : u < 512) (hq : q ∉ ww_L M) (k1 : ww_ls g M' 1 ll e' (u + 1) (q_snoc f u q)) (k2 : e' = le ∨ e' ∉ ww_L (ww_event (ww_nw M q 1 0) q a v k)) (k3 : ww_fr (ww_event (ww_nw M q 1 0) q a v k) M' (fun y => y = ll) (fun y => y = le ∧ ww_is (ww_event (ww_nw M q 1 0) q a v k).1 le 12)) : ww_lgQ g M lg ll le lh u f E a v k none M' := by
  have t1 : ww_ft M (ww_event (ww_nw M q 1 0) q a v k) (fun _ => False) (fun _ => False) := ww_ft_sIn (ww_ft_sIn (ww_ft_sIn (ww_ft_nw ww_ft_rf hq) hq) hq) hq
  have t : ww_ft M M' (fun y => y = ll) (fun y => y = le ∧ ww_is M.1 le 12) := ww_ft_wk (ww_ft_tr t1 (ww_ft_fr k3)) (fun y _ z => z.elim (fun w => w.elim) id) (fun y hy z => z.elim (fun w => w.elim) (fun w => ⟨w.1, by
    rw [← w.1]
    refine ⟨hy, ?_⟩
    have hne : y ≠ q := fun x => hq (x ▸ hy)
    have e : ww_K (ww_nw M q 1 0) y = ww_K M y := if_neg hne
    have e12 : ww_K (ww_nw M q 1 0) le = 12 := w.2.2
    rw [← w.1, e] at e12
    exact e12⟩))
  obtain ⟨l1, l2, l3, l4, l5, l6, l7, l8⟩ := ho
  have no : ∀ {y κ : Nat}, ww_is M.1 y κ → ¬ κ = 0 → ¬ y = ll := fun hy hk z => hk (by
    have e1 : ww_K M _ = _ := hy.2
    have e0 : ww_K M ll = 0 := l7.1.2
    rw [z] at e1
    exact e1.symm.trans e0)
  refine ⟨rfl, e', q_snoc f u q, ⟨ww_ft_in t l1, (ww_ft_R t l1 (no l1 (by decide)) rfl).trans l2, (ww_ft_R t l1 (no l1 (by decide)) rfl).trans l3, ww_ft_in t l4, (t.1 _ l4.1).2.2.trans l5, by omega, k1, fun i hi => ?_⟩, k2.imp id (fun z w => z (List.mem_append_left _ w)), t⟩
  by_cases c : i = u
  · subst c
    have e : q_snoc f i q i = q := if_pos rfl
    obtain ⟨q1, q2, _⟩ := ww_nw_q (M := M) (q := q) (κ := 1) (n := 0)
    have hne : ¬ q = ll := fun z => hq (z ▸ l7.1.1)
    have I : ∀ {f' : Nat} {x : Int32}, ww_I (ww_event (ww_nw M q 1 0) q a v k) f' q = x → ww_I M' f' q = x := fun h => ((k3.2.1 _ q q1 hne).1).trans h
    rw [e]
    unfold q_eS
    rw [if_pos rfl, if_pos rfl, if_pos rfl, if_neg (by decide), if_pos rfl, if_pos rfl, if_neg (by decide), if_neg (by decide)]
    exact ⟨I ((ww_sI_f (by decide)).trans ((ww_sI_f (by decide)).trans ww_sI_s)), I ((ww_sI_f (by decide)).trans ww_sI_s), I ww_sI_s⟩
  · have e : q_snoc f u q i = f i := if_neg c
    rw [e]
    unfold q_eS
    rw [if_neg c, if_neg c, if_neg c]
    have hi' : i < u := by omega
    have he := ww_ls_el l7 hi'
    obtain ⟨k40, k41, k42⟩ := l8 i hi'
    exact ⟨(ww_ft_I t he (no he (by decide)) rfl).trans k40, (ww_ft_I t he (no he (by decide)) rfl).trans k41, (ww_ft_I t he (no he (by decide)) rfl).trans k42⟩
set_option maxRecDepth 20000 in
set_option maxHeartbeats 4000000 in
theorem c_addMove (ho : ww_lo g M lg ll le lh u f E) (h5 : u < 512) (a v : Int32) : ww_C g wy_X2_addMove 9 2 1037 [.ref lg, .int a, .int v] M (ww_lgQ g M lg ll le lh u f E a v 0) ww_no := by
  refine ww_ent (by decide +kernel) (Nat.le_of_ble_eq_true rfl) ⟨rfl, rfl, rfl, trivial⟩ ?_
  refine ww_aload_n (i := 0) dX2_addMove_0 rfl rfl ?_
  -- at 1, locals [0, 1, 2]
  refine ww_newO (κ := 1) wn_X2_22 dX2_addMove_1 (by omega) (by decide) (fun q hq => ?_)
  refine ww_less (kc2 := 1) (ks2 := 1034) (Nat.le_of_ble_eq_true rfl) (Nat.le_of_ble_eq_true rfl) ?_
  obtain ⟨q1, q2, _⟩ := ww_nw_q (M := M) (q := q) (κ := 1) (n := 0)
  have hb : ww_is (ww_nw M q 1 0).1 q 1 := ⟨q1, q2⟩
  have hlg : ww_is (ww_event (ww_nw M q 1 0) q a v 0).1 lg 3 := ⟨(ww_nw_in ho.1.1 hq).1, (ww_nw_in ho.1.1 hq).2.1.trans ho.1.2⟩
  have t1 : ww_ft M (ww_event (ww_nw M q 1 0) q a v 0) (fun _ => False) (fun _ => False) := ww_ft_sIn (ww_ft_sIn (ww_ft_sIn (ww_ft_nw ww_ft_rf hq) hq) hq) hq
  have ho2 : ww_lo g (ww_event (ww_nw M q 1 0) q a v 0) lg ll le lh u f E := by
    obtain ⟨l1, l2, l3, l4, l5, l6, l7, l8⟩ := ho
    refine ⟨ww_ft_in t1 l1, (ww_ft_R t1 l1 (fun z => z) rfl).trans l2, (ww_ft_R t1 l1 (fun z => z) rfl).trans l3, ww_ft_in t1 l4, (t1.1 _ l4.1).2.2.trans l5, l6, ww_ls_ft l7 t1 (fun z => z) (fun _ z => z), fun i hi => ?_⟩
    have he := ww_ls_el l7 hi
    obtain ⟨k1, k2, k3⟩ := l8 i hi
    exact ⟨(ww_ft_I t1 he (fun z => z) rfl).trans k1, (ww_ft_I t1 he (fun z => z) rfl).trans k2, (ww_ft_I t1 he (fun z => z) rfl).trans k3⟩
  refine ww_dup dX2_addMove_4 (by first | rfl | exact ww_rf_cat _) ?_
  refine ww_iload_n (i := 1) dX2_addMove_5 rfl rfl ?_
  refine ww_iload_n (i := 2) dX2_addMove_6 rfl rfl ?_
  refine ww_iconst (v := 0) dX2_addMove_7 (by decide) ?_
  refine ww_callI wk_X2_24 rfl dX2_addMove_8 (c_eventInit hb a v 0) rfl rfl (by omega) (by omega) (by omega) (by first | exact Nat.le_of_ble_eq_true rfl | (simp [ww_rf_cat, Value.category])) (fun v9 M9 h9 => ?_)
  obtain ⟨rfl, rfl⟩ := h9
  refine ww_callV (κ := 3) (r := (RX2, TX2, 2)) wk_X2_27 dX2_addMove_11 (c_logAdd ho2 h5 hb) rfl rfl (show ww_is _ _ 3 from hlg).1 (show ww_is _ _ 3 from hlg).2 rfl rfl (by omega) (by omega) (by omega) (by first | exact Nat.le_of_ble_eq_true rfl | (simp [ww_rf_cat, Value.category])) rfl (fun E M9 h9 => h9.elim) (fun v9 M9 h9 => ?_)
  obtain ⟨rfl, e1, k1, k2, k3⟩ := h9
  exact ww_vreturn dX2_addMove_14 rfl (ww_lo_snoc ho h5 hq k1 k2 k3)
set_option maxRecDepth 20000 in
set_option maxHeartbeats 4000000 in
theorem c_addRun (ho : ww_lo g M lg ll le lh u f E) (h5 : u < 512) (a v : Int32) : ww_C g wy_X2_addRun 9 2 1037 [.ref lg, .int a, .int v] M (ww_lgQ g M lg ll le lh u f E a (-1) v) ww_no := by
  refine ww_ent (by decide +kernel) (Nat.le_of_ble_eq_true rfl) ⟨rfl, rfl, rfl, trivial⟩ ?_
  refine ww_aload_n (i := 0) dX2_addRun_0 rfl rfl ?_
  -- at 1, locals [0, 1, 2]
  refine ww_newO (κ := 1) wn_X2_22 dX2_addRun_1 (by omega) (by decide) (fun q hq => ?_)
  refine ww_less (kc2 := 1) (ks2 := 1034) (Nat.le_of_ble_eq_true rfl) (Nat.le_of_ble_eq_true rfl) ?_
  obtain ⟨q1, q2, _⟩ := ww_nw_q (M := M) (q := q) (κ := 1) (n := 0)
  have hb : ww_is (ww_nw M q 1 0).1 q 1 := ⟨q1, q2⟩
  have hlg : ww_is (ww_event (ww_nw M q 1 0) q a (-1) v).1 lg 3 := ⟨(ww_nw_in ho.1.1 hq).1, (ww_nw_in ho.1.1 hq).2.1.trans ho.1.2⟩
  have t1 : ww_ft M (ww_event (ww_nw M q 1 0) q a (-1) v) (fun _ => False) (fun _ => False) := ww_ft_sIn (ww_ft_sIn (ww_ft_sIn (ww_ft_nw ww_ft_rf hq) hq) hq) hq
  have ho2 : ww_lo g (ww_event (ww_nw M q 1 0) q a (-1) v) lg ll le lh u f E := by
    obtain ⟨l1, l2, l3, l4, l5, l6, l7, l8⟩ := ho
    refine ⟨ww_ft_in t1 l1, (ww_ft_R t1 l1 (fun z => z) rfl).trans l2, (ww_ft_R t1 l1 (fun z => z) rfl).trans l3, ww_ft_in t1 l4, (t1.1 _ l4.1).2.2.trans l5, l6, ww_ls_ft l7 t1 (fun z => z) (fun _ z => z), fun i hi => ?_⟩
    have he := ww_ls_el l7 hi
    obtain ⟨k1, k2, k3⟩ := l8 i hi
    exact ⟨(ww_ft_I t1 he (fun z => z) rfl).trans k1, (ww_ft_I t1 he (fun z => z) rfl).trans k2, (ww_ft_I t1 he (fun z => z) rfl).trans k3⟩
  refine ww_dup dX2_addRun_4 (by first | rfl | exact ww_rf_cat _) ?_
  refine ww_iload_n (i := 1) dX2_addRun_5 rfl rfl ?_
  refine ww_iconst (v := (-1)) dX2_addRun_6 (by decide) ?_
  refine ww_iload_n (i := 2) dX2_addRun_7 rfl rfl ?_
  refine ww_callI wk_X2_24 rfl dX2_addRun_8 (c_eventInit hb a (-1) v) rfl rfl (by omega) (by omega) (by omega) (by first | exact Nat.le_of_ble_eq_true rfl | (simp [ww_rf_cat, Value.category])) (fun v9 M9 h9 => ?_)
  obtain ⟨rfl, rfl⟩ := h9
  refine ww_callV (κ := 3) (r := (RX2, TX2, 2)) wk_X2_27 dX2_addRun_11 (c_logAdd ho2 h5 hb) rfl rfl (show ww_is _ _ 3 from hlg).1 (show ww_is _ _ 3 from hlg).2 rfl rfl (by omega) (by omega) (by omega) (by first | exact Nat.le_of_ble_eq_true rfl | (simp [ww_rf_cat, Value.category])) rfl (fun E M9 h9 => h9.elim) (fun v9 M9 h9 => ?_)
  obtain ⟨rfl, e1, k1, k2, k3⟩ := h9
  exact ww_vreturn dX2_addRun_14 rfl (ww_lo_snoc ho h5 hq k1 k2 k3)
end WWZ2
/-- a place of ea anew -/
def q_ea (ea : Nat → Nat) (k e : Nat) : Nat → Nat := fun i => if i = k then e else ea i
section WWZ3
variable {g : ww_G} {M M1 : ww_M} {c ea P W kl f z D : Nat → Nat} {E : Nat → Nat → Int32} {n u w m : Nat} {S S1 : Nat → Nat → Int32}
theorem ww_ap_ea {k e : Nat} (hk : k < 4) (h : ww_ap g M c ea) (he : e = ea k ∨ e ∉ ww_L M) (hge : ww_ge g ∉ ww_L M1) (hl : ∀ i, i < 4 → i ≠ k → ea i = ww_ge g ∨ ea i ∈ ww_L M) : ww_ap g M1 c (q_ea ea k e) := by
  obtain ⟨p1, p2, p3, p4⟩ := h
  refine ⟨p1, fun i j hi hj e1 => ?_, p3, hge⟩
  have key : ∀ j, j < 4 → j ≠ k → e = ea j → ea j = ww_ge g ∨ j = k := fun j hj hne e2 => by
    rcases he with he | he
    · rcases p2 j k hj hk (e2.symm.trans he) with z | z
      · exact Or.inr z
      · exact Or.inl z
    · rcases hl j hj hne with z | z
      · exact Or.inl z
      · exact absurd (e2 ▸ z) he
  unfold q_ea at e1 ⊢
  by_cases ci : i = k
  · by_cases cj : j = k
    · exact Or.inl (ci.trans cj.symm)
    · rw [if_pos ci, if_neg cj] at e1
      rw [if_pos ci]
      rcases key j hj cj e1 with z | z
      · exact Or.inr (e1.trans z)
      · exact absurd z cj
  · rw [if_neg ci] at e1 ⊢
    by_cases cj : j = k
    · rw [if_pos cj] at e1
      rcases key i hi ci e1.symm with z | z
      · exact Or.inr z
      · exact absurd z ci
    · rw [if_neg cj] at e1
      exact p2 i j hi hj e1
end WWZ3
