/-! ===== what stays ===== -/
/-- all that M held stands in M' too, but what P (objects) and A (arrays) name -/
def ww_fr (M M' : ww_M) (P A : Nat → Prop) : Prop := (∀ y, y ∈ ww_L M → y ∈ ww_L M' ∧ ww_K M' y = ww_K M y ∧ ww_N M' y = ww_N M y) ∧ (∀ f y, y ∈ ww_L M → ¬ P y → ww_I M' f y = ww_I M f y ∧ ww_R M' f y = ww_R M f y) ∧ (∀ y, y ∈ ww_L M → ¬ A y → ww_X M' y = ww_X M y ∧ ww_Y M' y = ww_Y M y ∧ ww_Z M' y = ww_Z M y)
section WWF
variable {M M1 M2 : ww_M} {P A P2 A2 : Nat → Prop} {a e i q κ n f : Nat}
theorem ww_fr_rf : ww_fr M M P A := ⟨fun _ h => ⟨h, rfl, rfl⟩, fun _ _ _ _ => ⟨rfl, rfl⟩, fun _ _ _ => ⟨rfl, rfl, rfl⟩⟩
theorem ww_fr_tr (h : ww_fr M M1 P A) (h' : ww_fr M1 M2 P2 A2) : ww_fr M M2 (fun y => P y ∨ P2 y) (fun y => A y ∨ A2 y) := by
  obtain ⟨h1, h2, h3⟩ := h
  obtain ⟨k1, k2, k3⟩ := h'
  refine ⟨fun y hy => ?_, fun f y hy hp => ?_, fun y hy ha => ?_⟩
  · obtain ⟨a1, a2, a3⟩ := h1 y hy
    obtain ⟨b1, b2, b3⟩ := k1 y a1
    exact ⟨b1, b2.trans a2, b3.trans a3⟩
  · obtain ⟨a1, a2⟩ := h2 f y hy (fun z => hp (Or.inl z))
    obtain ⟨b1, b2⟩ := k2 f y (h1 y hy).1 (fun z => hp (Or.inr z))
    exact ⟨b1.trans a1, b2.trans a2⟩
  · obtain ⟨a1, a2, a3⟩ := h3 y hy (fun z => ha (Or.inl z))
    obtain ⟨b1, b2, b3⟩ := k3 y (h1 y hy).1 (fun z => ha (Or.inr z))
    exact ⟨b1.trans a1, b2.trans a2, b3.trans a3⟩
theorem ww_fr_wk (h : ww_fr M M1 P A) (hp : ∀ y, P y → P2 y) (ha : ∀ y, A y → A2 y) : ww_fr M M1 P2 A2 := ⟨h.1, fun f y hy z => h.2.1 f y hy (fun w => z (hp y w)), fun y hy z => h.2.2 y hy (fun w => z (ha y w))⟩
theorem ww_fr_sI {v : Int32} (h : ww_fr M M1 P A) (hp : P a) : ww_fr M (ww_sI M1 f a v) P A := by
  refine ⟨h.1, fun f' y hy z => ⟨?_, (h.2.1 f' y hy z).2⟩, h.2.2⟩
  rw [← (h.2.1 f' y hy z).1]
  exact ww_u2n (fun w => z (w.2 ▸ hp))
theorem ww_fr_sR {v : Option Nat} (h : ww_fr M M1 P A) (hp : P a) : ww_fr M (ww_sR M1 f a v) P A := by
  refine ⟨h.1, fun f' y hy z => ⟨(h.2.1 f' y hy z).1, ?_⟩, h.2.2⟩
  rw [← (h.2.1 f' y hy z).2]
  exact ww_u2n (fun w => z (w.2 ▸ hp))
theorem ww_fr_sY {v : Option Nat} (h : ww_fr M M1 P A) (hp : A e ∨ e ∉ ww_L M) : ww_fr M (ww_sY M1 e i v) P A := by
  refine ⟨h.1, h.2.1, fun y hy z => ⟨(h.2.2 y hy z).1, ?_, (h.2.2 y hy z).2.2⟩⟩
  rw [← (h.2.2 y hy z).2.1]
  funext j
  refine ww_u2n (fun w => ?_)
  rcases hp with hp | hp
  · exact z (w.1 ▸ hp)
  · exact hp (w.1 ▸ hy)
theorem ww_fr_cY {v : Nat → Option Nat} (h : ww_fr M M1 P A) (hp : A e ∨ e ∉ ww_L M) : ww_fr M (ww_cY M1 e v) P A := by
  refine ⟨h.1, h.2.1, fun y hy z => ⟨(h.2.2 y hy z).1, ?_, (h.2.2 y hy z).2.2⟩⟩
  rw [← (h.2.2 y hy z).2.1]
  refine if_neg (fun w => ?_)
  rcases hp with hp | hp
  · exact z (w ▸ hp)
  · exact hp (w ▸ hy)
theorem ww_fr_nw (h : ww_fr M M1 P A) (hq : q ∉ ww_L M1) : ww_fr M (ww_nw M1 q κ n) P A := by
  refine ⟨fun y hy => ?_, fun f y hy z => ?_, fun y hy z => ?_⟩
  · obtain ⟨a1, a2, a3⟩ := h.1 y hy
    obtain ⟨b1, b2, b3⟩ := ww_nw_in (κ := κ) (n := n) a1 hq
    exact ⟨b1, b2.trans a2, b3.trans a3⟩
  · have hne : y ≠ q := fun w => hq (w ▸ (h.1 y hy).1)
    exact ⟨(show ww_I (ww_nw M1 q κ n) f y = ww_I M1 f y from if_neg hne).trans (h.2.1 f y hy z).1, (show ww_R (ww_nw M1 q κ n) f y = ww_R M1 f y from if_neg hne).trans (h.2.1 f y hy z).2⟩
  · have hne : y ≠ q := fun w => hq (w ▸ (h.1 y hy).1)
    obtain ⟨b1, b2, b3⟩ := h.2.2 y hy z
    refine ⟨?_, ?_, ?_⟩
    · rw [← b1]; funext j; exact if_neg hne
    · rw [← b2]; funext j; exact if_neg hne
    · rw [← b3]; funext j; exact if_neg hne
end WWF
/-! ===== a list: n elements, f i, of class κ, in the array e ===== -/
def ww_ow (M : ww_M) (κ e n : Nat) (f : Nat → Nat) : Prop := ww_is M.1 e 12 ∧ 10 ≤ ww_N M e ∧ ww_N M e < 28000 ∧ n ≤ ww_N M e ∧ (∀ i, i < n → ww_Y M e i = some (f i)) ∧ ww_el M e κ
def ww_ls (g : ww_G) (M : ww_M) (κ a e n : Nat) (f : Nat → Nat) : Prop := ww_is M.1 a 0 ∧ ww_I M 2 a = nI n ∧ ww_R M 1 a = some e ∧ ((e = ww_ge g ∧ n = 0) ∨ ww_ow M κ e n f)
section WWK
variable {g : ww_G} {M M1 : ww_M} {a b e e1 n κ : Nat} {f : Nat → Nat}
/-- f and then b -/
def q_snoc (f : Nat → Nat) (n b : Nat) : Nat → Nat := fun i => if i = n then b else f i
theorem ww_ls_put (h1 : ww_is M1.1 a 0) (h2 : ww_R M1 1 a = some e1) (h3 : ww_ow M1 κ e1 n f) (hn : n < ww_N M1 e1) (hb : b ∈ ww_L M1 ∧ ww_K M1 b = κ) : ww_ls g (ww_sI (ww_sY M1 e1 n (some b)) 2 a (nI (n + 1))) κ a e1 (n + 1) (q_snoc f n b) := by
  obtain ⟨o1, o2, o3, o4, o5, o6⟩ := h3
  refine ⟨h1, ww_u2s, h2, Or.inr ⟨o1, o2, o3, hn, fun i hi => ?_, fun i y hi hy => ?_⟩⟩
  · show ww_u2 (ww_Y M1) e1 n (some b) e1 i = some (if i = n then b else f i)
    by_cases h : i = n
    · subst h
      rw [ww_u2s, if_pos rfl]
    · rw [ww_u2n (fun z => h z.2), if_neg h]
      exact o5 i (by omega)
  · have hy' : ww_u2 (ww_Y M1) e1 n (some b) e1 i = some y := hy
    by_cases h : i = n
    · subst h
      rw [ww_u2s] at hy'
      cases hy'
      exact hb
    · rw [ww_u2n (fun z => h z.2)] at hy'
      exact o6 i y hi hy'
/-- the end of an add -/
def ww_adQ (g : ww_G) (M : ww_M) (v0 : Option Value) (κ a b e n : Nat) (f : Nat → Nat) : Option Value → ww_M → Prop := fun v M' => v = v0 ∧ ∃ e', ww_ls g M' κ a e' (n + 1) (q_snoc f n b) ∧ (e' = e ∨ e' ∉ ww_L M) ∧ ww_fr M M' (fun y => y = a) (fun y => y = e ∧ ww_is M.1 e 12)
set_option maxRecDepth 20000 in
theorem j_grow_e (ha : ww_is M.1 a 0) (he : ww_R M 1 a = some (ww_ge g)) : ww_C g wy_Jx4a65c_grow_92f84 2 1 10 [.ref a, .int 1] M (fun v M' => ∃ q, q ∉ ww_L M ∧ v = some (.ref q) ∧ ww_sR (ww_nw M q 12 10) 1 a (some q) = M') ww_no := by
  refine ww_ent (by decide +kernel) (Nat.le_of_ble_eq_true rfl) ⟨rfl, rfl, trivial⟩ ?_
  refine ww_aload_n (i := 0) dJx4a65c_grow_92f84_0 rfl rfl ?_
  refine ww_getR (f := 1) wf_Jx4a65c_9 dJx4a65c_grow_92f84_1 rfl rfl (show ww_is _ _ 0 from ha).1 (show ww_is _ _ 0 from ha).2 he ?_
  -- at 4, locals [0, 1]
  refine ww_alenE dJx4a65c_grow_92f84_4 ?_
  refine ww_istore_n (i := 2) (lv2 := [(0, _), (1, _), (2, _)]) dJx4a65c_grow_92f84_5 rfl (Nat.le_of_ble_eq_true rfl) rfl ?_
  refine ww_iload_n (i := 2) dJx4a65c_grow_92f84_6 rfl rfl ?_
  refine ww_if_gt_f (tgt := 20) dJx4a65c_grow_92f84_7 (by decide) (by decide) ?_
  refine ww_aload_n (i := 0) dJx4a65c_grow_92f84_10 rfl rfl ?_
  refine ww_getR (f := 1) wf_Jx4a65c_9 dJx4a65c_grow_92f84_11 rfl rfl (show ww_is _ _ 0 from ha).1 (show ww_is _ _ 0 from ha).2 he ?_
  refine ww_getE dJx4a65c_grow_92f84_14 wm_68 ?_
  -- at 17, locals [0, 1, 2]
  refine ww_acmp_eq (tgt := 45) (rx := some (ww_ge g)) (ry := some (ww_ge g)) rfl rfl dJx4a65c_grow_92f84_17 (by decide) (fun _ => ?_) (fun z => absurd rfl z)
  refine ww_aload_n (i := 0) dJx4a65c_grow_92f84_45 rfl rfl ?_
  refine ww_bipush (v := 10) dJx4a65c_grow_92f84_46 (by decide) ?_
  refine ww_iload_n (i := 1) dJx4a65c_grow_92f84_48 rfl rfl ?_
  refine ww_mmax wk_Jx4a65c_79 dJx4a65c_grow_92f84_49 (by omega) (by first | exact Nat.le_of_ble_eq_true rfl | (simp [ww_rf_cat, Value.category])) ?_
  -- at 52, locals [0, 1, 2]
  refine ww_newQ (n := 10) (κ := 12) (C0 := "java/lang/Object") dJx4a65c_grow_92f84_52 (Or.inr ⟨rfl, rfl⟩) wm_412 (by decide) (by omega) (by omega) (by omega) (fun q hq => ?_)
  have ha2 : ww_is (ww_nw M q 12 10).1 a 0 := ⟨(ww_nw_in ha.1 hq).1, (ww_nw_in ha.1 hq).2.1.trans ha.2⟩
  refine ww_dup_x1 dJx4a65c_grow_92f84_55 (by first | rfl | exact ww_rf_cat _) (by first | rfl | exact ww_rf_cat _) ?_
  refine ww_putQ (f := 1) wf_Jx4a65c_9 wt_0_1 dJx4a65c_grow_92f84_56 rfl rfl (show ww_is _ _ 0 from ha2).1 (show ww_is _ _ 0 from ha2).2 (r := some _) rfl rfl rfl ?_
  exact ww_areturn dJx4a65c_grow_92f84_59 rfl (by first | exact Or.inl ⟨_, rfl⟩ | exact Or.inr ⟨_, rfl⟩) (r := some _) rfl ⟨q, hq, rfl, rfl⟩
def q_len (m : Nat) : Nat := m + (if 1 < m / 2 then m / 2 else 1)
set_option maxRecDepth 20000 in
theorem j_grow_o {r : vw_C} (ha : ww_is M.1 a 0) (he : ww_R M 1 a = some e) (ho : ww_ow M κ e n f) (hn : n = ww_N M e) (hr : vwCl[κ]? = some r) (hca : (r.1, "java/lang/Object") ∈ ww_ca) : ww_C g wy_Jx4a65c_grow_92f84 4 1 (q_len n) [.ref a, .int (nI (n + 1))] M (fun v M' => ∃ q, q ∉ ww_L M ∧ v = some (.ref q) ∧ ww_sR (ww_cpM M e q n (q_len n)) 1 a (some q) = M') ww_no := by
  refine ww_ent (by decide +kernel) (Nat.le_of_ble_eq_true rfl) ⟨rfl, rfl, trivial⟩ ?_
  obtain ⟨o1, o2, o3, o4, o5, o6⟩ := ho
  have hk12 : ww_K M e = 12 := o1.2
  have hl : n < q_len n ∧ q_len n < 65000 := by unfold q_len; split <;> omega
  refine ww_aload_n (i := 0) dJx4a65c_grow_92f84_0 rfl rfl ?_
  refine ww_getR (f := 1) wf_Jx4a65c_9 dJx4a65c_grow_92f84_1 rfl rfl (show ww_is _ _ 0 from ha).1 (show ww_is _ _ 0 from ha).2 he ?_
  -- at 4, locals [0, 1]
  refine ww_alen dJx4a65c_grow_92f84_4 o1.1 (by rw [hk12]; decide) (by rw [hk12]; decide) ?_
  rw [← hn]
  refine ww_istore_n (i := 2) (lv2 := [(0, _), (1, _), (2, _)]) dJx4a65c_grow_92f84_5 rfl (Nat.le_of_ble_eq_true rfl) rfl ?_
  refine ww_iload_n (i := 2) dJx4a65c_grow_92f84_6 rfl rfl ?_
  refine ww_if_gt_t (tgt := 20) dJx4a65c_grow_92f84_7 (by decide) (nI_lt (a := 0) (by omega) (by omega)) ?_
  refine ww_iload_n (i := 2) dJx4a65c_grow_92f84_20 rfl rfl ?_
  refine ww_iload_n (i := 1) dJx4a65c_grow_92f84_21 rfl rfl ?_
  refine ww_iload_n (i := 2) dJx4a65c_grow_92f84_22 rfl rfl ?_
  -- at 23, locals [0, 1, 2]
  have e1 : nI (n + 1) - nI n = 1 := by rw [nI_succ, Int32.add_comm, Int32.add_sub_cancel]
  refine ww_isub dJx4a65c_grow_92f84_23 ?_
  rw [e1]
  have hcp := j_copyOf (g := g) o1 (L := q_len n) (by omega) hl.2 hr hca o6
  rw [← hn] at hcp
  refine ww_iload_n (i := 2) dJx4a65c_grow_92f84_24 rfl rfl ?_
  refine ww_iconst (v := 1) dJx4a65c_grow_92f84_25 (by decide) ?_
  refine ww_ishr dJx4a65c_grow_92f84_26 ?_
  refine ww_callS wk_Jx4a65c_73 rfl dJx4a65c_grow_92f84_27 (j_newLength (by omega)) rfl rfl (by omega) (by omega) (by omega) (by first | exact Nat.le_of_ble_eq_true rfl | (simp [ww_rf_cat, Value.category])) rfl (fun E M9 h9 => h9.elim) (fun v9 M9 h9 => ?_)
  obtain ⟨rfl, rfl⟩ := h9
  refine ww_istore_n (i := 3) (lv2 := [(0, _), (1, _), (2, _), (3, _)]) dJx4a65c_grow_92f84_30 rfl (Nat.le_of_ble_eq_true rfl) rfl ?_
  refine ww_aload_n (i := 0) dJx4a65c_grow_92f84_31 rfl rfl ?_
  refine ww_aload_n (i := 0) dJx4a65c_grow_92f84_32 rfl rfl ?_
  refine ww_getR (f := 1) wf_Jx4a65c_9 dJx4a65c_grow_92f84_33 rfl rfl (show ww_is _ _ 0 from ha).1 (show ww_is _ _ 0 from ha).2 he ?_
  refine ww_iload_n (i := 3) dJx4a65c_grow_92f84_36 rfl rfl ?_
  refine ww_callS wk_Jx4a65c_66 rfl dJx4a65c_grow_92f84_37 (hcp) rfl rfl (by omega) (by omega) (by omega) (by first | exact Nat.le_of_ble_eq_true rfl | (simp [ww_rf_cat, Value.category])) rfl (fun E M9 h9 => h9.elim) (fun v9 M9 h9 => ?_)
  obtain ⟨q, hq, rfl, rfl⟩ := h9
  -- at 40, locals [0, 1, 2, 3]
  have ha2 : ww_is (ww_cpM M e q n (q_len n)).1 a 0 := ⟨(ww_nw_in ha.1 hq).1, (ww_nw_in ha.1 hq).2.1.trans ha.2⟩
  refine ww_dup_x1 dJx4a65c_grow_92f84_40 (by first | rfl | exact ww_rf_cat _) (by first | rfl | exact ww_rf_cat _) ?_
  refine ww_putQ (f := 1) wf_Jx4a65c_9 wt_0_1 dJx4a65c_grow_92f84_41 rfl rfl (show ww_is _ _ 0 from ha2).1 (show ww_is _ _ 0 from ha2).2 (r := some _) rfl rfl rfl ?_
  exact ww_areturn dJx4a65c_grow_92f84_44 rfl (by first | exact Or.inl ⟨_, rfl⟩ | exact Or.inr ⟨_, rfl⟩) (r := some _) rfl ⟨q, hq, rfl, rfl⟩
end WWK
