/-! ===== the works' constructors ===== -/
/-- an empty list at q -/
def ww_li (g : ww_G) (M : ww_M) (q : Nat) : ww_M := ww_sR (ww_sI (ww_nw M q 0 0) 0 q 0) 1 q (some (ww_ge g))
section WWB6
variable {g : ww_G} {M0 M M1 M2 M3 : ww_M} {a q x : Nat} {Pp A : Nat → Prop}
theorem ww_ft_sRn {f : Nat} {v : Option Nat} (h : ww_ft M M1 Pp A) (hq : a ∉ ww_L M) : ww_ft M (ww_sR M1 f a v) Pp A := by
  refine ⟨h.1, fun f' y hy z hf => ⟨(h.2.1 f' y hy z hf).1, ?_⟩, h.2.2⟩
  rw [← (h.2.1 f' y hy z hf).2]
  exact ww_u2n (fun w => hq (w.2 ▸ hy))
theorem ww_li_ft (hq : q ∉ ww_L M) : ww_ft M (ww_li g M q) (fun _ => False) (fun _ => False) := ww_ft_sRn (ww_ft_sIn (ww_ft_nw ww_ft_rf hq) hq) hq
theorem ww_li_ls {κ : Nat} {f : Nat → Nat} : ww_ls g (ww_li g M q) κ q (ww_ge g) 0 f := ⟨⟨ww_nw_q.1, ww_nw_q.2.1⟩, (show ww_u2 (ww_I (ww_nw M q 0 0)) 0 q 0 2 q = nI 0 from (ww_u2n (fun y => absurd y.1 (by decide))).trans ((show ww_I (ww_nw M q 0 0) 2 q = 0 from if_pos rfl).trans nI_0.symm)), (show ww_u2 (ww_R (ww_sI (ww_nw M q 0 0) 0 q 0)) 1 q (some (ww_ge g)) 1 q = some (ww_ge g) from ww_u2s), Or.inl ⟨rfl, rfl⟩⟩
/-- a's field f alone was written, with r -/
def ww_on (M M' : ww_M) (a κ f r : Nat) : Prop := ww_ft M M' (fun y => y = a) (fun _ => False) ∧ ww_R M' f a = some r ∧ (∀ f', f' ≠ f → f' / 40 = κ → ww_R M' f' a = ww_R M f' a) ∧ (∀ f', f' / 40 = κ → ww_I M' f' a = ww_I M f' a) ∧ r ∉ ww_L M ∧ r ∈ ww_L M'
theorem ww_on_sR {κ f r : Nat} (ha : ww_is M.1 a κ) (t : ww_ft M M1 (fun _ => False) (fun _ => False)) (h1 : r ∉ ww_L M) (h2 : r ∈ ww_L M1) : ww_on M (ww_sR M1 f a (some r)) a κ f r := ⟨ww_ft_sR (ww_ft_wk t (fun _ _ e => e.elim) (fun _ _ e => e)) rfl, (show ww_u2 (ww_R M1) f a (some r) f a = some r from ww_u2s), fun f' hne hk => (show ww_u2 (ww_R M1) f a (some r) f' a = ww_R M1 f' a from ww_u2n (fun y => hne y.1)).trans (ww_ft_R t ha (fun y => y) hk), fun f' hk => (show ww_I M1 f' a = ww_I M f' a from ww_ft_I t ha (fun y => y) hk), h1, h2⟩
variable {Y : ww_Yd} {d kc ks pc : Nat} {lv : List (Nat × Value)} {Q : Option Value → ww_M → Prop} {X : String → ww_M → Prop}
/-- a new list into a field -/
theorem n_list {κ k f idx idx2 idx3 : Nat} {ty : FieldType} (hn : ww_new Y.1.cls idx 0) (hi : ww_ini Y.1.cls idx2 wy_Jx4a65c_init_da8c8 0) (hfl : ww_fld Y.1.cls idx3 κ k) (hfs : ww_fst Y.1 κ k ty) (hf : 40 * κ + k = f) (hir : ww_ir f = true) (ha : ww_is M.1 a κ) (d0 : decode Y.2.1 pc = .ok (.new idx, 3)) (d3 : decode Y.2.1 (pc + 3) = .ok (.dup, 1)) (d4 : decode Y.2.1 (pc + 4) = .ok (.invokespecial idx2, 3)) (d7 : decode Y.2.1 (pc + 7) = .ok (.putfield idx3, 3)) (hna : ∀ q : Nat, narrow ty (.ref q) = .ref q) (hfi : ∀ q : Nat, fits ty (.ref q) = true) (hd : 4 ≤ d) (hkc : 1 ≤ kc) (hks : 3 ≤ ks)
    (kk : ∀ q M', ww_on M M' a κ f q → (∀ κ f, ww_ls g M' κ q (ww_ge g) 0 f) → ww_A g Y d (kc - 1) (ks - 3) M' (pc + 10) lv [] Q X) : ww_A g Y d kc ks M pc lv [.ref a] Q X := by
  refine ww_newO (κ := 0) hn d0 hkc hks (fun q hq => ?_)
  have hq0 : ww_is (ww_nw M q 0 0).1 q 0 := ⟨ww_nw_q.1, ww_nw_q.2.1⟩
  refine ww_dup d3 rfl ?_
  refine ww_callI hi rfl d4 (j_init hq0) rfl rfl (by omega) (by omega) (by omega) (by simp [Value.category]) (fun v9 M9 h9 => ?_)
  obtain ⟨rfl, h9⟩ := h9
  have h9 : ww_li g M q = M9 := h9
  subst h9
  have t1 : ww_ft M (ww_li g M q) (fun _ => False) (fun _ => False) := ww_li_ft hq
  have ha1 : ww_is (ww_li g M q).1 a κ := ww_ft_in t1 ha
  have hqa : ¬ q = a := fun e => hq (e ▸ ha.1)
  refine ww_putQ hfl hfs d7 hf hir ha1.1 ha1.2 (r := some q) rfl (hna q) (hfi q) ?_
  exact kk q _ (ww_on_sR ha t1 hq ww_nw_q.1) (fun κ f => ww_ls_ft ww_li_ls (ww_ft_sR (P := fun y => y = a) (A := fun _ => False) ww_ft_rf rfl) hqa (fun _ y => y))
/-- a new array of ints into a field -/
theorem n_ints {κ k f idx3 n : Nat} {i : Int32} {ty : FieldType} (hfl : ww_fld Y.1.cls idx3 κ k) (hfs : ww_fst Y.1 κ k ty) (hf : 40 * κ + k = f) (hir : ww_ir f = true) (ha : ww_is M.1 a κ) (d0 : decode Y.2.1 pc = .ok (.newarray .int, 2)) (d2 : decode Y.2.1 (pc + 2) = .ok (.putfield idx3, 3)) (hna : ∀ q : Nat, narrow ty (.ref q) = .ref q) (hfi : ∀ q : Nat, fits ty (.ref q) = true) (hi : i = nI n) (hn : n < 65536) (hkc : 1 ≤ kc) (hks : n ≤ ks)
    (kk : ∀ q M', ww_on M M' a κ f q → ww_is M'.1 q 9 → ww_N M' q = n → (∀ j, ww_X M' q j = 0) → ww_A g Y d (kc - 1) (ks - n) M' (pc + 5) lv [] Q X) : ww_A g Y d kc ks M pc lv [.int i, .ref a] Q X := by
  refine ww_newA (κ := 9) d0 rfl wm_99 ⟨rfl, rfl⟩ hi hn hkc hks (fun q hq => ?_)
  have t1 : ww_ft M (ww_nw M q 9 n) (fun _ => False) (fun _ => False) := ww_ft_nw ww_ft_rf hq
  have ha1 : ww_is (ww_nw M q 9 n).1 a κ := ww_ft_in t1 ha
  refine ww_putQ hfl hfs d2 hf hir ha1.1 ha1.2 (r := some q) rfl (hna q) (hfi q) ?_
  exact kk q _ (ww_on_sR ha t1 hq ww_nw_q.1) ⟨ww_nw_q.1, ww_nw_q.2.1⟩ ww_nw_q.2.2 (fun j => show ww_X (ww_nw M q 9 n) q j = 0 from if_pos rfl)
/-- the log is made -/
def ww_liQ (g : ww_G) (M : ww_M) (a : Nat) : Option Value → ww_M → Prop := fun v M' => v = none ∧ ww_ft M M' (fun y => y = a) (fun _ => False) ∧ ∃ ll lh, (ww_R M' 120 a = some ll ∧ ww_R M' 121 a = some lh) ∧ (ll ∉ ww_L M ∧ lh ∉ ww_L M) ∧ (ww_is M'.1 lh 9 ∧ ww_N M' lh = 60) ∧ ∀ κ f, ww_ls g M' κ ll (ww_ge g) 0 f
set_option maxRecDepth 20000 in
set_option maxHeartbeats 8000000 in
theorem c_logInit (ha : ww_is M.1 a 3) : ww_C g wy_X2_init 4 2 63 [.ref a] M (ww_liQ g M a) ww_no := by
  refine ww_ent (by decide +kernel) (Nat.le_of_ble_eq_true rfl) ⟨rfl, trivial⟩ ?_
  refine ww_aload_n (i := 0) dX2_init_0 rfl rfl ?_
  refine ww_objInit dX2_init_1 wm_89 wm_54 wm_55 (by omega) (by first | exact Nat.le_of_ble_eq_true rfl | (simp [ww_rf_cat, Value.category])) ?_
  refine ww_aload_n (i := 0) dX2_init_4 rfl rfl ?_
  -- at 5, locals [0]
  refine n_list wn_X2_9 wk_X2_11 wf_X2_12 wt_3_0 rfl rfl ha dX2_init_5 dX2_init_8 dX2_init_9 dX2_init_12 (fun _ => rfl) (fun _ => rfl) (by omega) (by omega) (by omega) (fun q M1 o1 hl1 => ?_)
  refine ww_less (kc2 := 1) (ks2 := 60) (Nat.le_of_ble_eq_true rfl) (Nat.le_of_ble_eq_true rfl) ?_
  obtain ⟨t1, r1, s1, i1, q1, q2⟩ := o1
  have ha1 := ww_ft_in t1 ha
  refine ww_aload_n (i := 0) dX2_init_15 rfl rfl ?_
  refine ww_bipush (v := 60) dX2_init_16 (by decide) ?_
  -- at 18, locals [0]
  refine n_ints wf_X2_18 wt_3_1 rfl rfl ha1 dX2_init_18 dX2_init_20 (fun _ => rfl) (fun _ => rfl) (n := 60) rfl (by decide) (by omega) (by omega) (fun r M2 o2 r9 rN rX => ?_)
  obtain ⟨t2, r2, s2, i2, p1, p2⟩ := o2
  have hqa : ¬ q = a := fun e => q1 (e ▸ ha.1)
  exact ww_vreturn dX2_init_23 rfl ⟨rfl, ww_ft_wk (ww_ft_tr t1 t2) (fun y _ e => e.elim id id) (fun y _ e => e.elim id id), q, r, ⟨(s2 120 (by decide) rfl).trans r1, r2⟩, ⟨q1, fun e => p1 (t1.1 r e).1⟩, ⟨r9, rN⟩, fun κ f => ww_ls_ft (hl1 κ f) t2 hqa (fun _ y => y)⟩
/-- the yard is made -/
def ww_yiQ (g : ww_G) (M : ww_M) (a : Nat) : Option Value → ww_M → Prop := fun v M' => v = none ∧ ww_ft M M' (fun y => y = a) (fun _ => False) ∧ ∃ wl sl yb, (ww_R M' 240 a = some wl ∧ ww_R M' 241 a = some sl ∧ ww_R M' 242 a = some yb ∧ ww_I M' 244 a = ww_I M 244 a) ∧ (wl ∉ ww_L M ∧ sl ∉ ww_L M ∧ yb ∉ ww_L M ∧ ¬ wl = sl) ∧ (ww_is M'.1 yb 9 ∧ ww_N M' yb = 8) ∧ (∀ κ f, ww_ls g M' κ wl (ww_ge g) 0 f) ∧ ∀ κ f, ww_ls g M' κ sl (ww_ge g) 0 f
set_option maxRecDepth 20000 in
set_option maxHeartbeats 8000000 in
theorem c_yardInit (ha : ww_is M.1 a 6) : ww_C g wy_X5_init 4 3 14 [.ref a] M (ww_yiQ g M a) ww_no := by
  refine ww_ent (by decide +kernel) (Nat.le_of_ble_eq_true rfl) ⟨rfl, trivial⟩ ?_
  refine ww_aload_n (i := 0) dX5_init_0 rfl rfl ?_
  refine ww_objInit dX5_init_1 wm_105 wm_54 wm_55 (by omega) (by first | exact Nat.le_of_ble_eq_true rfl | (simp [ww_rf_cat, Value.category])) ?_
  refine ww_aload_n (i := 0) dX5_init_4 rfl rfl ?_
  -- at 5, locals [0]
  refine n_list wn_X5_9 wk_X5_11 wf_X5_12 wt_6_0 rfl rfl ha dX5_init_5 dX5_init_8 dX5_init_9 dX5_init_12 (fun _ => rfl) (fun _ => rfl) (by omega) (by omega) (by omega) (fun q M1 o1 hl1 => ?_)
  refine ww_less (kc2 := 2) (ks2 := 11) (Nat.le_of_ble_eq_true rfl) (Nat.le_of_ble_eq_true rfl) ?_
  obtain ⟨t1, r1, s1, i1, q1, q2⟩ := o1
  have ha1 := ww_ft_in t1 ha
  refine ww_aload_n (i := 0) dX5_init_15 rfl rfl ?_
  -- at 16, locals [0]
  refine n_list wn_X5_9 wk_X5_11 wf_X5_18 wt_6_1 rfl rfl ha1 dX5_init_16 dX5_init_19 dX5_init_20 dX5_init_23 (fun _ => rfl) (fun _ => rfl) (by omega) (by omega) (by omega) (fun s M2 o2 hl2 => ?_)
  refine ww_less (kc2 := 1) (ks2 := 8) (Nat.le_of_ble_eq_true rfl) (Nat.le_of_ble_eq_true rfl) ?_
  obtain ⟨t2, r2, s2, i2, p1, p2⟩ := o2
  have ha2 := ww_ft_in t2 ha1
  refine ww_aload_n (i := 0) dX5_init_26 rfl rfl ?_
  refine ww_bipush (v := 8) dX5_init_27 (by decide) ?_
  -- at 29, locals [0]
  refine n_ints wf_X5_21 wt_6_2 rfl rfl ha2 dX5_init_29 dX5_init_31 (fun _ => rfl) (fun _ => rfl) (n := 8) rfl (by decide) (by omega) (by omega) (fun r M3 o3 r9 rN rX => ?_)
  obtain ⟨t3, r3, s3, i3, u1, u2⟩ := o3
  have hqa : ¬ q = a := fun e => q1 (e ▸ ha.1)
  have hsa : ¬ s = a := fun e => p1 (e ▸ ha1.1)
  have hqs : ¬ q = s := fun e => p1 (e ▸ q2)
  have t12 : ww_ft M M2 (fun y => y = a) (fun _ => False) := ww_ft_wk (ww_ft_tr t1 t2) (fun y _ e => e.elim id id) (fun y _ e => e.elim id id)
  have t13 : ww_ft M M3 (fun y => y = a) (fun _ => False) := ww_ft_wk (ww_ft_tr t12 t3) (fun y _ e => e.elim id id) (fun y _ e => e.elim id id)
  have t23 : ww_ft M1 M3 (fun y => y = a) (fun _ => False) := ww_ft_wk (ww_ft_tr t2 t3) (fun y _ e => e.elim id id) (fun y _ e => e.elim id id)
  exact ww_vreturn dX5_init_34 rfl ⟨rfl, t13, q, s, r, ⟨(s3 240 (by decide) rfl).trans ((s2 240 (by decide) rfl).trans r1), (s3 241 (by decide) rfl).trans r2, r3, (i3 244 rfl).trans ((i2 244 rfl).trans (i1 244 rfl))⟩, ⟨q1, fun e => p1 (t1.1 s e).1, fun e => u1 (t12.1 r e).1, hqs⟩, ⟨r9, rN⟩, fun κ f => ww_ls_ft (hl1 κ f) t23 hqa (fun _ y => y), fun κ f => ww_ls_ft (hl2 κ f) t3 hsa (fun _ y => y)⟩
end WWB6
