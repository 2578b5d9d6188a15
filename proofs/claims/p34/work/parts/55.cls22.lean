section WWQ1
variable {g : ww_G} {M0 M M1 : ww_M} {a x pl pe n yk : Nat} {P W kl : Nat → Nat} {S : Nat → Nat → Int32} {v : Int32}
/-- the works' limits lie in yk -/
def ww_kl (M : ww_M) (x yk : Nat) (kl : Nat → Nat) : Prop := ww_R M 281 x = some yk ∧ ww_is M.1 yk 11 ∧ ww_N M yk = 5 ∧ ∀ k, k < 5 → ww_Y M yk k = some (kl k)
set_option maxRecDepth 20000 in
theorem c_limitsOf (hw : ww_wo g M0 M x pl pe n P) (hk : ww_kl M x yk kl) {k : Nat} (h5 : k < 5) : ww_C g wy_X6_limitsOf 1 0 0 [.ref x, .int (nI k)] M (ww_ret (some (.ref (kl k))) M) ww_no := by
  refine ww_ent (by decide +kernel) (Nat.le_of_ble_eq_true rfl) ⟨rfl, rfl, trivial⟩ ?_
  have e11 : ww_K M yk = 11 := hk.2.1.2
  refine ww_iload_n (i := 1) dX6_limitsOf_0 rfl rfl ?_
  refine ww_if_lt_f (tgt := 13) dX6_limitsOf_1 (by decide) (nI_pos (by omega)) ?_
  refine ww_iload_n (i := 1) dX6_limitsOf_4 rfl rfl ?_
  refine ww_aload_n (i := 0) dX6_limitsOf_5 rfl rfl ?_
  refine ww_getR (f := 281) wf_X6_18 dX6_limitsOf_6 rfl rfl (show ww_is _ _ 7 from hw.1).1 (show ww_is _ _ 7 from hw.1).2 hk.1 ?_
  -- at 9, locals [0, 1]
  refine ww_alen dX6_limitsOf_9 hk.2.1.1 (by rw [e11]; decide) (by rw [e11]; decide) ?_
  rw [hk.2.2.1]
  refine ww_icmp_lt_t (tgt := 24) dX6_limitsOf_10 (by decide) (nI_lt h5 (by decide)) ?_
  refine ww_aload_n (i := 0) dX6_limitsOf_24 rfl rfl ?_
  refine ww_getR (f := 281) wf_X6_18 dX6_limitsOf_25 rfl rfl (show ww_is _ _ 7 from hw.1).1 (show ww_is _ _ 7 from hw.1).2 hk.1 ?_
  refine ww_iload_n (i := 1) dX6_limitsOf_28 rfl rfl ?_
  -- at 29, locals [0, 1]
  refine ww_aald dX6_limitsOf_29 hk.2.1.1 (Or.inl e11) rfl (by rw [hk.2.2.1]; exact h5) (by rw [hk.2.2.1]; decide) ?_
  rw [hk.2.2.2 k h5]
  exact ww_areturn dX6_limitsOf_30 rfl (by first | exact Or.inl ⟨_, rfl⟩ | exact Or.inr ⟨_, rfl⟩) (r := some _) rfl ⟨rfl, rfl⟩
set_option maxRecDepth 20000 in
theorem c_limitsOf_x (hw : ww_wo g M0 M x pl pe n P) (hk : ww_kl M x yk kl) {k : Int32} (hc : ¬ q_rg 0 4 k) : ww_C g wy_X6_limitsOf 7 1 6 [.ref x, .int k] M ww_nr (ww_th "java/lang/IllegalArgumentException" M) := by
  refine ww_ent (by decide +kernel) (Nat.le_of_ble_eq_true rfl) ⟨rfl, rfl, trivial⟩ ?_
  have e11 : ww_K M yk = 11 := hk.2.1.2
  by_cases h1 : k < 0
  · refine ww_iload_n (i := 1) dX6_limitsOf_0 rfl rfl ?_
    refine ww_if_lt_t (tgt := 13) dX6_limitsOf_1 (by decide) h1 ?_
    exact ww_throwW wx_X6_45_339 dX6_limitsOf_13 dX6_limitsOf_16 dX6_limitsOf_17 dX6_limitsOf_20 dX6_limitsOf_23 rfl (Nat.le_of_ble_eq_true rfl) (by omega) (by omega) (by first | exact Nat.le_of_ble_eq_true rfl | (simp [ww_rf_cat, Value.category])) ⟨rfl, rfl⟩
  · have h2 : ¬ k < nI 5 := fun z => hc (by
      rw [ww_lt, nI_toInt (by decide)] at z
      rw [ww_lt, show (0 : Int32).toInt = 0 from rfl] at h1
      exact ⟨by rw [ww_le', show (0 : Int32).toInt = 0 from rfl]; omega, by rw [ww_le', show (4 : Int32).toInt = 4 from rfl]; omega⟩)
    refine ww_iload_n (i := 1) dX6_limitsOf_0 rfl rfl ?_
    refine ww_if_lt_f (tgt := 13) dX6_limitsOf_1 (by decide) h1 ?_
    refine ww_iload_n (i := 1) dX6_limitsOf_4 rfl rfl ?_
    refine ww_aload_n (i := 0) dX6_limitsOf_5 rfl rfl ?_
    refine ww_getR (f := 281) wf_X6_18 dX6_limitsOf_6 rfl rfl (show ww_is _ _ 7 from hw.1).1 (show ww_is _ _ 7 from hw.1).2 hk.1 ?_
    -- at 9, locals [0, 1]
    refine ww_alen dX6_limitsOf_9 hk.2.1.1 (by rw [e11]; decide) (by rw [e11]; decide) ?_
    rw [hk.2.2.1]
    refine ww_icmp_lt_f (tgt := 24) dX6_limitsOf_10 (by decide) h2 ?_
    exact ww_throwW wx_X6_45_339 dX6_limitsOf_13 dX6_limitsOf_16 dX6_limitsOf_17 dX6_limitsOf_20 dX6_limitsOf_23 rfl (Nat.le_of_ble_eq_true rfl) (by omega) (by omega) (by first | exact Nat.le_of_ble_eq_true rfl | (simp [ww_rf_cat, Value.category])) ⟨rfl, rfl⟩
/-! a wheel's figures -/
set_option maxRecDepth 20000 in
theorem c_wheel_0 (hw : ww_wo g M0 M x pl pe n P) (h : ww_pf M P W kl n S) {p : Nat} (hp : p < n) (hk : S 2 p = 3) (hv : q_rg 0 2 v) : ww_C g wy_X6_wheel 6 0 0 [.ref x, .int (nI p), .int v] M (ww_ret (some (.int (q_wheel S p v))) M) ww_no := by
  refine ww_ent (by decide +kernel) (Nat.le_of_ble_eq_true rfl) ⟨rfl, rfl, rfl, trivial⟩ ?_
  obtain ⟨_, hw5, k13, k14, k16, _⟩ := (h.1 p hp).2.1 hk
  obtain ⟨h1, h2⟩ := hv
  have hs : v = 0 ∨ v = 1 ∨ v = 2 := by
    rw [ww_le', show (0 : Int32).toInt = 0 from rfl] at h1
    rw [ww_le', show (2 : Int32).toInt = 2 from rfl] at h2
    rw [ww_eq, ww_eq, ww_eq, show (0 : Int32).toInt = 0 from rfl, show (1 : Int32).toInt = 1 from rfl, show (2 : Int32).toInt = 2 from rfl]
    omega
  refine ww_aload_n (i := 0) dX6_wheel_0 rfl rfl ?_
  refine ww_iload_n (i := 1) dX6_wheel_1 rfl rfl ?_
  refine ww_callV (κ := 7) (r := (RX6, TX6, 4)) wk_X6_207 dX6_wheel_2 (c_existingWheel hw h hp hk) rfl rfl (show ww_is _ _ 7 from hw.1).1 (show ww_is _ _ 7 from hw.1).2 rfl rfl (by omega) (by omega) (by omega) (by first | exact Nat.le_of_ble_eq_true rfl | (simp [ww_rf_cat, Value.category])) rfl (fun E M9 h9 => h9.elim) (fun v9 M9 h9 => ?_)
  obtain ⟨rfl, rfl⟩ := h9
  first | refine ww_astore_n (i := 3) (lv2 := [(0, _), (1, _), (2, _), (3, _)]) dX6_wheel_5 rfl (Nat.le_of_ble_eq_true rfl) rfl ?_ | refine ww_astore_nQ (i := 3) (lv2 := [(0, _), (1, _), (2, _), (3, _)]) dX6_wheel_5 rfl (Nat.le_of_ble_eq_true rfl) rfl ?_
  refine ww_iload_n (i := 2) dX6_wheel_6 rfl rfl ?_
  -- at 7, locals [0, 1, 2, 3]
  rcases hs with rfl | rfl | rfl
  · rw [show q_wheel S p 0 = S 13 p from rfl, ← k13]
    refine ww_tableIn (off := 25) (tgt := 32) dX6_wheel_7 (by decide) (by decide) rfl (by decide) ?_
    refine ww_aload_n (i := 3) dX6_wheel_32 rfl rfl ?_
    refine ww_getI (f := 200) wf_X6_196 dX6_wheel_33 rfl rfl (show ww_is _ _ 5 from hw5).1 (show ww_is _ _ 5 from hw5).2 ?_
    exact ww_ireturn dX6_wheel_36 rfl (by first | rfl | exact ww_b_nar) ⟨rfl, rfl⟩
  · rw [show q_wheel S p 1 = S 14 p from rfl, ← k14]
    refine ww_tableIn (off := 30) (tgt := 37) dX6_wheel_7 (by decide) (by decide) rfl (by decide) ?_
    refine ww_aload_n (i := 3) dX6_wheel_37 rfl rfl ?_
    refine ww_getI (f := 201) wf_X6_213 dX6_wheel_38 rfl rfl (show ww_is _ _ 5 from hw5).1 (show ww_is _ _ 5 from hw5).2 ?_
    exact ww_ireturn dX6_wheel_41 rfl (by first | rfl | exact ww_b_nar) ⟨rfl, rfl⟩
  · rw [show q_wheel S p 2 = (if S 17 p = 0 then -1 else S 16 p) from rfl, ← k16]
    refine ww_tableIn (off := 35) (tgt := 42) dX6_wheel_7 (by decide) (by decide) rfl (by decide) ?_
    refine ww_aload_n (i := 3) dX6_wheel_42 rfl rfl ?_
    refine ww_getI (f := 202) wf_X6_216 dX6_wheel_43 rfl rfl (show ww_is _ _ 5 from hw5).1 (show ww_is _ _ 5 from hw5).2 ?_
    exact ww_ireturn dX6_wheel_46 rfl (by first | rfl | exact ww_b_nar) ⟨rfl, rfl⟩
end WWQ1
