/-! ===== the model's constructor ===== -/
/-- the model's arrays below b are there, empty -/
def ww_mK (x : Nat) (M0 M : ww_M) (b : Nat) : Prop := ww_ft M0 M (fun y => y = x) (fun _ => False) ∧ ww_is M.1 x 8 ∧ (∀ k, k < 40 → ww_mr k = false → ww_I M (320 + k) x = 0) ∧ ∃ ar : Nat → Nat, (∀ k, ww_mr k = true → k < b → ww_R M (320 + k) x = some (ar k) ∧ ww_is M.1 (ar k) (ww_mk k) ∧ ww_N M (ar k) = ww_ml k ∧ (∀ j, ww_X M (ar k) j = 0) ∧ ar k ∉ ww_L M0) ∧ ∀ k j, ww_mr k = true → ww_mr j = true → k < b → j < b → ar k = ar j → k = j
section WWB7
variable {g : ww_G} {M0 M M1 : ww_M} {a q x b : Nat} {Pp A : Nat → Prop}
theorem ww_mK_gap (h : ww_mK x M0 M b) (hb : ww_mr b = false) : ww_mK x M0 M (b + 1) := by
  obtain ⟨h1, h2, h3, ar, h4, h5⟩ := h
  have e : ∀ k, ww_mr k = true → k < b + 1 → k < b := fun k hk hl => by
    have : k ≠ b := fun e => by rw [e, hb] at hk; cases hk
    omega
  exact ⟨h1, h2, h3, ar, fun k hk hl => h4 k hk (e k hk hl), fun k j hk hj hl hl' => h5 k j hk hj (e k hk hl) (e j hj hl')⟩
theorem ww_mK_s (h : ww_mK x M0 M b) (o : ww_on M M1 x 8 (320 + b) q) (hb : b < 40) (h9 : ww_is M1.1 q (ww_mk b)) (hN : ww_N M1 q = ww_ml b) (hX : ∀ j, ww_X M1 q j = 0) : ww_mK x M0 M1 (b + 1) := by
  obtain ⟨h1, h2, h3, ar, h4, h5⟩ := h
  obtain ⟨t, r, s, i, q1, q2⟩ := o
  have hin : ∀ k, ww_mr k = true → k < b → ar k ∈ ww_L M := fun k hk hl => (h4 k hk hl).2.1.1
  have hm40 : ∀ k, ww_mr k = true → k < 40 := fun k hk => by
    by_cases c : k < 40
    · exact c
    · exfalso
      unfold ww_mr at hk
      have c1 : (decide (k ≤ 22)) = false := decide_eq_false (by omega)
      have c2 : (k == 24) = false := beq_eq_false_iff_ne.mpr (by omega)
      have c3 : (k == 25) = false := beq_eq_false_iff_ne.mpr (by omega)
      have c4 : (decide (k ≤ 32)) = false := decide_eq_false (by omega)
      rw [c1, c2, c3, c4] at hk
      simp at hk
  refine ⟨ww_ft_wk (ww_ft_tr h1 t) (fun y _ e => e.elim id id) (fun y _ e => e.elim id id), ww_ft_in t h2, fun k hk4 hk => (i (320 + k) (by omega)).trans (h3 k hk4 hk), q_ea ar b q, fun k hk hl => ?_, fun k j hk hj hl hl' e => ?_⟩
  · unfold q_ea
    by_cases c : k = b
    · rw [if_pos c, c]
      exact ⟨r, h9, hN, hX, fun e => q1 (h1.1 q e).1⟩
    · rw [if_neg c]
      obtain ⟨a1, a2, a3, a4, a5⟩ := h4 k hk (by omega)
      have hk40 := hm40 k hk
      exact ⟨(s (320 + k) (by omega) (by omega)).trans a1, ww_ft_in t a2, (t.1 _ a2.1).2.2.trans a3, fun j => by rw [(t.2.2 _ a2.1 (fun y => y)).1]; exact a4 j, a5⟩
  · unfold q_ea at e
    by_cases c : k = b
    · by_cases c' : j = b
      · omega
      · rw [if_pos c, if_neg c'] at e
        exact absurd (e ▸ hin j hj (by omega)) q1
    · by_cases c' : j = b
      · rw [if_neg c, if_pos c'] at e
        exact absurd (e ▸ hin k hk (by omega)) q1
      · rw [if_neg c, if_neg c'] at e
        exact h5 k j hk hj (by omega) (by omega) e
set_option maxRecDepth 20000 in
set_option maxHeartbeats 16000000 in
theorem m_init (ha : ww_is M.1 x 8) (hz : ww_z0 M x) : ww_C g wy_X7_init 2 29 9194 [.ref x] M (fun v M' => v = none ∧ ww_mK x M M' 33) ww_no := by
  refine ww_ent (by decide +kernel) (Nat.le_of_ble_eq_true rfl) ⟨rfl, trivial⟩ ?_
  have h2 : ww_mK x M M 2 := ⟨ww_ft_rf, ha, fun k _ _ => (hz _).1, fun _ => 0, fun k hk hl => absurd hk (by
    have : k = 0 ∨ k = 1 := by omega
    rcases this with rfl | rfl <;> decide), fun k j hk hj hl hl' e => absurd hk (by
    have : k = 0 ∨ k = 1 := by omega
    rcases this with rfl | rfl <;> decide)⟩
  refine ww_aload_n (i := 0) dX7_init_0 rfl rfl ?_
  refine ww_objInit dX7_init_1 wm_964 wm_77 wm_78 (by omega) (by first | exact Nat.le_of_ble_eq_true rfl | (simp [ww_rf_cat, Value.category])) ?_
  refine ww_aload_n (i := 0) dX7_init_4 rfl rfl ?_
  refine ww_bipush (v := 60) dX7_init_5 (by decide) ?_
  -- at 7, locals [0]
  refine n_ints wf_X7_7 wt_8_2 rfl rfl ha dX7_init_7 dX7_init_9 (fun _ => rfl) (fun _ => rfl) (n := 60) rfl (by decide) (by omega) (by omega) (fun q2 N2 o2 i2 n2 z2 => ?_)
  refine ww_less (kc2 := 28) (ks2 := 9134) (Nat.le_of_ble_eq_true rfl) (Nat.le_of_ble_eq_true rfl) ?_
  have h3 : ww_mK x M N2 3 := ww_mK_s h2 o2 (by decide) i2 n2 z2
  have a2 := h3.2.1
  refine ww_aload_n (i := 0) dX7_init_12 rfl rfl ?_
  refine ww_bipush (v := 60) dX7_init_13 (by decide) ?_
  -- at 15, locals [0]
  refine n_ints wf_X7_13 wt_8_3 rfl rfl a2 dX7_init_15 dX7_init_17 (fun _ => rfl) (fun _ => rfl) (n := 60) rfl (by decide) (by omega) (by omega) (fun q3 N3 o3 i3 n3 z3 => ?_)
  refine ww_less (kc2 := 27) (ks2 := 9074) (Nat.le_of_ble_eq_true rfl) (Nat.le_of_ble_eq_true rfl) ?_
  have h4 : ww_mK x M N3 4 := ww_mK_s h3 o3 (by decide) i3 n3 z3
  have a3 := h4.2.1
  refine ww_aload_n (i := 0) dX7_init_20 rfl rfl ?_
  refine ww_bipush (v := 60) dX7_init_21 (by decide) ?_
  -- at 23, locals [0]
  refine n_ints wf_X7_16 wt_8_4 rfl rfl a3 dX7_init_23 dX7_init_25 (fun _ => rfl) (fun _ => rfl) (n := 60) rfl (by decide) (by omega) (by omega) (fun q4 N4 o4 i4 n4 z4 => ?_)
  refine ww_less (kc2 := 26) (ks2 := 9014) (Nat.le_of_ble_eq_true rfl) (Nat.le_of_ble_eq_true rfl) ?_
  have h5 : ww_mK x M N4 5 := ww_mK_s h4 o4 (by decide) i4 n4 z4
  have a4 := h5.2.1
  refine ww_aload_n (i := 0) dX7_init_28 rfl rfl ?_
  refine ww_bipush (v := 60) dX7_init_29 (by decide) ?_
  -- at 31, locals [0]
  refine n_ints wf_X7_19 wt_8_5 rfl rfl a4 dX7_init_31 dX7_init_33 (fun _ => rfl) (fun _ => rfl) (n := 60) rfl (by decide) (by omega) (by omega) (fun q5 N5 o5 i5 n5 z5 => ?_)
  refine ww_less (kc2 := 25) (ks2 := 8954) (Nat.le_of_ble_eq_true rfl) (Nat.le_of_ble_eq_true rfl) ?_
  have h6 : ww_mK x M N5 6 := ww_mK_s h5 o5 (by decide) i5 n5 z5
  have a5 := h6.2.1
  refine ww_aload_n (i := 0) dX7_init_36 rfl rfl ?_
  refine ww_bipush (v := 60) dX7_init_37 (by decide) ?_
  -- at 39, locals [0]
  refine n_ints wf_X7_22 wt_8_6 rfl rfl a5 dX7_init_39 dX7_init_41 (fun _ => rfl) (fun _ => rfl) (n := 60) rfl (by decide) (by omega) (by omega) (fun q6 N6 o6 i6 n6 z6 => ?_)
  refine ww_less (kc2 := 24) (ks2 := 8894) (Nat.le_of_ble_eq_true rfl) (Nat.le_of_ble_eq_true rfl) ?_
  have h7 : ww_mK x M N6 7 := ww_mK_s h6 o6 (by decide) i6 n6 z6
  have a6 := h7.2.1
  refine ww_aload_n (i := 0) dX7_init_44 rfl rfl ?_
  refine ww_bipush (v := 60) dX7_init_45 (by decide) ?_
  -- at 47, locals [0]
  refine n_ints wf_X7_25 wt_8_7 rfl rfl a6 dX7_init_47 dX7_init_49 (fun _ => rfl) (fun _ => rfl) (n := 60) rfl (by decide) (by omega) (by omega) (fun q7 N7 o7 i7 n7 z7 => ?_)
  refine ww_less (kc2 := 23) (ks2 := 8834) (Nat.le_of_ble_eq_true rfl) (Nat.le_of_ble_eq_true rfl) ?_
  have h8 : ww_mK x M N7 8 := ww_mK_s h7 o7 (by decide) i7 n7 z7
  have a7 := h8.2.1
  refine ww_aload_n (i := 0) dX7_init_52 rfl rfl ?_
  refine ww_bipush (v := 60) dX7_init_53 (by decide) ?_
  -- at 55, locals [0]
  refine n_ints wf_X7_28 wt_8_8 rfl rfl a7 dX7_init_55 dX7_init_57 (fun _ => rfl) (fun _ => rfl) (n := 60) rfl (by decide) (by omega) (by omega) (fun q8 N8 o8 i8 n8 z8 => ?_)
  refine ww_less (kc2 := 22) (ks2 := 8774) (Nat.le_of_ble_eq_true rfl) (Nat.le_of_ble_eq_true rfl) ?_
  have h9 : ww_mK x M N8 9 := ww_mK_s h8 o8 (by decide) i8 n8 z8
  have a8 := h9.2.1
  refine ww_aload_n (i := 0) dX7_init_60 rfl rfl ?_
  refine ww_bipush (v := 60) dX7_init_61 (by decide) ?_
  -- at 63, locals [0]
  refine n_bools wf_X7_31 wt_8_9 rfl rfl a8 dX7_init_63 dX7_init_65 (fun _ => rfl) (fun _ => rfl) (n := 60) rfl (by decide) (by omega) (by omega) (fun q9 N9 o9 i9 n9 z9 => ?_)
  refine ww_less (kc2 := 21) (ks2 := 8714) (Nat.le_of_ble_eq_true rfl) (Nat.le_of_ble_eq_true rfl) ?_
  have h10 : ww_mK x M N9 10 := ww_mK_s h9 o9 (by decide) i9 n9 z9
  have a9 := h10.2.1
  refine ww_aload_n (i := 0) dX7_init_68 rfl rfl ?_
  refine ww_bipush (v := 60) dX7_init_69 (by decide) ?_
  -- at 71, locals [0]
  refine n_bools wf_X7_35 wt_8_10 rfl rfl a9 dX7_init_71 dX7_init_73 (fun _ => rfl) (fun _ => rfl) (n := 60) rfl (by decide) (by omega) (by omega) (fun q10 N10 o10 i10 n10 z10 => ?_)
  refine ww_less (kc2 := 20) (ks2 := 8654) (Nat.le_of_ble_eq_true rfl) (Nat.le_of_ble_eq_true rfl) ?_
  have h11 : ww_mK x M N10 11 := ww_mK_s h10 o10 (by decide) i10 n10 z10
  have a10 := h11.2.1
  refine ww_aload_n (i := 0) dX7_init_76 rfl rfl ?_
  refine ww_bipush (v := 60) dX7_init_77 (by decide) ?_
  -- at 79, locals [0]
  refine n_bools wf_X7_38 wt_8_11 rfl rfl a10 dX7_init_79 dX7_init_81 (fun _ => rfl) (fun _ => rfl) (n := 60) rfl (by decide) (by omega) (by omega) (fun q11 N11 o11 i11 n11 z11 => ?_)
  refine ww_less (kc2 := 19) (ks2 := 8594) (Nat.le_of_ble_eq_true rfl) (Nat.le_of_ble_eq_true rfl) ?_
  have h12 : ww_mK x M N11 12 := ww_mK_s h11 o11 (by decide) i11 n11 z11
  have a11 := h12.2.1
  refine ww_aload_n (i := 0) dX7_init_84 rfl rfl ?_
  refine ww_bipush (v := 60) dX7_init_85 (by decide) ?_
  -- at 87, locals [0]
  refine n_bools wf_X7_41 wt_8_12 rfl rfl a11 dX7_init_87 dX7_init_89 (fun _ => rfl) (fun _ => rfl) (n := 60) rfl (by decide) (by omega) (by omega) (fun q12 N12 o12 i12 n12 z12 => ?_)
  refine ww_less (kc2 := 18) (ks2 := 8534) (Nat.le_of_ble_eq_true rfl) (Nat.le_of_ble_eq_true rfl) ?_
  have h13 : ww_mK x M N12 13 := ww_mK_s h12 o12 (by decide) i12 n12 z12
  have a12 := h13.2.1
  refine ww_aload_n (i := 0) dX7_init_92 rfl rfl ?_
  refine ww_bipush (v := 60) dX7_init_93 (by decide) ?_
  -- at 95, locals [0]
  refine n_ints wf_X7_44 wt_8_13 rfl rfl a12 dX7_init_95 dX7_init_97 (fun _ => rfl) (fun _ => rfl) (n := 60) rfl (by decide) (by omega) (by omega) (fun q13 N13 o13 i13 n13 z13 => ?_)
  refine ww_less (kc2 := 17) (ks2 := 8474) (Nat.le_of_ble_eq_true rfl) (Nat.le_of_ble_eq_true rfl) ?_
  have h14 : ww_mK x M N13 14 := ww_mK_s h13 o13 (by decide) i13 n13 z13
  have a13 := h14.2.1
  refine ww_aload_n (i := 0) dX7_init_100 rfl rfl ?_
  refine ww_bipush (v := 60) dX7_init_101 (by decide) ?_
  -- at 103, locals [0]
  refine n_ints wf_X7_47 wt_8_14 rfl rfl a13 dX7_init_103 dX7_init_105 (fun _ => rfl) (fun _ => rfl) (n := 60) rfl (by decide) (by omega) (by omega) (fun q14 N14 o14 i14 n14 z14 => ?_)
  refine ww_less (kc2 := 16) (ks2 := 8414) (Nat.le_of_ble_eq_true rfl) (Nat.le_of_ble_eq_true rfl) ?_
  have h15 : ww_mK x M N14 15 := ww_mK_s h14 o14 (by decide) i14 n14 z14
  have a14 := h15.2.1
  refine ww_aload_n (i := 0) dX7_init_108 rfl rfl ?_
  refine ww_bipush (v := 60) dX7_init_109 (by decide) ?_
  -- at 111, locals [0]
  refine n_ints wf_X7_50 wt_8_15 rfl rfl a14 dX7_init_111 dX7_init_113 (fun _ => rfl) (fun _ => rfl) (n := 60) rfl (by decide) (by omega) (by omega) (fun q15 N15 o15 i15 n15 z15 => ?_)
  refine ww_less (kc2 := 15) (ks2 := 8354) (Nat.le_of_ble_eq_true rfl) (Nat.le_of_ble_eq_true rfl) ?_
  have h16 : ww_mK x M N15 16 := ww_mK_s h15 o15 (by decide) i15 n15 z15
  have a15 := h16.2.1
  refine ww_aload_n (i := 0) dX7_init_116 rfl rfl ?_
  refine ww_bipush (v := 60) dX7_init_117 (by decide) ?_
  -- at 119, locals [0]
  refine n_ints wf_X7_53 wt_8_16 rfl rfl a15 dX7_init_119 dX7_init_121 (fun _ => rfl) (fun _ => rfl) (n := 60) rfl (by decide) (by omega) (by omega) (fun q16 N16 o16 i16 n16 z16 => ?_)
  refine ww_less (kc2 := 14) (ks2 := 8294) (Nat.le_of_ble_eq_true rfl) (Nat.le_of_ble_eq_true rfl) ?_
  have h17 : ww_mK x M N16 17 := ww_mK_s h16 o16 (by decide) i16 n16 z16
  have a16 := h17.2.1
  refine ww_aload_n (i := 0) dX7_init_124 rfl rfl ?_
  refine ww_bipush (v := 60) dX7_init_125 (by decide) ?_
  -- at 127, locals [0]
  refine n_bools wf_X7_56 wt_8_17 rfl rfl a16 dX7_init_127 dX7_init_129 (fun _ => rfl) (fun _ => rfl) (n := 60) rfl (by decide) (by omega) (by omega) (fun q17 N17 o17 i17 n17 z17 => ?_)
  refine ww_less (kc2 := 13) (ks2 := 8234) (Nat.le_of_ble_eq_true rfl) (Nat.le_of_ble_eq_true rfl) ?_
  have h18 : ww_mK x M N17 18 := ww_mK_s h17 o17 (by decide) i17 n17 z17
  have a17 := h18.2.1
  refine ww_aload_n (i := 0) dX7_init_132 rfl rfl ?_
  refine ww_bipush (v := 60) dX7_init_133 (by decide) ?_
  -- at 135, locals [0]
  refine n_ints wf_X7_59 wt_8_18 rfl rfl a17 dX7_init_135 dX7_init_137 (fun _ => rfl) (fun _ => rfl) (n := 60) rfl (by decide) (by omega) (by omega) (fun q18 N18 o18 i18 n18 z18 => ?_)
  refine ww_less (kc2 := 12) (ks2 := 8174) (Nat.le_of_ble_eq_true rfl) (Nat.le_of_ble_eq_true rfl) ?_
  have h19 : ww_mK x M N18 19 := ww_mK_s h18 o18 (by decide) i18 n18 z18
  have a18 := h19.2.1
  refine ww_aload_n (i := 0) dX7_init_140 rfl rfl ?_
  refine ww_bipush (v := 60) dX7_init_141 (by decide) ?_
  -- at 143, locals [0]
  refine n_ints wf_X7_62 wt_8_19 rfl rfl a18 dX7_init_143 dX7_init_145 (fun _ => rfl) (fun _ => rfl) (n := 60) rfl (by decide) (by omega) (by omega) (fun q19 N19 o19 i19 n19 z19 => ?_)
  refine ww_less (kc2 := 11) (ks2 := 8114) (Nat.le_of_ble_eq_true rfl) (Nat.le_of_ble_eq_true rfl) ?_
  have h20 : ww_mK x M N19 20 := ww_mK_s h19 o19 (by decide) i19 n19 z19
  have a19 := h20.2.1
  refine ww_aload_n (i := 0) dX7_init_148 rfl rfl ?_
  refine ww_iconst (v := 5) dX7_init_149 (by decide) ?_
  -- at 150, locals [0]
  refine n_ints wf_X7_65 wt_8_20 rfl rfl a19 dX7_init_150 dX7_init_152 (fun _ => rfl) (fun _ => rfl) (n := 5) rfl (by decide) (by omega) (by omega) (fun q20 N20 o20 i20 n20 z20 => ?_)
  refine ww_less (kc2 := 10) (ks2 := 8109) (Nat.le_of_ble_eq_true rfl) (Nat.le_of_ble_eq_true rfl) ?_
  have h21 : ww_mK x M N20 21 := ww_mK_s h20 o20 (by decide) i20 n20 z20
  have a20 := h21.2.1
  refine ww_aload_n (i := 0) dX7_init_155 rfl rfl ?_
  refine ww_iconst (v := 5) dX7_init_156 (by decide) ?_
  -- at 157, locals [0]
  refine n_ints wf_X7_68 wt_8_21 rfl rfl a20 dX7_init_157 dX7_init_159 (fun _ => rfl) (fun _ => rfl) (n := 5) rfl (by decide) (by omega) (by omega) (fun q21 N21 o21 i21 n21 z21 => ?_)
  refine ww_less (kc2 := 9) (ks2 := 8104) (Nat.le_of_ble_eq_true rfl) (Nat.le_of_ble_eq_true rfl) ?_
  have h22 : ww_mK x M N21 22 := ww_mK_s h21 o21 (by decide) i21 n21 z21
  have a21 := h22.2.1
  refine ww_aload_n (i := 0) dX7_init_162 rfl rfl ?_
  refine ww_iconst (v := 5) dX7_init_163 (by decide) ?_
  -- at 164, locals [0]
  refine n_ints wf_X7_71 wt_8_22 rfl rfl a21 dX7_init_164 dX7_init_166 (fun _ => rfl) (fun _ => rfl) (n := 5) rfl (by decide) (by omega) (by omega) (fun q22 N22 o22 i22 n22 z22 => ?_)
  refine ww_less (kc2 := 8) (ks2 := 8099) (Nat.le_of_ble_eq_true rfl) (Nat.le_of_ble_eq_true rfl) ?_
  have h23 : ww_mK x M N22 23 := ww_mK_s h22 o22 (by decide) i22 n22 z22
  have a22 := h23.2.1
  refine ww_aload_n (i := 0) dX7_init_169 rfl rfl ?_
  refine ww_sipush (v := 4000) dX7_init_170 (by decide) ?_
  -- at 173, locals [0]
  have h24 : ww_mK x M N22 24 := ww_mK_gap h23 rfl
  refine n_ints wf_X7_74 wt_8_24 rfl rfl a22 dX7_init_173 dX7_init_175 (fun _ => rfl) (fun _ => rfl) (n := 4000) rfl (by decide) (by omega) (by omega) (fun q24 N24 o24 i24 n24 z24 => ?_)
  refine ww_less (kc2 := 7) (ks2 := 4099) (Nat.le_of_ble_eq_true rfl) (Nat.le_of_ble_eq_true rfl) ?_
  have h25 : ww_mK x M N24 25 := ww_mK_s h24 o24 (by decide) i24 n24 z24
  have a24 := h25.2.1
  refine ww_aload_n (i := 0) dX7_init_178 rfl rfl ?_
  refine ww_sipush (v := 4000) dX7_init_179 (by decide) ?_
  -- at 182, locals [0]
  refine n_ints wf_X7_77 wt_8_25 rfl rfl a24 dX7_init_182 dX7_init_184 (fun _ => rfl) (fun _ => rfl) (n := 4000) rfl (by decide) (by omega) (by omega) (fun q25 N25 o25 i25 n25 z25 => ?_)
  refine ww_less (kc2 := 6) (ks2 := 99) (Nat.le_of_ble_eq_true rfl) (Nat.le_of_ble_eq_true rfl) ?_
  have h26 : ww_mK x M N25 26 := ww_mK_s h25 o25 (by decide) i25 n25 z25
  have a25 := h26.2.1
  refine ww_aload_n (i := 0) dX7_init_187 rfl rfl ?_
  refine ww_bipush (v := 8) dX7_init_188 (by decide) ?_
  -- at 190, locals [0]
  have h27 : ww_mK x M N25 27 := ww_mK_gap h26 rfl
  refine n_ints wf_X7_80 wt_8_27 rfl rfl a25 dX7_init_190 dX7_init_192 (fun _ => rfl) (fun _ => rfl) (n := 8) rfl (by decide) (by omega) (by omega) (fun q27 N27 o27 i27 n27 z27 => ?_)
  refine ww_less (kc2 := 5) (ks2 := 91) (Nat.le_of_ble_eq_true rfl) (Nat.le_of_ble_eq_true rfl) ?_
  have h28 : ww_mK x M N27 28 := ww_mK_s h27 o27 (by decide) i27 n27 z27
  have a27 := h28.2.1
  refine ww_aload_n (i := 0) dX7_init_195 rfl rfl ?_
  refine ww_bipush (v := 60) dX7_init_196 (by decide) ?_
  -- at 198, locals [0]
  refine n_ints wf_X7_83 wt_8_28 rfl rfl a27 dX7_init_198 dX7_init_200 (fun _ => rfl) (fun _ => rfl) (n := 60) rfl (by decide) (by omega) (by omega) (fun q28 N28 o28 i28 n28 z28 => ?_)
  refine ww_less (kc2 := 4) (ks2 := 31) (Nat.le_of_ble_eq_true rfl) (Nat.le_of_ble_eq_true rfl) ?_
  have h29 : ww_mK x M N28 29 := ww_mK_s h28 o28 (by decide) i28 n28 z28
  have a28 := h29.2.1
  refine ww_aload_n (i := 0) dX7_init_203 rfl rfl ?_
  refine ww_bipush (v := 8) dX7_init_204 (by decide) ?_
  -- at 206, locals [0]
  refine n_ints wf_X7_86 wt_8_29 rfl rfl a28 dX7_init_206 dX7_init_208 (fun _ => rfl) (fun _ => rfl) (n := 8) rfl (by decide) (by omega) (by omega) (fun q29 N29 o29 i29 n29 z29 => ?_)
  refine ww_less (kc2 := 3) (ks2 := 23) (Nat.le_of_ble_eq_true rfl) (Nat.le_of_ble_eq_true rfl) ?_
  have h30 : ww_mK x M N29 30 := ww_mK_s h29 o29 (by decide) i29 n29 z29
  have a29 := h30.2.1
  refine ww_aload_n (i := 0) dX7_init_211 rfl rfl ?_
  refine ww_bipush (v := 8) dX7_init_212 (by decide) ?_
  -- at 214, locals [0]
  refine n_ints wf_X7_89 wt_8_30 rfl rfl a29 dX7_init_214 dX7_init_216 (fun _ => rfl) (fun _ => rfl) (n := 8) rfl (by decide) (by omega) (by omega) (fun q30 N30 o30 i30 n30 z30 => ?_)
  refine ww_less (kc2 := 2) (ks2 := 15) (Nat.le_of_ble_eq_true rfl) (Nat.le_of_ble_eq_true rfl) ?_
  have h31 : ww_mK x M N30 31 := ww_mK_s h30 o30 (by decide) i30 n30 z30
  have a30 := h31.2.1
  refine ww_aload_n (i := 0) dX7_init_219 rfl rfl ?_
  refine ww_iconst (v := 3) dX7_init_220 (by decide) ?_
  -- at 221, locals [0]
  refine n_ints wf_X7_92 wt_8_31 rfl rfl a30 dX7_init_221 dX7_init_223 (fun _ => rfl) (fun _ => rfl) (n := 3) rfl (by decide) (by omega) (by omega) (fun q31 N31 o31 i31 n31 z31 => ?_)
  refine ww_less (kc2 := 1) (ks2 := 12) (Nat.le_of_ble_eq_true rfl) (Nat.le_of_ble_eq_true rfl) ?_
  have h32 : ww_mK x M N31 32 := ww_mK_s h31 o31 (by decide) i31 n31 z31
  have a31 := h32.2.1
  refine ww_aload_n (i := 0) dX7_init_226 rfl rfl ?_
  refine ww_bipush (v := 12) dX7_init_227 (by decide) ?_
  -- at 229, locals [0]
  refine n_ints wf_X7_95 wt_8_32 rfl rfl a31 dX7_init_229 dX7_init_231 (fun _ => rfl) (fun _ => rfl) (n := 12) rfl (by decide) (by omega) (by omega) (fun q32 N32 o32 i32 n32 z32 => ?_)
  refine ww_less (kc2 := 0) (ks2 := 0) (Nat.le_of_ble_eq_true rfl) (Nat.le_of_ble_eq_true rfl) ?_
  have h33 : ww_mK x M N32 33 := ww_mK_s h32 o32 (by decide) i32 n32 z32
  have a32 := h33.2.1
  refine ww_aload_n (i := 0) dX7_init_234 rfl rfl ?_
  refine ww_iconst (v := 0) dX7_init_235 (by decide) ?_
  -- at 236, locals [0]
  refine ww_putI (f := 320) wf_X7_98 wt_8_0 dX7_init_236 rfl rfl a32.1 a32.2 rfl rfl ?_
  refine ww_mem N32 (ww_sI_id (h33.2.2.1 0 (by decide) rfl)) ?_
  exact ww_vreturn dX7_init_239 rfl ⟨rfl, h33⟩
end WWB7
