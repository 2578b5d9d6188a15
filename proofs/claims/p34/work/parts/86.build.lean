/-! ===== the law builds a train ===== -/
/-- the kinds of the 23 parts -/
def q_KD (p : Nat) : Nat := if p = 0 then 0 else if p < 3 then 1 else if p < 7 then 2 else if p < 15 then 3 else if p < 19 then 4 else if p = 19 then 0 else if p = 20 then 3 else if p = 21 then 4 else 1
/-- the hosts of the 19 that are fitted -/
def q_HO (p : Nat) : Nat := if p < 3 then 0 else if p < 7 then 1 + (p - 3) / 2 else if p < 15 then 3 + (p - 7) / 2 else p - 12
def q_B1 (S : Nat → Nat → Int32) (n : Nat) : Prop := ∀ q, q < n → S 2 q = nI (q_KD q) ∧ S 4 q = 1 ∧ S 5 q = -1 ∧ S 9 q = 0
def q_B2 (S : Nat → Nat → Int32) (p : Nat) : Prop := ∀ q, q < 19 → S 2 q = nI (q_KD q) ∧ S 4 q = 1 ∧ S 9 q = 0 ∧ S 5 q = if p < q then nI (q_HO q) else -1
def q_cb (f : Nat → Bool) : Nat → Nat
  | 0 => 0
  | n + 1 => q_cb f n + if f n = true then 1 else 0
theorem q_cnt_cb {P : Nat → Prop} {f : Nat → Bool} : ∀ n, (∀ j, j < n → (P j ↔ f j = true)) → q_cnt P n = q_cb f n
  | 0, _ => rfl
  | n + 1, h => by
    have ih := q_cnt_cb n (fun j hj => h j (by omega))
    show _ = q_cb f n + if f n = true then 1 else 0
    by_cases c : P n
    · rw [q_cnt_s c, ih, if_pos ((h n (by omega)).mp c)]
    · rw [q_cnt_n c, ih, if_neg (fun y => c ((h n (by omega)).mpr y))]
      omega
theorem q_cnt_1 {P : Nat → Prop} {i n : Nat} (hi : i < n) (h : P i) : 0 < q_cnt P n := Nat.lt_of_le_of_lt (Nat.zero_le _) (q_cnt_lt2 hi h)
theorem q_KD_lt {p : Nat} : q_KD p < 5 := by
  unfold q_KD
  (repeat' split) <;> omega
theorem q_HO_lt {p : Nat} (h0 : 0 < p) (h : p < 19) : q_HO p < p := by
  unfold q_HO
  (repeat' split) <;> omega
section WWB1
variable {g : ww_G} {M : ww_M} {c : Nat → Nat} {b n w m p t d kc ks : Nat} {S : Nat → Nat → Int32} {v : Int32} {Q : Option Value → ww_M → Prop} {X : String → ww_M → Prop}
theorem x_nil (h : ww_mx g c b n w m S M) (hp : n ≤ p) (h60 : p < 60) : q_nil S p := by
  obtain ⟨ea, P, W, kl, f, z, D, E, u, hr, H⟩ := h
  exact H.2.2.2.2.2.2.2.2.1 p hp h60
theorem q_B1_s {e : Int32} (h : q_B1 S n) (h0 : q_nil S n) : q_B1 (q_part S n (nI (q_KD n)) e 1) (n + 1) := fun q hq => by
  have e2 : q_part S n (nI (q_KD n)) e 1 2 q = ww_u2 S 2 n (nI (q_KD n)) 2 q := rfl
  have e4 : q_part S n (nI (q_KD n)) e 1 4 q = ww_u2 S 4 n 1 4 q := rfl
  have e5 : q_part S n (nI (q_KD n)) e 1 5 q = ww_u2 S 5 n (-1) 5 q := rfl
  have e9 : q_part S n (nI (q_KD n)) e 1 9 q = S 9 q := rfl
  rw [e2, e4, e5, e9]
  by_cases c : q = n
  · rw [c, ww_u2s, ww_u2s, ww_u2s]
    exact ⟨rfl, rfl, rfl, h0.2.2.2.1⟩
  · rw [ww_u2n (fun y => c y.2), ww_u2n (fun y => c y.2), ww_u2n (fun y => c y.2)]
    exact h q (by omega)
theorem q_B2_0 (h : q_B1 S 19) : q_B2 S 18 := fun q hq => by
  obtain ⟨h1, h2, h3, h4⟩ := h q hq
  rw [if_neg (by omega)]
  exact ⟨h1, h2, h4, h3⟩
theorem q_B2_s {k : Nat} (h : q_B2 S p) (h0 : 0 < p) : q_B2 (q_fit S k p (q_HO p)) (p - 1) := fun q hq => by
  obtain ⟨h1, h2, h3, h4⟩ := h q hq
  refine ⟨h1, h2, h3, ?_⟩
  show ww_u2 S 5 p (nI (q_HO p)) 5 q = _
  by_cases c : q = p
  · rw [c, ww_u2s, if_pos (by omega)]
  · rw [ww_u2n (fun y => c y.2), h4]
    by_cases c2 : p < q
    · rw [if_pos c2, if_pos (by omega)]
    · rw [if_neg c2, if_neg (by omega)]
theorem q_B2_P (h : q_B2 S p) (h0 : 0 < p) (hp : p < 19) : q_fitP S p (q_HO p) := by
  have hl := q_HO_lt h0 hp
  unfold q_fitP
  rw [(h p hp).1, (h (q_HO p) (by omega)).1]
  have key : ∀ p, p < 19 → 0 < p → ¬ q_places (nI (q_KD (q_HO p))) (nI (q_KD p)) = 0 := by decide +kernel
  exact key p hp h0
theorem q_B2_S (hx : ww_mx g c b 19 0 0 S M) (h : q_B2 S p) (h0 : 0 < p) (hp : p < 19) : q_fitS S 19 p (q_HO p) := by
  have hl := q_HO_lt h0 hp
  obtain ⟨p1, p2, p3, p4⟩ := h p hp
  obtain ⟨o1, o2, o3, o4⟩ := h (q_HO p) (by omega)
  rw [if_neg (by omega)] at p4 o4
  refine ⟨p4, p3, by rw [o4]; decide, fun y => ?_, ?_, by rw [p2, o2]; decide, by rw [p2, o2]; decide⟩
  · unfold q_bound at y
    have hd := q_hd_lt (x_G hx).2.2.1 (by decide) 5 (q_HO p) (by omega)
    exact absurd (x_m0 hx hd y) (by decide)
  · have e : q_inK S 19 (nI (q_HO p)) (S 2 p) = q_cb (fun j => decide (p < j) && decide (q_HO j = q_HO p) && decide (q_KD j = q_KD p)) 19 := q_cnt_cb 19 (fun j hj => by
      obtain ⟨j1, j2, j3, j4⟩ := h j hj
      have k1 := @q_KD_lt j
      have k2 := @q_KD_lt p
      rw [j1, p1, nI_eq (by omega) (by omega), j4, Bool.and_eq_true, Bool.and_eq_true, decide_eq_true_eq, decide_eq_true_eq, decide_eq_true_eq]
      by_cases c : p < j
      · have hj2 := q_HO_lt (p := j) (by omega) hj
        rw [if_pos c, nI_eq (by omega) (by omega)]
        exact ⟨fun y => ⟨⟨c, y.1⟩, y.2⟩, fun y => ⟨y.1.2, y.2⟩⟩
      · rw [if_neg c]
        refine ⟨fun y => ?_, fun y => absurd y.1.1 c⟩
        have y := y.1
        rw [ww_eq, nI_toInt (by omega), show (-1 : Int32).toInt = -1 from rfl] at y
        omega)
    rw [e, o1, p1]
    have key : ∀ p, p < 19 → 0 < p → nI (q_cb (fun j => decide (p < j) && decide (q_HO j = q_HO p) && decide (q_KD j = q_KD p)) 19) < q_places (nI (q_KD (q_HO p))) (nI (q_KD p)) := by decide +kernel
    exact key p hp h0
set_option maxRecDepth 20000 in
set_option maxHeartbeats 4000000 in
theorem l_bk (hp : p < 19) (kk : ww_A g wy_L_build d kc ks M 48 [(0, .ref (c 0)), (1, .int 1), (2, .int (nI p))] [.int (nI (q_KD p))] Q X) : ww_A g wy_L_build d kc ks M 10 [(0, .ref (c 0)), (1, .int 1), (2, .int (nI p))] [] Q X := by
  have h5 : p = 0 ∨ (1 ≤ p ∧ p < 3) ∨ (3 ≤ p ∧ p < 7) ∨ (7 ≤ p ∧ p < 15) ∨ (15 ≤ p ∧ p < 19) := by omega
  have n0 : 1 ≤ p → ¬ nI p = 0 := fun h y => by
    rw [ww_eq, nI_toInt (by omega), show (0 : Int32).toInt = 0 from rfl] at y
    omega
  have eK : ∀ k, q_KD p = k → nI k = nI (q_KD p) := fun k e => by rw [e]
  rcases h5 with rfl | h | h | h | h
  · refine ww_iload_n (i := 2) dL_build_10 rfl rfl ?_
    refine ww_if_ne_f (tgt := 18) dL_build_11 (by decide) (by decide) ?_
    refine ww_iconst (v := 0) dL_build_14 (by decide) ?_
    refine ww_goto (tgt := 48) dL_build_15 (by decide) ?_
    -- at 48, locals [0, 1, 2]
    exact ww_top _ (by decide) kk
  · refine ww_iload_n (i := 2) dL_build_10 rfl rfl ?_
    refine ww_if_ne_t (tgt := 18) dL_build_11 (by decide) (n0 (by omega)) ?_
    refine ww_iload_n (i := 2) dL_build_18 rfl rfl ?_
    refine ww_iconst (v := 3) dL_build_19 (by decide) ?_
    refine ww_icmp_ge_f (tgt := 27) dL_build_20 (by decide) (nI_ge (b := 3) (by omega) (by decide)) ?_
    refine ww_iconst (v := 1) dL_build_23 (by decide) ?_
    refine ww_goto (tgt := 48) dL_build_24 (by decide) ?_
    -- at 48, locals [0, 1, 2]
    exact ww_top _ (eK 1 (by unfold q_KD; (repeat' split) <;> omega)) kk
  · refine ww_iload_n (i := 2) dL_build_10 rfl rfl ?_
    refine ww_if_ne_t (tgt := 18) dL_build_11 (by decide) (n0 (by omega)) ?_
    refine ww_iload_n (i := 2) dL_build_18 rfl rfl ?_
    refine ww_iconst (v := 3) dL_build_19 (by decide) ?_
    refine ww_icmp_ge_t (tgt := 27) dL_build_20 (by decide) (nI_le (a := 3) (by omega) (by omega)) ?_
    refine ww_iload_n (i := 2) dL_build_27 rfl rfl ?_
    refine ww_bipush (v := 7) dL_build_28 (by decide) ?_
    refine ww_icmp_ge_f (tgt := 37) dL_build_30 (by decide) (nI_ge (b := 7) (by omega) (by decide)) ?_
    refine ww_iconst (v := 2) dL_build_33 (by decide) ?_
    refine ww_goto (tgt := 48) dL_build_34 (by decide) ?_
    -- at 48, locals [0, 1, 2]
    exact ww_top _ (eK 2 (by unfold q_KD; (repeat' split) <;> omega)) kk
  · refine ww_iload_n (i := 2) dL_build_10 rfl rfl ?_
    refine ww_if_ne_t (tgt := 18) dL_build_11 (by decide) (n0 (by omega)) ?_
    refine ww_iload_n (i := 2) dL_build_18 rfl rfl ?_
    refine ww_iconst (v := 3) dL_build_19 (by decide) ?_
    refine ww_icmp_ge_t (tgt := 27) dL_build_20 (by decide) (nI_le (a := 3) (by omega) (by omega)) ?_
    refine ww_iload_n (i := 2) dL_build_27 rfl rfl ?_
    refine ww_bipush (v := 7) dL_build_28 (by decide) ?_
    refine ww_icmp_ge_t (tgt := 37) dL_build_30 (by decide) (nI_le (a := 7) (by omega) (by omega)) ?_
    refine ww_iload_n (i := 2) dL_build_37 rfl rfl ?_
    refine ww_bipush (v := 15) dL_build_38 (by decide) ?_
    refine ww_icmp_ge_f (tgt := 47) dL_build_40 (by decide) (nI_ge (b := 15) (by omega) (by decide)) ?_
    refine ww_iconst (v := 3) dL_build_43 (by decide) ?_
    refine ww_goto (tgt := 48) dL_build_44 (by decide) ?_
    -- at 48, locals [0, 1, 2]
    exact ww_top _ (eK 3 (by unfold q_KD; (repeat' split) <;> omega)) kk
  · refine ww_iload_n (i := 2) dL_build_10 rfl rfl ?_
    refine ww_if_ne_t (tgt := 18) dL_build_11 (by decide) (n0 (by omega)) ?_
    refine ww_iload_n (i := 2) dL_build_18 rfl rfl ?_
    refine ww_iconst (v := 3) dL_build_19 (by decide) ?_
    refine ww_icmp_ge_t (tgt := 27) dL_build_20 (by decide) (nI_le (a := 3) (by omega) (by omega)) ?_
    refine ww_iload_n (i := 2) dL_build_27 rfl rfl ?_
    refine ww_bipush (v := 7) dL_build_28 (by decide) ?_
    refine ww_icmp_ge_t (tgt := 37) dL_build_30 (by decide) (nI_le (a := 7) (by omega) (by omega)) ?_
    refine ww_iload_n (i := 2) dL_build_37 rfl rfl ?_
    refine ww_bipush (v := 15) dL_build_38 (by decide) ?_
    refine ww_icmp_ge_t (tgt := 47) dL_build_40 (by decide) (nI_le (a := 15) (by omega) (by omega)) ?_
    refine ww_iconst (v := 4) dL_build_47 (by decide) ?_
    -- at 48, locals [0, 1, 2]
    exact ww_top _ (eK 4 (by unfold q_KD; (repeat' split) <;> omega)) kk
set_option maxRecDepth 20000 in
set_option maxHeartbeats 4000000 in
theorem l_bh (h0 : 0 < p) (hp : p < 19) (kk : ww_A g wy_L_build d kc ks M 136 [(0, .ref (c 0)), (1, .int 1), (2, .int (nI p))] [.int (nI (q_HO p))] Q X) : ww_A g wy_L_build d kc ks M 90 [(0, .ref (c 0)), (1, .int 1), (2, .int (nI p))] [] Q X := by
  have h5 : p < 3 ∨ (3 ≤ p ∧ p < 7) ∨ (7 ≤ p ∧ p < 15) ∨ (15 ≤ p ∧ p < 19) := by omega
  have eK : ∀ k, q_HO p = k → nI k = nI (q_HO p) := fun k e => by rw [e]
  rcases h5 with h | h | h | h
  · refine ww_iload_n (i := 2) dL_build_90 rfl rfl ?_
    refine ww_iconst (v := 3) dL_build_91 (by decide) ?_
    refine ww_icmp_ge_f (tgt := 99) dL_build_92 (by decide) (nI_ge (b := 3) (by omega) (by decide)) ?_
    refine ww_iconst (v := 0) dL_build_95 (by decide) ?_
    refine ww_goto (tgt := 136) dL_build_96 (by decide) ?_
    -- at 136, locals [0, 1, 2]
    exact ww_top _ (eK 0 (by unfold q_HO; (repeat' split) <;> omega)) kk
  · refine ww_iload_n (i := 2) dL_build_90 rfl rfl ?_
    refine ww_iconst (v := 3) dL_build_91 (by decide) ?_
    refine ww_icmp_ge_t (tgt := 99) dL_build_92 (by decide) (nI_le (a := 3) (by omega) (by omega)) ?_
    refine ww_iload_n (i := 2) dL_build_99 rfl rfl ?_
    refine ww_bipush (v := 7) dL_build_100 (by decide) ?_
    refine ww_icmp_ge_f (tgt := 115) dL_build_102 (by decide) (nI_ge (b := 7) (by omega) (by decide)) ?_
    refine ww_iconst (v := 1) dL_build_105 (by decide) ?_
    refine ww_iload_n (i := 2) dL_build_106 rfl rfl ?_
    refine ww_iconst (v := 3) dL_build_107 (by decide) ?_
    refine ww_isub dL_build_108 ?_
    refine ww_iconst (v := 2) dL_build_109 (by decide) ?_
    refine ww_idiv dL_build_110 (by decide) ?_
    refine ww_iadd dL_build_111 ?_
    refine ww_goto (tgt := 136) dL_build_112 (by decide) ?_
    -- at 136, locals [0, 1, 2]
    have e : (1 : Int32) + (nI p - 3) / 2 = nI (1 + (p - 3) / 2) := by
      rw [show (3 : Int32) = nI 3 from rfl, q_subN (by omega) (by omega), show (2 : Int32) = nI 2 from rfl, q_divN (by omega) (by decide) (by decide), show (1 : Int32) = nI 1 from rfl, nI_add]
    exact ww_top _ (e.trans (eK _ (by unfold q_HO; (repeat' split) <;> omega))) kk
  · refine ww_iload_n (i := 2) dL_build_90 rfl rfl ?_
    refine ww_iconst (v := 3) dL_build_91 (by decide) ?_
    refine ww_icmp_ge_t (tgt := 99) dL_build_92 (by decide) (nI_le (a := 3) (by omega) (by omega)) ?_
    refine ww_iload_n (i := 2) dL_build_99 rfl rfl ?_
    refine ww_bipush (v := 7) dL_build_100 (by decide) ?_
    refine ww_icmp_ge_t (tgt := 115) dL_build_102 (by decide) (nI_le (a := 7) (by omega) (by omega)) ?_
    refine ww_iload_n (i := 2) dL_build_115 rfl rfl ?_
    refine ww_bipush (v := 15) dL_build_116 (by decide) ?_
    refine ww_icmp_ge_f (tgt := 132) dL_build_118 (by decide) (nI_ge (b := 15) (by omega) (by decide)) ?_
    refine ww_iconst (v := 3) dL_build_121 (by decide) ?_
    refine ww_iload_n (i := 2) dL_build_122 rfl rfl ?_
    refine ww_bipush (v := 7) dL_build_123 (by decide) ?_
    refine ww_isub dL_build_125 ?_
    refine ww_iconst (v := 2) dL_build_126 (by decide) ?_
    refine ww_idiv dL_build_127 (by decide) ?_
    refine ww_iadd dL_build_128 ?_
    refine ww_goto (tgt := 136) dL_build_129 (by decide) ?_
    -- at 136, locals [0, 1, 2]
    have e : (3 : Int32) + (nI p - 7) / 2 = nI (3 + (p - 7) / 2) := by
      rw [show (7 : Int32) = nI 7 from rfl, q_subN (by omega) (by omega), show (2 : Int32) = nI 2 from rfl, q_divN (by omega) (by decide) (by decide), show (3 : Int32) = nI 3 from rfl, nI_add]
    exact ww_top _ (e.trans (eK _ (by unfold q_HO; (repeat' split) <;> omega))) kk
  · refine ww_iload_n (i := 2) dL_build_90 rfl rfl ?_
    refine ww_iconst (v := 3) dL_build_91 (by decide) ?_
    refine ww_icmp_ge_t (tgt := 99) dL_build_92 (by decide) (nI_le (a := 3) (by omega) (by omega)) ?_
    refine ww_iload_n (i := 2) dL_build_99 rfl rfl ?_
    refine ww_bipush (v := 7) dL_build_100 (by decide) ?_
    refine ww_icmp_ge_t (tgt := 115) dL_build_102 (by decide) (nI_le (a := 7) (by omega) (by omega)) ?_
    refine ww_iload_n (i := 2) dL_build_115 rfl rfl ?_
    refine ww_bipush (v := 15) dL_build_116 (by decide) ?_
    refine ww_icmp_ge_t (tgt := 132) dL_build_118 (by decide) (nI_le (a := 15) (by omega) (by omega)) ?_
    refine ww_iload_n (i := 2) dL_build_132 rfl rfl ?_
    refine ww_bipush (v := 12) dL_build_133 (by decide) ?_
    refine ww_isub dL_build_135 ?_
    -- at 136, locals [0, 1, 2]
    have e : nI p - 12 = nI (p - 12) := by
      rw [show (12 : Int32) = nI 12 from rfl, q_subN (by omega) (by omega)]
    exact ww_top _ (e.trans (eK _ (by unfold q_HO; (repeat' split) <;> omega))) kk
/-- what the building leaves -/
def ww_bQ (g : ww_G) (c : Nat → Nat) : Option Value → ww_M → Prop := fun v M' => v = some (.int 1) ∧ ∃ S', ww_mx g c 37 19 0 0 S' M' ∧ q_B2 S' 0
set_option maxRecDepth 20000 in
set_option maxHeartbeats 4000000 in
theorem l_bf : ∀ p, p ≤ 18 → ∀ (M : ww_M) (S : Nat → Nat → Int32) (kc ks : Nat), ww_mx g c (37 - p) 19 0 0 S M → q_B2 S p → 2 * p ≤ kc → 1037 * p ≤ ks → ww_A g wy_L_build 20 kc ks M 82 [(0, .ref (c 0)), (1, .int 1), (2, .int (nI p))] [] (ww_bQ g c) ww_no
  | 0, _, M, S, kc, ks, h, hB, hkc, hks => by
    refine ww_iload_n (i := 2) dL_build_82 rfl rfl ?_
    refine ww_if_le_t (tgt := 167) dL_build_83 (by decide) (by decide) ?_
    refine ww_iload_n (i := 1) dL_build_167 rfl rfl ?_
    exact ww_ireturn dL_build_168 rfl (by first | rfl | exact ww_b_nar) ⟨rfl, S, h, hB⟩
  | p + 1, hp, M, S, kc, ks, h, hB, hkc, hks => by
    have hx := x_is h
    have ih := l_bf p (by omega)
    have hP := q_B2_P hB (by omega) (by omega)
    have hS := q_B2_S h hB (by omega) (by omega)
    have hl := q_HO_lt (p := p + 1) (by omega) (by omega)
    have hB' := q_B2_s (k := q_k S) hB (by omega)
    have hc := x_fit h (by omega) (p := p + 1) (t := q_HO (p + 1)) (by omega) (by omega) hP hS
    have e5 : q_fit S (q_k S) (p + 1) (q_HO (p + 1)) 5 (p + 1) = nI (q_HO (p + 1)) := ww_u2s (f := S) (k := 5)
    have hin : 0 < q_in (q_fit S (q_k S) (p + 1) (q_HO (p + 1))) 19 (nI (q_HO (p + 1))) := q_cnt_1 (P := fun j => q_fit S (q_k S) (p + 1) (q_HO (p + 1)) 5 j = nI (q_HO (p + 1))) (i := p + 1) (by omega) e5
    have hile : q_in (q_fit S (q_k S) (p + 1) (q_HO (p + 1))) 19 (nI (q_HO (p + 1))) ≤ 19 := q_cnt_le _ 19
    refine ww_iload_n (i := 2) dL_build_82 rfl rfl ?_
    refine ww_if_le_f (tgt := 167) dL_build_83 (by decide) (nI_nle (by omega) (by omega)) ?_
    refine ww_iload_n (i := 1) dL_build_86 rfl rfl ?_
    refine ww_if_eq_f (tgt := 167) dL_build_87 (by decide) (by decide) ?_
    -- at 90, locals [0, 1, 2]
    refine l_bh (by omega) (by omega) ?_
    generalize q_HO (p + 1) = t at hc e5 hin hile hB' hl ⊢
    generalize q_fit S (q_k S) (p + 1) t = S' at hc e5 hin hile hB' ⊢
    refine ww_istore_n (i := 3) (lv2 := [(0, _), (1, _), (2, _), (3, _)]) dL_build_136 rfl (Nat.le_of_ble_eq_true rfl) rfl ?_
    refine ww_aload_n (i := 0) dL_build_137 rfl rfl ?_
    refine ww_iload_n (i := 2) dL_build_138 rfl rfl ?_
    refine ww_iload_n (i := 3) dL_build_139 rfl rfl ?_
    refine ww_callV (κ := 7) (r := (RX6, TX6, 4)) wk_L_14 dL_build_140 (hc) rfl rfl (show ww_is _ _ 7 from hx).1 (show ww_is _ _ 7 from hx).2 rfl rfl (by omega) (by omega) (by omega) (by first | exact Nat.le_of_ble_eq_true rfl | (simp [ww_rf_cat, Value.category])) rfl (fun E M9 h9 => h9.elim) (fun v9 M9 h9 => ?_)
    obtain ⟨rfl, h1⟩ := h9
    -- at 143, locals [0, 1, 2, 3]
    have hx1 := x_is h1
    have hh := x_host h1 (p := p + 1) (by omega)
    rw [e5] at hh
    refine ww_if_le_f (tgt := 159) dL_build_143 (by decide) (nI_nle hin (by omega)) ?_
    refine ww_aload_n (i := 0) dL_build_146 rfl rfl ?_
    refine ww_iload_n (i := 2) dL_build_147 rfl rfl ?_
    refine ww_callV (κ := 7) (r := (RX6, TX6, 4)) wk_L_18 dL_build_148 (hh) rfl rfl (show ww_is _ _ 7 from hx1).1 (show ww_is _ _ 7 from hx1).2 rfl rfl (by omega) (by omega) (by omega) (by first | exact Nat.le_of_ble_eq_true rfl | (simp [ww_rf_cat, Value.category])) rfl (fun E M9 h9 => h9.elim) (fun v9 M9 h9 => ?_)
    obtain ⟨rfl, rfl⟩ := h9
    refine ww_iload_n (i := 3) dL_build_151 rfl rfl ?_
    refine ww_icmp_ne_f (tgt := 159) dL_build_152 (by decide) rfl ?_
    refine ww_iconst (v := 1) dL_build_155 (by decide) ?_
    refine ww_goto (tgt := 160) dL_build_156 (by decide) ?_
    refine ww_istore_n (i := 1) (lv2 := [(0, _), (1, _), (2, _), (3, _)]) dL_build_160 rfl (Nat.le_of_ble_eq_true rfl) rfl ?_
    -- at 161, locals [0, 1, 2, 3]
    refine ww_iinc (i := 2) (v := _ + (-1)) (lv2 := [(0, _), (1, _), (2, _), (3, _)]) dL_build_161 rfl (by rfl) (Nat.le_of_ble_eq_true rfl) rfl ?_
    refine ww_goto (tgt := 82) dL_build_164 (by decide) ?_
    -- at 82, locals [0, 1, 2, 3]
    rw [show nI (p + 1) + (-1) = nI p from by rw [← Int32.sub_eq_add_neg, nI_pred]]
    have e36 : 37 - (p + 1) + 1 = 37 - p := by omega
    rw [e36] at h1
    exact ww_subk (ih _ _ _ _ h1 hB' (by omega) (by omega)) ⟨rfl, rfl, rfl, trivial⟩
set_option maxRecDepth 20000 in
set_option maxHeartbeats 4000000 in
theorem l_bp : ∀ r p, p + r = 19 → ∀ (M : ww_M) (S : Nat → Nat → Int32) (kc ks : Nat), ww_mx g c p p 0 0 S M → q_B1 S p → 4 * r + 36 ≤ kc → 1037 * r + 18666 ≤ ks → ww_A g wy_L_build 20 kc ks M 4 [(0, .ref (c 0)), (1, .int 1), (2, .int (nI p))] [] (ww_bQ g c) ww_no
  | 0, p, hr, M, S, kc, ks, h, hB, hkc, hks => by
    have e0 : p = 19 := by omega
    subst e0
    refine ww_iload_n (i := 2) dL_build_4 rfl rfl ?_
    refine ww_bipush (v := 19) dL_build_5 (by decide) ?_
    refine ww_icmp_ge_t (tgt := 79) dL_build_7 (by decide) (by decide) ?_
    refine ww_bipush (v := 18) dL_build_79 (by decide) ?_
    refine ww_istore_n (i := 2) (lv2 := [(0, _), (1, _), (2, _)]) dL_build_81 rfl (Nat.le_of_ble_eq_true rfl) rfl ?_
    -- at 82, locals [0, 1, 2]
    exact l_bf 18 (by decide) M S kc ks h (q_B2_0 hB) (by omega) (by omega)
  | r + 1, p, hr, M, S, kc, ks, h, hB, hkc, hks => by
    have hx := x_is h
    have ih := l_bp r (p + 1) (by omega)
    have hp : p < 19 := by omega
    have h10 := Nat.mod_lt p (show 0 < 10 by decide)
    have h9r : q_rg 0 9 (nI (p % 10)) := by
      unfold q_rg
      rw [ww_le', ww_le', nI_toInt (by omega), show (0 : Int32).toInt = 0 from rfl, show (9 : Int32).toInt = 9 from rfl]
      omega
    have hB' := q_B1_s (e := nI (p % 10)) hB (x_nil h (Nat.le_refl _) (by omega))
    have hc := x_part h (k := q_KD p) (e := nI (p % 10)) (i := 1) (by omega) q_KD_lt h9r (by unfold q_rg; decide)
    refine ww_iload_n (i := 2) dL_build_4 rfl rfl ?_
    refine ww_bipush (v := 19) dL_build_5 (by decide) ?_
    refine ww_icmp_ge_f (tgt := 79) dL_build_7 (by decide) (nI_ge (b := 19) (by omega) (by decide)) ?_
    -- at 10, locals [0, 1, 2]
    refine l_bk hp ?_
    generalize q_KD p = k at hc hB' ⊢
    generalize q_part S p (nI k) (nI (p % 10)) 1 = S' at hc hB' ⊢
    refine ww_istore_n (i := 3) (lv2 := [(0, _), (1, _), (2, _), (3, _)]) dL_build_48 rfl (Nat.le_of_ble_eq_true rfl) rfl ?_
    refine ww_iload_n (i := 1) dL_build_49 rfl rfl ?_
    refine ww_if_eq_f (tgt := 71) dL_build_50 (by decide) (by decide) ?_
    refine ww_aload_n (i := 0) dL_build_53 rfl rfl ?_
    refine ww_iload_n (i := 3) dL_build_54 rfl rfl ?_
    refine ww_iload_n (i := 2) dL_build_55 rfl rfl ?_
    refine ww_bipush (v := 10) dL_build_56 (by decide) ?_
    refine ww_irem dL_build_58 (by decide) ?_
    -- at 59, locals [0, 1, 2, 3]
    refine ww_top (nI (p % 10)) (q_remN (k := 10) (by omega) (by decide) (by decide)) ?_
    refine ww_iconst (v := 1) dL_build_59 (by decide) ?_
    refine ww_callV (κ := 7) (r := (RX6, TX6, 4)) wk_L_8 dL_build_60 (hc) rfl rfl (show ww_is _ _ 7 from hx).1 (show ww_is _ _ 7 from hx).2 rfl rfl (by omega) (by omega) (by omega) (by first | exact Nat.le_of_ble_eq_true rfl | (simp [ww_rf_cat, Value.category])) rfl (fun E M9 h9 => h9.elim) (fun v9 M9 h9 => ?_)
    obtain ⟨rfl, h1⟩ := h9
    refine ww_iload_n (i := 2) dL_build_63 rfl rfl ?_
    refine ww_icmp_ne_f (tgt := 71) dL_build_64 (by decide) rfl ?_
    refine ww_iconst (v := 1) dL_build_67 (by decide) ?_
    refine ww_goto (tgt := 72) dL_build_68 (by decide) ?_
    refine ww_istore_n (i := 1) (lv2 := [(0, _), (1, _), (2, _), (3, _)]) dL_build_72 rfl (Nat.le_of_ble_eq_true rfl) rfl ?_
    -- at 73, locals [0, 1, 2, 3]
    refine ww_iinc (i := 2) (v := _ + 1) (lv2 := [(0, _), (1, _), (2, _), (3, _)]) dL_build_73 rfl (by rfl) (Nat.le_of_ble_eq_true rfl) rfl ?_
    refine ww_goto (tgt := 4) dL_build_76 (by decide) ?_
    -- at 4, locals [0, 1, 2, 3]
    rw [nI_1 p]
    exact ww_subk (ih _ _ _ _ h1 hB' (by omega) (by omega)) ⟨rfl, rfl, rfl, trivial⟩
set_option maxRecDepth 20000 in
theorem l_build (h : ww_mx g c 0 0 0 0 S M) : ww_C g wy_L_build 20 112 38369 [.ref (c 0)] M (ww_bQ g c) ww_no := by
  refine ww_ent (by decide +kernel) (Nat.le_of_ble_eq_true rfl) ⟨rfl, trivial⟩ ?_
  refine ww_iconst (v := 1) dL_build_0 (by decide) ?_
  refine ww_istore_n (i := 1) (lv2 := [(0, _), (1, _)]) dL_build_1 rfl (Nat.le_of_ble_eq_true rfl) rfl ?_
  refine ww_iconst (v := 0) dL_build_2 (by decide) ?_
  refine ww_istore_n (i := 2) (lv2 := [(0, _), (1, _), (2, _)]) dL_build_3 rfl (Nat.le_of_ble_eq_true rfl) rfl ?_
  -- at 4, locals [0, 1, 2]
  exact l_bp 19 0 (by decide) M S _ _ h (fun q hq => by omega) (by omega) (by omega)
end WWB1
