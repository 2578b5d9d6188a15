/-! ===== the night: comes, plans ===== -/
def q_wq (S : Nat → Nat → Int32) (i : Nat) : Nat := (S 27 i).toNatClampNeg
/-- w trains wait -/
def q_W (S : Nat → Nat → Int32) (n w : Nat) : Prop := S 26 0 = nI w ∧ w ≤ 8 ∧ ∀ i, i < w → q_wq S i < n ∧ S 27 i = nI (q_wq S i)
theorem q_div3 {a : Nat} (h : a < 2 ^ 30) : nI a / 3 = nI (a / 3) := by
  rw [ww_eq, Int32.toInt_div, nI_toInt (by omega), nI_toInt (by omega), show (3 : Int32).toInt = 3 from rfl, Int.tdiv_eq_ediv_of_nonneg (by omega), Int.bmod_eq_of_le (by omega) (by omega)]
  omega
theorem q_rem3 {a : Nat} (h : a < 2 ^ 30) : nI a - nI a / 3 * 3 = nI (a % 3) := by
  have e : (nI (a / 3) * 3).toInt = ((a / 3 : Nat) : Int) * 3 := by
    rw [Int32.toInt_mul, nI_toInt (by omega), show (3 : Int32).toInt = 3 from rfl, Int.bmod_eq_of_le (by omega) (by omega)]
  rw [q_div3 h, ww_eq, Int32.toInt_sub, e, nI_toInt (by omega), nI_toInt (by omega), Int.bmod_eq_of_le (by omega) (by omega)]
  omega
theorem q_mul3 {a : Nat} (h : a < 2 ^ 29) : nI a * 3 = nI (3 * a) := by
  rw [ww_eq, Int32.toInt_mul, nI_toInt (by omega), nI_toInt (by omega), show (3 : Int32).toInt = 3 from rfl, Int.bmod_eq_of_le (by omega) (by omega)]
  omega
section WWZ
variable {g : ww_G} {M M1 : ww_M} {x : Nat} {ar : Nat → Nat} {n w t : Nat} {S S1 : Nat → Nat → Int32} {v : Int32} {Q : Option Value → ww_M → Prop}
set_option maxRecDepth 20000 in
set_option maxHeartbeats 4000000 in
theorem m_comes_l (hM : ww_mo x ar M.1 M.2.2.1) (hu : ww_up x ar M S1 M1) (hW : q_W S1 n w) (h6 : n ≤ 60) (A : Prop) (kk : ww_A g wy_X7_comes 4 0 0 M1 135 [(0, .ref x), (1, .int (nI t)), (2, .int v), (3, .int (ww_b (A ∧ ∀ j, j < w → ¬ S1 28 (q_wq S1 j) = v)))] [] Q ww_no) : ∀ m i, i + m = w → ww_A g wy_X7_comes 4 0 0 M1 94 [(0, .ref x), (1, .int (nI t)), (2, .int v), (3, .int (ww_b (A ∧ ∀ j, j < i → ¬ S1 28 (q_wq S1 j) = v))), (4, .int (nI i))] [] Q ww_no
  | 0, i, hm => by
    have e : i = w := by omega
    subst e
    have h8 := hW.2.1
    refine ww_iload (i := 4) dX7_comes_94 rfl ?_
    refine ww_aload_n (i := 0) dX7_comes_96 rfl rfl ?_
    refine ww_pgetI (k := 26) hM hu dX7_comes_97 wf_X7_139 rfl rfl hW.1 ?_
    refine ww_icmp_ge_t (tgt := 135) dX7_comes_100 (by decide) (nI_le (Nat.le_refl _) (by omega)) ?_
    -- at 135, locals [0, 1, 2, 3, 4]
    exact ww_subk kk ⟨rfl, rfl, rfl, rfl, trivial⟩
  | m + 1, i, hm => by
    have h8 := hW.2.1
    have hi := hW.2.2 i (by omega)
    have hl := m_comes_l hM hu hW h6 A kk m (i + 1) (by omega)
    by_cases c1 : A ∧ ∀ j, j < i → ¬ S1 28 (q_wq S1 j) = v
    · by_cases c2 : S1 28 (q_wq S1 i) = v
      · rw [ww_b_f (P := A ∧ ∀ j, j < i + 1 → ¬ S1 28 (q_wq S1 j) = v) (fun z => z.2 i (by omega) c2)] at hl
        refine ww_iload (i := 4) dX7_comes_94 rfl ?_
        refine ww_aload_n (i := 0) dX7_comes_96 rfl rfl ?_
        refine ww_pgetI (k := 26) hM hu dX7_comes_97 wf_X7_139 rfl rfl hW.1 ?_
        refine ww_icmp_ge_f (tgt := 135) dX7_comes_100 (by decide) (nI_ge (by omega) (by omega)) ?_
        refine ww_iload_n (i := 3) dX7_comes_103 rfl rfl ?_
        refine ww_if_eq_f (tgt := 127) dX7_comes_104 (by decide) (by rw [ww_b_t c1]; decide) ?_
        refine ww_aload_n (i := 0) dX7_comes_107 rfl rfl ?_
        refine ww_getR (f := 348) wf_X7_83 dX7_comes_108 rfl rfl (ww_up_mo hM hu).1.1 (ww_up_mo hM hu).1.2 ((ww_up_mo hM hu).2.1 28 rfl) ?_
        refine ww_aload_n (i := 0) dX7_comes_111 rfl rfl ?_
        refine ww_getR (f := 347) wf_X7_80 dX7_comes_112 rfl rfl (ww_up_mo hM hu).1.1 (ww_up_mo hM hu).1.2 ((ww_up_mo hM hu).2.1 27 rfl) ?_
        refine ww_iload (i := 4) dX7_comes_115 rfl ?_
        refine ww_pald (k := 27) hM hu dX7_comes_117 rfl rfl rfl (show _ < 8 by omega) (rfl) ?_
        refine ww_pald (k := 28) hM hu dX7_comes_118 rfl rfl hi.2 (show _ < 60 by omega) (rfl) ?_
        refine ww_iload_n (i := 2) dX7_comes_119 rfl rfl ?_
        refine ww_icmp_eq_t (tgt := 127) dX7_comes_120 (by decide) c2 ?_
        refine ww_iconst (v := 0) dX7_comes_127 (by decide) ?_
        refine ww_istore_n (i := 3) (lv2 := [(0, _), (1, _), (2, _), (3, _), (4, _)]) dX7_comes_128 rfl (Nat.le_of_ble_eq_true rfl) rfl ?_
        refine ww_iinc (i := 4) (v := _ + 1) (lv2 := [(0, _), (1, _), (2, _), (3, _), (4, _)]) dX7_comes_129 rfl (by rfl) (Nat.le_of_ble_eq_true rfl) rfl ?_
        refine ww_goto (tgt := 94) dX7_comes_132 (by decide) ?_
        -- at 94, locals [0, 1, 2, 3, 4]
        rw [nI_1]
        exact hl
      · rw [ww_b_t (P := A ∧ ∀ j, j < i + 1 → ¬ S1 28 (q_wq S1 j) = v) ⟨c1.1, fun j hj => by
          by_cases e : j = i
          · rw [e]; exact c2
          · exact c1.2 j (by omega)⟩] at hl
        refine ww_iload (i := 4) dX7_comes_94 rfl ?_
        refine ww_aload_n (i := 0) dX7_comes_96 rfl rfl ?_
        refine ww_pgetI (k := 26) hM hu dX7_comes_97 wf_X7_139 rfl rfl hW.1 ?_
        refine ww_icmp_ge_f (tgt := 135) dX7_comes_100 (by decide) (nI_ge (by omega) (by omega)) ?_
        refine ww_iload_n (i := 3) dX7_comes_103 rfl rfl ?_
        refine ww_if_eq_f (tgt := 127) dX7_comes_104 (by decide) (by rw [ww_b_t c1]; decide) ?_
        refine ww_aload_n (i := 0) dX7_comes_107 rfl rfl ?_
        refine ww_getR (f := 348) wf_X7_83 dX7_comes_108 rfl rfl (ww_up_mo hM hu).1.1 (ww_up_mo hM hu).1.2 ((ww_up_mo hM hu).2.1 28 rfl) ?_
        refine ww_aload_n (i := 0) dX7_comes_111 rfl rfl ?_
        refine ww_getR (f := 347) wf_X7_80 dX7_comes_112 rfl rfl (ww_up_mo hM hu).1.1 (ww_up_mo hM hu).1.2 ((ww_up_mo hM hu).2.1 27 rfl) ?_
        refine ww_iload (i := 4) dX7_comes_115 rfl ?_
        refine ww_pald (k := 27) hM hu dX7_comes_117 rfl rfl rfl (show _ < 8 by omega) (rfl) ?_
        refine ww_pald (k := 28) hM hu dX7_comes_118 rfl rfl hi.2 (show _ < 60 by omega) (rfl) ?_
        refine ww_iload_n (i := 2) dX7_comes_119 rfl rfl ?_
        refine ww_icmp_eq_f (tgt := 127) dX7_comes_120 (by decide) c2 ?_
        refine ww_iconst (v := 1) dX7_comes_123 (by decide) ?_
        refine ww_goto (tgt := 128) dX7_comes_124 (by decide) ?_
        refine ww_istore_n (i := 3) (lv2 := [(0, _), (1, _), (2, _), (3, _), (4, _)]) dX7_comes_128 rfl (Nat.le_of_ble_eq_true rfl) rfl ?_
        refine ww_iinc (i := 4) (v := _ + 1) (lv2 := [(0, _), (1, _), (2, _), (3, _), (4, _)]) dX7_comes_129 rfl (by rfl) (Nat.le_of_ble_eq_true rfl) rfl ?_
        refine ww_goto (tgt := 94) dX7_comes_132 (by decide) ?_
        -- at 94, locals [0, 1, 2, 3, 4]
        rw [nI_1]
        exact hl
    · rw [ww_b_f (P := A ∧ ∀ j, j < i + 1 → ¬ S1 28 (q_wq S1 j) = v) (fun z => c1 ⟨z.1, fun j hj => z.2 j (by omega)⟩)] at hl
      refine ww_iload (i := 4) dX7_comes_94 rfl ?_
      refine ww_aload_n (i := 0) dX7_comes_96 rfl rfl ?_
      refine ww_pgetI (k := 26) hM hu dX7_comes_97 wf_X7_139 rfl rfl hW.1 ?_
      refine ww_icmp_ge_f (tgt := 135) dX7_comes_100 (by decide) (nI_ge (by omega) (by omega)) ?_
      refine ww_iload_n (i := 3) dX7_comes_103 rfl rfl ?_
      refine ww_if_eq_t (tgt := 127) dX7_comes_104 (by decide) (ww_b_f c1) ?_
      refine ww_iconst (v := 0) dX7_comes_127 (by decide) ?_
      refine ww_istore_n (i := 3) (lv2 := [(0, _), (1, _), (2, _), (3, _), (4, _)]) dX7_comes_128 rfl (Nat.le_of_ble_eq_true rfl) rfl ?_
      refine ww_iinc (i := 4) (v := _ + 1) (lv2 := [(0, _), (1, _), (2, _), (3, _), (4, _)]) dX7_comes_129 rfl (by rfl) (Nat.le_of_ble_eq_true rfl) rfl ?_
      refine ww_goto (tgt := 94) dX7_comes_132 (by decide) ?_
      -- at 94, locals [0, 1, 2, 3, 4]
      rw [nI_1]
      exact hl
def q_comesA (S : Nat → Nat → Int32) (w t : Nat) : Prop := w < 8 ∧ ¬ q_wait S w (nI t) ∧ S 12 t = 0 ∧ ¬ S 5 t = -2
def q_comesC (S : Nat → Nat → Int32) (w t : Nat) (v : Int32) : Prop := q_comesA S w t ∧ ∀ j, j < w → ¬ S 28 (q_wq S j) = v
set_option maxRecDepth 20000 in
set_option maxHeartbeats 4000000 in
theorem m_comes_1 (hM : ww_mo x ar M.1 M.2.2.1) (hG : q_G (q_S M x ar) n) {p : Int32} (v : Int32) (hc : q_noP n p) : ww_C g wy_X7_comes 4 0 0 [.ref x, .int p, .int v] M (ww_ru x ar M (some (.int 0)) (q_us (q_S M x ar) 0 1)) ww_no := by
  refine ww_ent (by decide +kernel) (Nat.le_of_ble_eq_true rfl) ⟨rfl, rfl, rfl, trivial⟩ ?_
  have hu : ww_up x ar M (q_S M x ar) M := ww_up_rf
  refine ww_aload_n (i := 0) dX7_comes_0 rfl rfl ?_
  refine ww_aload_n (i := 0) dX7_comes_1 rfl rfl ?_
  refine ww_iload_n (i := 1) dX7_comes_2 rfl rfl ?_
  refine ww_iconst (v := 0) dX7_comes_3 (by decide) ?_
  refine ww_callV (κ := 8) (r := (RX7, TX7, 33)) wk_X7_148 dX7_comes_4 (u_kind_1 hM hu hG 0 hc) rfl rfl (show ww_is _ _ 8 from (ww_up_mo hM hu).1).1 (show ww_is _ _ 8 from (ww_up_mo hM hu).1).2 rfl rfl (by omega) (by omega) (by omega) (by first | exact Nat.le_of_ble_eq_true rfl | (simp [ww_rf_cat, Value.category])) rfl (fun E M9 h9 => h9.elim) (fun v9 M9 h9 => ?_)
  obtain ⟨rfl, rfl⟩ := h9
  refine ww_pputI (k := 0) hM hu dX7_comes_7 wf_X7_98 wt_8_0 rfl rfl rfl rfl (fun M1 hu => ?_)
  refine ww_aload_n (i := 0) dX7_comes_10 rfl rfl ?_
  refine ww_aload_n (i := 0) dX7_comes_11 rfl rfl ?_
  refine ww_pgetI (k := 0) hM hu dX7_comes_12 wf_X7_98 rfl rfl (q_us_s) ?_
  refine ww_if_ne_t (tgt := 32) dX7_comes_15 (by decide) (by decide) ?_
  refine ww_aload_n (i := 0) dX7_comes_32 rfl rfl ?_
  refine ww_pgetI (k := 0) hM hu dX7_comes_33 wf_X7_98 rfl rfl (q_us_s) ?_
  refine ww_pputI (k := 0) hM hu dX7_comes_36 wf_X7_98 wt_8_0 rfl rfl rfl rfl (fun M1 hu => ?_)
  refine ww_aload_n (i := 0) dX7_comes_39 rfl rfl ?_
  refine ww_pgetI (k := 0) hM hu dX7_comes_40 wf_X7_98 rfl rfl (q_us_s) ?_
  refine ww_if_le_f (tgt := 48) dX7_comes_43 (by decide) (by decide) ?_
  refine ww_iconst (v := 0) dX7_comes_46 (by decide) ?_
  exact ww_ireturn dX7_comes_47 rfl (by first | rfl | exact ww_b_nar) ⟨rfl, ww_up_cg hu q_us_us⟩
set_option maxRecDepth 20000 in
set_option maxHeartbeats 4000000 in
theorem m_comes_2 (hM : ww_mo x ar M.1 M.2.2.1) (hG : q_G (q_S M x ar) n) {p : Nat} {v : Int32} (hp : p < n) (hc : ¬ ((q_S M x ar) 2 p = 0 ∧ q_rg 0 99 v)) : ww_C g wy_X7_comes 4 0 0 [.ref x, .int (nI p), .int v] M (ww_ru x ar M (some (.int 0)) (q_us (q_S M x ar) 0 2)) ww_no := by
  refine ww_ent (by decide +kernel) (Nat.le_of_ble_eq_true rfl) ⟨rfl, rfl, rfl, trivial⟩ ?_
  have hu : ww_up x ar M (q_S M x ar) M := ww_up_rf
  have h6 := hG.2.1
  by_cases c1 : (q_S M x ar) 2 p = 0
  · have c2 : ¬ q_rg 0 99 v := fun z => hc ⟨c1, z⟩
    refine ww_aload_n (i := 0) dX7_comes_0 rfl rfl ?_
    refine ww_aload_n (i := 0) dX7_comes_1 rfl rfl ?_
    refine ww_iload_n (i := 1) dX7_comes_2 rfl rfl ?_
    refine ww_iconst (v := 0) dX7_comes_3 (by decide) ?_
    refine ww_callV (κ := 8) (r := (RX7, TX7, 33)) wk_X7_148 dX7_comes_4 (u_kind_0 hM hu hG hp c1) rfl rfl (show ww_is _ _ 8 from (ww_up_mo hM hu).1).1 (show ww_is _ _ 8 from (ww_up_mo hM hu).1).2 rfl rfl (by omega) (by omega) (by omega) (by first | exact Nat.le_of_ble_eq_true rfl | (simp [ww_rf_cat, Value.category])) rfl (fun E M9 h9 => h9.elim) (fun v9 M9 h9 => ?_)
    obtain ⟨rfl, rfl⟩ := h9
    refine ww_pputI (k := 0) hM hu dX7_comes_7 wf_X7_98 wt_8_0 rfl rfl rfl rfl (fun M1 hu => ?_)
    refine ww_aload_n (i := 0) dX7_comes_10 rfl rfl ?_
    refine ww_aload_n (i := 0) dX7_comes_11 rfl rfl ?_
    refine ww_pgetI (k := 0) hM hu dX7_comes_12 wf_X7_98 rfl rfl (q_us_s) ?_
    refine ww_if_ne_f (tgt := 32) dX7_comes_15 (by decide) (by decide) ?_
    refine ww_iload_n (i := 2) dX7_comes_18 rfl rfl ?_
    refine ww_iconst (v := 0) dX7_comes_19 (by decide) ?_
    refine ww_bipush (v := 99) dX7_comes_20 (by decide) ?_
    refine ww_callS wk_X7_105 rfl dX7_comes_22 (m_in_f c2) rfl rfl (by omega) (by omega) (by omega) (by first | exact Nat.le_of_ble_eq_true rfl | (simp [ww_rf_cat, Value.category])) rfl (fun E M9 h9 => h9.elim) (fun v9 M9 h9 => ?_)
    obtain ⟨rfl, rfl⟩ := h9
    refine ww_if_ne_f (tgt := 32) dX7_comes_25 (by decide) (by decide) ?_
    refine ww_iconst (v := 2) dX7_comes_28 (by decide) ?_
    refine ww_goto (tgt := 36) dX7_comes_29 (by decide) ?_
    refine ww_pputI (k := 0) hM hu dX7_comes_36 wf_X7_98 wt_8_0 rfl rfl rfl rfl (fun M1 hu => ?_)
    refine ww_aload_n (i := 0) dX7_comes_39 rfl rfl ?_
    refine ww_pgetI (k := 0) hM hu dX7_comes_40 wf_X7_98 rfl rfl (q_us_s) ?_
    refine ww_if_le_f (tgt := 48) dX7_comes_43 (by decide) (by decide) ?_
    refine ww_iconst (v := 0) dX7_comes_46 (by decide) ?_
    exact ww_ireturn dX7_comes_47 rfl (by first | rfl | exact ww_b_nar) ⟨rfl, ww_up_cg hu q_us_us⟩
  · refine ww_aload_n (i := 0) dX7_comes_0 rfl rfl ?_
    refine ww_aload_n (i := 0) dX7_comes_1 rfl rfl ?_
    refine ww_iload_n (i := 1) dX7_comes_2 rfl rfl ?_
    refine ww_iconst (v := 0) dX7_comes_3 (by decide) ?_
    refine ww_callV (κ := 8) (r := (RX7, TX7, 33)) wk_X7_148 dX7_comes_4 (u_kind_2 hM hu hG hp c1) rfl rfl (show ww_is _ _ 8 from (ww_up_mo hM hu).1).1 (show ww_is _ _ 8 from (ww_up_mo hM hu).1).2 rfl rfl (by omega) (by omega) (by omega) (by first | exact Nat.le_of_ble_eq_true rfl | (simp [ww_rf_cat, Value.category])) rfl (fun E M9 h9 => h9.elim) (fun v9 M9 h9 => ?_)
    obtain ⟨rfl, rfl⟩ := h9
    refine ww_pputI (k := 0) hM hu dX7_comes_7 wf_X7_98 wt_8_0 rfl rfl rfl rfl (fun M1 hu => ?_)
    refine ww_aload_n (i := 0) dX7_comes_10 rfl rfl ?_
    refine ww_aload_n (i := 0) dX7_comes_11 rfl rfl ?_
    refine ww_pgetI (k := 0) hM hu dX7_comes_12 wf_X7_98 rfl rfl (q_us_s) ?_
    refine ww_if_ne_t (tgt := 32) dX7_comes_15 (by decide) (by decide) ?_
    refine ww_aload_n (i := 0) dX7_comes_32 rfl rfl ?_
    refine ww_pgetI (k := 0) hM hu dX7_comes_33 wf_X7_98 rfl rfl (q_us_s) ?_
    refine ww_pputI (k := 0) hM hu dX7_comes_36 wf_X7_98 wt_8_0 rfl rfl rfl rfl (fun M1 hu => ?_)
    refine ww_aload_n (i := 0) dX7_comes_39 rfl rfl ?_
    refine ww_pgetI (k := 0) hM hu dX7_comes_40 wf_X7_98 rfl rfl (q_us_s) ?_
    refine ww_if_le_f (tgt := 48) dX7_comes_43 (by decide) (by decide) ?_
    refine ww_iconst (v := 0) dX7_comes_46 (by decide) ?_
    exact ww_ireturn dX7_comes_47 rfl (by first | rfl | exact ww_b_nar) ⟨rfl, ww_up_cg hu q_us_us⟩
set_option maxRecDepth 20000 in
set_option maxHeartbeats 4000000 in
theorem m_comes_a (hM : ww_mo x ar M.1 M.2.2.1) (hG : q_G (q_S M x ar) n) (hW : q_W (q_S M x ar) n w) {p : Nat} {v : Int32} (hp : p < n) (hc : (q_S M x ar) 2 p = 0 ∧ q_rg 0 99 v) (kk : ∀ M1, ww_up x ar M (q_us (q_S M x ar) 0 0) M1 → ww_A g wy_X7_comes 4 0 0 M1 135 [(0, .ref x), (1, .int (nI p)), (2, .int v), (3, .int (ww_b (q_comesC (q_S M x ar) w p v)))] [] Q ww_no) : ww_C g wy_X7_comes 4 0 0 [.ref x, .int (nI p), .int v] M Q ww_no := by
  refine ww_ent (by decide +kernel) (Nat.le_of_ble_eq_true rfl) ⟨rfl, rfl, rfl, trivial⟩ ?_
  have hu : ww_up x ar M (q_S M x ar) M := ww_up_rf
  have h6 := hG.2.1
  have h8 := hW.2.1
  have e : ∀ B : Prop, ww_b B = ww_b (B ∧ ∀ j, j < 0 → ¬ (q_S M x ar) 28 (q_wq (q_S M x ar) j) = v) := fun B => ww_b_cg ⟨fun z => ⟨z, fun j hj => by omega⟩, fun z => z.1⟩
  have hl : ∀ M1, ww_up x ar M (q_us (q_S M x ar) 0 0) M1 → ww_A g wy_X7_comes 4 0 0 M1 94 [(0, .ref x), (1, .int (nI p)), (2, .int v), (3, .int (ww_b (q_comesA (q_S M x ar) w p))), (4, .int (nI 0))] [] Q ww_no := fun M1 hu => by
    rw [e]
    exact m_comes_l (S1 := q_us (q_S M x ar) 0 0) hM hu hW h6 _ (kk M1 hu) w 0 (by omega)
  rw [nI_0] at hl
  refine ww_aload_n (i := 0) dX7_comes_0 rfl rfl ?_
  refine ww_aload_n (i := 0) dX7_comes_1 rfl rfl ?_
  refine ww_iload_n (i := 1) dX7_comes_2 rfl rfl ?_
  refine ww_iconst (v := 0) dX7_comes_3 (by decide) ?_
  refine ww_callV (κ := 8) (r := (RX7, TX7, 33)) wk_X7_148 dX7_comes_4 (u_kind_0 hM hu hG hp hc.1) rfl rfl (show ww_is _ _ 8 from (ww_up_mo hM hu).1).1 (show ww_is _ _ 8 from (ww_up_mo hM hu).1).2 rfl rfl (by omega) (by omega) (by omega) (by first | exact Nat.le_of_ble_eq_true rfl | (simp [ww_rf_cat, Value.category])) rfl (fun E M9 h9 => h9.elim) (fun v9 M9 h9 => ?_)
  obtain ⟨rfl, rfl⟩ := h9
  refine ww_pputI (k := 0) hM hu dX7_comes_7 wf_X7_98 wt_8_0 rfl rfl rfl rfl (fun M1 hu => ?_)
  refine ww_aload_n (i := 0) dX7_comes_10 rfl rfl ?_
  refine ww_aload_n (i := 0) dX7_comes_11 rfl rfl ?_
  refine ww_pgetI (k := 0) hM hu dX7_comes_12 wf_X7_98 rfl rfl (q_us_s) ?_
  refine ww_if_ne_f (tgt := 32) dX7_comes_15 (by decide) (by decide) ?_
  refine ww_iload_n (i := 2) dX7_comes_18 rfl rfl ?_
  refine ww_iconst (v := 0) dX7_comes_19 (by decide) ?_
  refine ww_bipush (v := 99) dX7_comes_20 (by decide) ?_
  refine ww_callS wk_X7_105 rfl dX7_comes_22 (m_in_t hc.2.1 hc.2.2) rfl rfl (by omega) (by omega) (by omega) (by first | exact Nat.le_of_ble_eq_true rfl | (simp [ww_rf_cat, Value.category])) rfl (fun E M9 h9 => h9.elim) (fun v9 M9 h9 => ?_)
  obtain ⟨rfl, rfl⟩ := h9
  refine ww_if_ne_t (tgt := 32) dX7_comes_25 (by decide) (by decide) ?_
  refine ww_aload_n (i := 0) dX7_comes_32 rfl rfl ?_
  refine ww_pgetI (k := 0) hM hu dX7_comes_33 wf_X7_98 rfl rfl (q_us_s) ?_
  refine ww_pputI (k := 0) hM hu dX7_comes_36 wf_X7_98 wt_8_0 rfl rfl rfl rfl (fun M1 hu => ?_)
  refine ww_aload_n (i := 0) dX7_comes_39 rfl rfl ?_
  refine ww_pgetI (k := 0) hM hu dX7_comes_40 wf_X7_98 rfl rfl (q_us_s) ?_
  refine ww_if_le_t (tgt := 48) dX7_comes_43 (by decide) (by decide) ?_
  -- at 48, locals [0, 1, 2]
  rw [q_us_us] at hu
  by_cases c1 : w < 8
  · by_cases c2 : q_wait (q_S M x ar) w (nI p)
    · refine ww_aload_n (i := 0) dX7_comes_48 rfl rfl ?_
      refine ww_pgetI (k := 26) hM hu dX7_comes_49 wf_X7_139 rfl rfl hW.1 ?_
      refine ww_bipush (v := 8) dX7_comes_52 (by decide) ?_
      refine ww_icmp_ge_f (tgt := 89) dX7_comes_54 (by decide) (nI_ge (b := 8) c1 (by decide)) ?_
      refine ww_aload_n (i := 0) dX7_comes_57 rfl rfl ?_
      refine ww_iload_n (i := 1) dX7_comes_58 rfl rfl ?_
      refine ww_callV (κ := 8) (r := (RX7, TX7, 33)) wk_X7_142 dX7_comes_59 (u_waits_t hM hu hW.1 h8 c2) rfl rfl (show ww_is _ _ 8 from (ww_up_mo hM hu).1).1 (show ww_is _ _ 8 from (ww_up_mo hM hu).1).2 rfl rfl (by omega) (by omega) (by omega) (by first | exact Nat.le_of_ble_eq_true rfl | (simp [ww_rf_cat, Value.category])) rfl (fun E M9 h9 => h9.elim) (fun v9 M9 h9 => ?_)
      obtain ⟨rfl, rfl⟩ := h9
      refine ww_if_ne_t (tgt := 89) dX7_comes_62 (by decide) (by decide) ?_
      refine ww_iconst (v := 0) dX7_comes_89 (by decide) ?_
      refine ww_istore_n (i := 3) (lv2 := [(0, _), (1, _), (2, _), (3, _)]) dX7_comes_90 rfl (Nat.le_of_ble_eq_true rfl) rfl ?_
      refine ww_iconst (v := 0) dX7_comes_91 (by decide) ?_
      refine ww_istore (i := 4) (lv2 := [(0, _), (1, _), (2, _), (3, _), (4, _)]) dX7_comes_92 (Nat.le_of_ble_eq_true rfl) rfl ?_
      -- at 94, locals [0, 1, 2, 3, 4]
      have h := hl _ hu
      rw [ww_b_f (fun z => z.2.1 c2)] at h
      exact h
    · by_cases c3 : (q_S M x ar) 12 p = 0
      · by_cases c4 : (q_S M x ar) 5 p = -2
        · refine ww_aload_n (i := 0) dX7_comes_48 rfl rfl ?_
          refine ww_pgetI (k := 26) hM hu dX7_comes_49 wf_X7_139 rfl rfl hW.1 ?_
          refine ww_bipush (v := 8) dX7_comes_52 (by decide) ?_
          refine ww_icmp_ge_f (tgt := 89) dX7_comes_54 (by decide) (nI_ge (b := 8) c1 (by decide)) ?_
          refine ww_aload_n (i := 0) dX7_comes_57 rfl rfl ?_
          refine ww_iload_n (i := 1) dX7_comes_58 rfl rfl ?_
          refine ww_callV (κ := 8) (r := (RX7, TX7, 33)) wk_X7_142 dX7_comes_59 (u_waits_f hM hu hW.1 h8 c2) rfl rfl (show ww_is _ _ 8 from (ww_up_mo hM hu).1).1 (show ww_is _ _ 8 from (ww_up_mo hM hu).1).2 rfl rfl (by omega) (by omega) (by omega) (by first | exact Nat.le_of_ble_eq_true rfl | (simp [ww_rf_cat, Value.category])) rfl (fun E M9 h9 => h9.elim) (fun v9 M9 h9 => ?_)
          obtain ⟨rfl, rfl⟩ := h9
          refine ww_if_ne_f (tgt := 89) dX7_comes_62 (by decide) (by decide) ?_
          refine ww_aload_n (i := 0) dX7_comes_65 rfl rfl ?_
          refine ww_getR (f := 332) wf_X7_41 dX7_comes_66 rfl rfl (ww_up_mo hM hu).1.1 (ww_up_mo hM hu).1.2 ((ww_up_mo hM hu).2.1 12 rfl) ?_
          refine ww_iload_n (i := 1) dX7_comes_69 rfl rfl ?_
          refine ww_pzld (k := 12) hM hu dX7_comes_70 rfl rfl rfl (show _ < 60 by omega) ((q_us_n (by decide)).trans (rfl)) ?_
          refine ww_if_ne_f (tgt := 89) dX7_comes_71 (by decide) c3 ?_
          refine ww_aload_n (i := 0) dX7_comes_74 rfl rfl ?_
          refine ww_getR (f := 325) wf_X7_19 dX7_comes_75 rfl rfl (ww_up_mo hM hu).1.1 (ww_up_mo hM hu).1.2 ((ww_up_mo hM hu).2.1 5 rfl) ?_
          refine ww_iload_n (i := 1) dX7_comes_78 rfl rfl ?_
          refine ww_pald (k := 5) hM hu dX7_comes_79 rfl rfl rfl (show _ < 60 by omega) ((q_us_n (by decide)).trans (rfl)) ?_
          refine ww_bipush (v := (-2)) dX7_comes_80 (by decide) ?_
          refine ww_icmp_eq_t (tgt := 89) dX7_comes_82 (by decide) c4 ?_
          refine ww_iconst (v := 0) dX7_comes_89 (by decide) ?_
          refine ww_istore_n (i := 3) (lv2 := [(0, _), (1, _), (2, _), (3, _)]) dX7_comes_90 rfl (Nat.le_of_ble_eq_true rfl) rfl ?_
          refine ww_iconst (v := 0) dX7_comes_91 (by decide) ?_
          refine ww_istore (i := 4) (lv2 := [(0, _), (1, _), (2, _), (3, _), (4, _)]) dX7_comes_92 (Nat.le_of_ble_eq_true rfl) rfl ?_
          -- at 94, locals [0, 1, 2, 3, 4]
          have h := hl _ hu
          rw [ww_b_f (fun z => z.2.2.2 c4)] at h
          exact h
        · refine ww_aload_n (i := 0) dX7_comes_48 rfl rfl ?_
          refine ww_pgetI (k := 26) hM hu dX7_comes_49 wf_X7_139 rfl rfl hW.1 ?_
          refine ww_bipush (v := 8) dX7_comes_52 (by decide) ?_
          refine ww_icmp_ge_f (tgt := 89) dX7_comes_54 (by decide) (nI_ge (b := 8) c1 (by decide)) ?_
          refine ww_aload_n (i := 0) dX7_comes_57 rfl rfl ?_
          refine ww_iload_n (i := 1) dX7_comes_58 rfl rfl ?_
          refine ww_callV (κ := 8) (r := (RX7, TX7, 33)) wk_X7_142 dX7_comes_59 (u_waits_f hM hu hW.1 h8 c2) rfl rfl (show ww_is _ _ 8 from (ww_up_mo hM hu).1).1 (show ww_is _ _ 8 from (ww_up_mo hM hu).1).2 rfl rfl (by omega) (by omega) (by omega) (by first | exact Nat.le_of_ble_eq_true rfl | (simp [ww_rf_cat, Value.category])) rfl (fun E M9 h9 => h9.elim) (fun v9 M9 h9 => ?_)
          obtain ⟨rfl, rfl⟩ := h9
          refine ww_if_ne_f (tgt := 89) dX7_comes_62 (by decide) (by decide) ?_
          refine ww_aload_n (i := 0) dX7_comes_65 rfl rfl ?_
          refine ww_getR (f := 332) wf_X7_41 dX7_comes_66 rfl rfl (ww_up_mo hM hu).1.1 (ww_up_mo hM hu).1.2 ((ww_up_mo hM hu).2.1 12 rfl) ?_
          refine ww_iload_n (i := 1) dX7_comes_69 rfl rfl ?_
          refine ww_pzld (k := 12) hM hu dX7_comes_70 rfl rfl rfl (show _ < 60 by omega) ((q_us_n (by decide)).trans (rfl)) ?_
          refine ww_if_ne_f (tgt := 89) dX7_comes_71 (by decide) c3 ?_
          refine ww_aload_n (i := 0) dX7_comes_74 rfl rfl ?_
          refine ww_getR (f := 325) wf_X7_19 dX7_comes_75 rfl rfl (ww_up_mo hM hu).1.1 (ww_up_mo hM hu).1.2 ((ww_up_mo hM hu).2.1 5 rfl) ?_
          refine ww_iload_n (i := 1) dX7_comes_78 rfl rfl ?_
          refine ww_pald (k := 5) hM hu dX7_comes_79 rfl rfl rfl (show _ < 60 by omega) ((q_us_n (by decide)).trans (rfl)) ?_
          refine ww_bipush (v := (-2)) dX7_comes_80 (by decide) ?_
          refine ww_icmp_eq_f (tgt := 89) dX7_comes_82 (by decide) c4 ?_
          refine ww_iconst (v := 1) dX7_comes_85 (by decide) ?_
          refine ww_goto (tgt := 90) dX7_comes_86 (by decide) ?_
          refine ww_istore_n (i := 3) (lv2 := [(0, _), (1, _), (2, _), (3, _)]) dX7_comes_90 rfl (Nat.le_of_ble_eq_true rfl) rfl ?_
          refine ww_iconst (v := 0) dX7_comes_91 (by decide) ?_
          refine ww_istore (i := 4) (lv2 := [(0, _), (1, _), (2, _), (3, _), (4, _)]) dX7_comes_92 (Nat.le_of_ble_eq_true rfl) rfl ?_
          -- at 94, locals [0, 1, 2, 3, 4]
          have h := hl _ hu
          rw [ww_b_t ⟨c1, c2, c3, c4⟩] at h
          exact h
      · refine ww_aload_n (i := 0) dX7_comes_48 rfl rfl ?_
        refine ww_pgetI (k := 26) hM hu dX7_comes_49 wf_X7_139 rfl rfl hW.1 ?_
        refine ww_bipush (v := 8) dX7_comes_52 (by decide) ?_
        refine ww_icmp_ge_f (tgt := 89) dX7_comes_54 (by decide) (nI_ge (b := 8) c1 (by decide)) ?_
        refine ww_aload_n (i := 0) dX7_comes_57 rfl rfl ?_
        refine ww_iload_n (i := 1) dX7_comes_58 rfl rfl ?_
        refine ww_callV (κ := 8) (r := (RX7, TX7, 33)) wk_X7_142 dX7_comes_59 (u_waits_f hM hu hW.1 h8 c2) rfl rfl (show ww_is _ _ 8 from (ww_up_mo hM hu).1).1 (show ww_is _ _ 8 from (ww_up_mo hM hu).1).2 rfl rfl (by omega) (by omega) (by omega) (by first | exact Nat.le_of_ble_eq_true rfl | (simp [ww_rf_cat, Value.category])) rfl (fun E M9 h9 => h9.elim) (fun v9 M9 h9 => ?_)
        obtain ⟨rfl, rfl⟩ := h9
        refine ww_if_ne_f (tgt := 89) dX7_comes_62 (by decide) (by decide) ?_
        refine ww_aload_n (i := 0) dX7_comes_65 rfl rfl ?_
        refine ww_getR (f := 332) wf_X7_41 dX7_comes_66 rfl rfl (ww_up_mo hM hu).1.1 (ww_up_mo hM hu).1.2 ((ww_up_mo hM hu).2.1 12 rfl) ?_
        refine ww_iload_n (i := 1) dX7_comes_69 rfl rfl ?_
        refine ww_pzld (k := 12) hM hu dX7_comes_70 rfl rfl rfl (show _ < 60 by omega) ((q_us_n (by decide)).trans (rfl)) ?_
        refine ww_if_ne_t (tgt := 89) dX7_comes_71 (by decide) c3 ?_
        refine ww_iconst (v := 0) dX7_comes_89 (by decide) ?_
        refine ww_istore_n (i := 3) (lv2 := [(0, _), (1, _), (2, _), (3, _)]) dX7_comes_90 rfl (Nat.le_of_ble_eq_true rfl) rfl ?_
        refine ww_iconst (v := 0) dX7_comes_91 (by decide) ?_
        refine ww_istore (i := 4) (lv2 := [(0, _), (1, _), (2, _), (3, _), (4, _)]) dX7_comes_92 (Nat.le_of_ble_eq_true rfl) rfl ?_
        -- at 94, locals [0, 1, 2, 3, 4]
        have h := hl _ hu
        rw [ww_b_f (fun z => c3 z.2.2.1)] at h
        exact h
  · refine ww_aload_n (i := 0) dX7_comes_48 rfl rfl ?_
    refine ww_pgetI (k := 26) hM hu dX7_comes_49 wf_X7_139 rfl rfl hW.1 ?_
    refine ww_bipush (v := 8) dX7_comes_52 (by decide) ?_
    refine ww_icmp_ge_t (tgt := 89) dX7_comes_54 (by decide) (nI_le (a := 8) (by omega) (by omega)) ?_
    refine ww_iconst (v := 0) dX7_comes_89 (by decide) ?_
    refine ww_istore_n (i := 3) (lv2 := [(0, _), (1, _), (2, _), (3, _)]) dX7_comes_90 rfl (Nat.le_of_ble_eq_true rfl) rfl ?_
    refine ww_iconst (v := 0) dX7_comes_91 (by decide) ?_
    refine ww_istore (i := 4) (lv2 := [(0, _), (1, _), (2, _), (3, _), (4, _)]) dX7_comes_92 (Nat.le_of_ble_eq_true rfl) rfl ?_
    -- at 94, locals [0, 1, 2, 3, 4]
    have h := hl _ hu
    rw [ww_b_f (fun z => c1 z.1)] at h
    exact h
set_option maxRecDepth 20000 in
theorem m_comes_3 (hM : ww_mo x ar M.1 M.2.2.1) (hG : q_G (q_S M x ar) n) (hW : q_W (q_S M x ar) n w) {p : Nat} {v : Int32} (hp : p < n) (hc : (q_S M x ar) 2 p = 0 ∧ q_rg 0 99 v) (hd : ¬ q_comesC (q_S M x ar) w p v) : ww_C g wy_X7_comes 4 0 0 [.ref x, .int (nI p), .int v] M (ww_ru x ar M (some (.int 0)) (q_us (q_S M x ar) 0 3)) ww_no := by
  refine m_comes_a hM hG hW hp hc (fun M1 hu => ?_)
  rw [ww_b_f hd]
  refine ww_aload_n (i := 0) dX7_comes_135 rfl rfl ?_
  refine ww_iload_n (i := 3) dX7_comes_136 rfl rfl ?_
  refine ww_if_eq_t (tgt := 144) dX7_comes_137 (by decide) rfl ?_
  refine ww_iconst (v := 3) dX7_comes_144 (by decide) ?_
  refine ww_pputI (k := 0) hM hu dX7_comes_145 wf_X7_98 wt_8_0 rfl rfl rfl rfl (fun M1 hu => ?_)
  refine ww_aload_n (i := 0) dX7_comes_148 rfl rfl ?_
  refine ww_pgetI (k := 0) hM hu dX7_comes_149 wf_X7_98 rfl rfl (q_us_s) ?_
  refine ww_if_le_f (tgt := 157) dX7_comes_152 (by decide) (by decide) ?_
  refine ww_iconst (v := 0) dX7_comes_155 (by decide) ?_
  exact ww_ireturn dX7_comes_156 rfl (by first | rfl | exact ww_b_nar) ⟨rfl, ww_up_cg hu q_us_us⟩
def q_comes (S : Nat → Nat → Int32) (w t : Nat) (v : Int32) : Nat → Nat → Int32 := q_us (ww_u2 (ww_u2 S 27 w (nI t)) 28 t v) 26 (nI (w + 1))
set_option maxRecDepth 20000 in
theorem m_comes_0 (hM : ww_mo x ar M.1 M.2.2.1) (hG : q_G (q_S M x ar) n) (hW : q_W (q_S M x ar) n w) {p : Nat} {v : Int32} (hp : p < n) (hc : (q_S M x ar) 2 p = 0 ∧ q_rg 0 99 v) (hd : q_comesC (q_S M x ar) w p v) : ww_C g wy_X7_comes 4 0 0 [.ref x, .int (nI p), .int v] M (ww_ru x ar M (some (.int (nI (w + 1)))) (q_comes (q_us (q_S M x ar) 0 0) w p v)) ww_no := by
  have h6 := hG.2.1
  have h8 := hd.1.1
  refine m_comes_a hM hG hW hp hc (fun M1 hu => ?_)
  rw [ww_b_t hd]
  refine ww_aload_n (i := 0) dX7_comes_135 rfl rfl ?_
  refine ww_iload_n (i := 3) dX7_comes_136 rfl rfl ?_
  refine ww_if_eq_f (tgt := 144) dX7_comes_137 (by decide) (by decide) ?_
  refine ww_iconst (v := 0) dX7_comes_140 (by decide) ?_
  refine ww_goto (tgt := 145) dX7_comes_141 (by decide) ?_
  refine ww_pputI (k := 0) hM hu dX7_comes_145 wf_X7_98 wt_8_0 rfl rfl rfl rfl (fun M1 hu => ?_)
  refine ww_aload_n (i := 0) dX7_comes_148 rfl rfl ?_
  refine ww_pgetI (k := 0) hM hu dX7_comes_149 wf_X7_98 rfl rfl (q_us_s) ?_
  refine ww_if_le_t (tgt := 157) dX7_comes_152 (by decide) (by decide) ?_
  -- at 157, locals [0, 1, 2, 3]
  rw [q_us_us] at hu
  refine ww_aload_n (i := 0) dX7_comes_157 rfl rfl ?_
  refine ww_getR (f := 347) wf_X7_80 dX7_comes_158 rfl rfl (ww_up_mo hM hu).1.1 (ww_up_mo hM hu).1.2 ((ww_up_mo hM hu).2.1 27 rfl) ?_
  refine ww_aload_n (i := 0) dX7_comes_161 rfl rfl ?_
  refine ww_pgetI (k := 26) hM hu dX7_comes_162 wf_X7_139 rfl rfl hW.1 ?_
  refine ww_iload_n (i := 1) dX7_comes_165 rfl rfl ?_
  refine ww_past (k := 27) hM hu dX7_comes_166 rfl rfl rfl (show _ < 8 by omega) (fun M1 hu => ?_)
  refine ww_aload_n (i := 0) dX7_comes_167 rfl rfl ?_
  refine ww_getR (f := 348) wf_X7_83 dX7_comes_168 rfl rfl (ww_up_mo hM hu).1.1 (ww_up_mo hM hu).1.2 ((ww_up_mo hM hu).2.1 28 rfl) ?_
  refine ww_iload_n (i := 1) dX7_comes_171 rfl rfl ?_
  refine ww_iload_n (i := 2) dX7_comes_172 rfl rfl ?_
  refine ww_past (k := 28) hM hu dX7_comes_173 rfl rfl rfl (show _ < 60 by omega) (fun M1 hu => ?_)
  refine ww_aload_n (i := 0) dX7_comes_174 rfl rfl ?_
  refine ww_dup dX7_comes_175 (by first | rfl | exact ww_rf_cat _) ?_
  refine ww_pgetI (k := 26) hM hu dX7_comes_176 wf_X7_139 rfl rfl ((ww_u2n (fun z => absurd z.1 (by decide))).trans ((ww_u2n (fun z => absurd z.1 (by decide))).trans hW.1)) ?_
  refine ww_iconst (v := 1) dX7_comes_179 (by decide) ?_
  refine ww_iadd dX7_comes_180 ?_
  -- at 181, locals [0, 1, 2, 3]
  rw [nI_1]
  refine ww_pputI (k := 26) hM hu dX7_comes_181 wf_X7_139 wt_8_26 rfl rfl rfl rfl (fun M1 hu => ?_)
  refine ww_aload_n (i := 0) dX7_comes_184 rfl rfl ?_
  refine ww_pgetI (k := 26) hM hu dX7_comes_185 wf_X7_139 rfl rfl (q_us_s) ?_
  exact ww_ireturn dX7_comes_188 rfl (by first | rfl | exact ww_b_nar) ⟨rfl, hu⟩
end WWZ
