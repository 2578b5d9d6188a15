section WWD
variable {g : ww_G} {M M1 : ww_M} {x : Nat} {ar : Nat → Nat} {n w t : Nat} {S S1 : Nat → Nat → Int32} {v : Int32} {Q : Option Value → ww_M → Prop}
theorem q_W_pl (hW : q_W S n w) : q_W (q_plans S w) n w := by
  refine ⟨(congrFun (q_pl_k (by decide)) 0).trans hW.1, hW.2.1, fun i hi => ?_⟩
  have e : q_plans S w 27 = S 27 := q_pl_k (by decide)
  unfold q_wq
  rw [e]
  exact hW.2.2 i hi
set_option maxRecDepth 20000 in
set_option maxHeartbeats 4000000 in
theorem m_night_0 (hM : ww_mo x ar M.1 M.2.2.1) (hG : q_G (q_S M x ar) n) (hW : q_W (q_S M x ar) n w) (h0 : 0 < w) (hR : q_Rd (q_S M x ar) n) (hf : q_free (q_S M x ar)) {b : Nat} (hb : q_bst (q_us (q_S M x ar) 0 0) w (3 ^ w) = some b) (hd : ∀ i, i < w → q_dg w b i < 3 ∧ q_cnt (fun j => q_dg w b j = q_dg w b i) w ≤ 4) : ww_C g wy_X7_night 4 0 0 [.ref x] M (ww_ru x ar M (some (.int (q_pb (q_us (q_S M x ar) 0 0) w))) (q_us (q_ns (q_plans (q_us (q_S M x ar) 0 0) w) (q_dg w b) w) 26 0)) ww_no := by
  refine ww_ent (by decide +kernel) (Nat.le_of_ble_eq_true rfl) ⟨rfl, trivial⟩ ?_
  have hu : ww_up x ar M (q_S M x ar) M := ww_up_rf
  have h8 := hW.2.1
  obtain ⟨a0, b0, _⟩ := hR 0 (by omega)
  obtain ⟨a1, b1, _⟩ := hR 1 (by omega)
  obtain ⟨a2, b2, _⟩ := hR 2 (by omega)
  have hn : ¬ (q_S M x ar) 26 0 = 0 := by rw [hW.1]; exact nI_ne0 (by omega) (by omega)
  unfold q_free at hf
  refine ww_aload_n (i := 0) dX7_night_0 rfl rfl ?_
  refine ww_aload_n (i := 0) dX7_night_1 rfl rfl ?_
  refine ww_pgetI (k := 26) hM hu dX7_night_2 wf_X7_139 rfl rfl (rfl) ?_
  refine ww_if_eq_f (tgt := 31) dX7_night_5 (by decide) hn ?_
  refine ww_aload_n (i := 0) dX7_night_8 rfl rfl ?_
  refine ww_getR (f := 351) wf_X7_92 dX7_night_9 rfl rfl (ww_up_mo hM hu).1.1 (ww_up_mo hM hu).1.2 ((ww_up_mo hM hu).2.1 31 rfl) ?_
  refine ww_iconst (v := 0) dX7_night_12 (by decide) ?_
  refine ww_pald (k := 31) hM hu dX7_night_13 rfl rfl (show (0 : Int32) = nI 0 from rfl) (by decide) b0 ?_
  refine ww_aload_n (i := 0) dX7_night_14 rfl rfl ?_
  refine ww_getR (f := 351) wf_X7_92 dX7_night_15 rfl rfl (ww_up_mo hM hu).1.1 (ww_up_mo hM hu).1.2 ((ww_up_mo hM hu).2.1 31 rfl) ?_
  refine ww_iconst (v := 1) dX7_night_18 (by decide) ?_
  refine ww_pald (k := 31) hM hu dX7_night_19 rfl rfl (show (1 : Int32) = nI 1 from rfl) (by decide) b1 ?_
  refine ww_iadd dX7_night_20 ?_
  refine ww_aload_n (i := 0) dX7_night_21 rfl rfl ?_
  refine ww_getR (f := 351) wf_X7_92 dX7_night_22 rfl rfl (ww_up_mo hM hu).1.1 (ww_up_mo hM hu).1.2 ((ww_up_mo hM hu).2.1 31 rfl) ?_
  refine ww_iconst (v := 2) dX7_night_25 (by decide) ?_
  refine ww_pald (k := 31) hM hu dX7_night_26 rfl rfl (show (2 : Int32) = nI 2 from rfl) (by decide) b2 ?_
  refine ww_iadd dX7_night_27 ?_
  refine ww_if_le_t (tgt := 35) dX7_night_28 (by decide) (by rw [nI_add, nI_add]; exact nI_le (b := 0) (by omega) (by omega)) ?_
  refine ww_iconst (v := 0) dX7_night_35 (by decide) ?_
  refine ww_pputI (k := 0) hM hu dX7_night_36 wf_X7_98 wt_8_0 rfl rfl rfl rfl (fun M1 hu => ?_)
  refine ww_aload_n (i := 0) dX7_night_39 rfl rfl ?_
  refine ww_pgetI (k := 0) hM hu dX7_night_40 wf_X7_98 rfl rfl (q_us_s) ?_
  refine ww_if_le_t (tgt := 48) dX7_night_43 (by decide) (by decide) ?_
  refine ww_aload_n (i := 0) dX7_night_48 rfl rfl ?_
  refine ww_callV (κ := 8) (r := (RX7, TX7, 33)) wk_X7_193 dX7_night_49 (u_plans hM hu (S := q_us (q_S M x ar) 0 0) hW hG.2.1) rfl rfl (show ww_is _ _ 8 from (ww_up_mo hM hu).1).1 (show ww_is _ _ 8 from (ww_up_mo hM hu).1).2 rfl rfl (by omega) (by omega) (by omega) (by first | exact Nat.le_of_ble_eq_true rfl | (simp [ww_rf_cat, Value.category])) rfl (fun E M9 h9 => h9.elim) (fun v9 M9 h9 => ?_)
  obtain ⟨rfl, hu⟩ := h9
  refine ww_istore_n (i := 1) (lv2 := [(0, _), (1, _)]) dX7_night_52 rfl (Nat.le_of_ble_eq_true rfl) rfl ?_
  refine ww_iconst (v := 0) dX7_night_53 (by decide) ?_
  refine ww_istore_n (i := 2) (lv2 := [(0, _), (1, _), (2, _)]) dX7_night_54 rfl (Nat.le_of_ble_eq_true rfl) rfl ?_
  -- at 55, locals [0, 1, 2]
  have hl := m_night_l (g := g) (S := q_plans (q_us (q_S M x ar) 0 0) w) (d := q_dg w b) (c := q_pb (q_us (q_S M x ar) 0 0) w) hM (q_W_pl (S := q_us (q_S M x ar) 0 0) hW) hG.2.1 ?_ ?_ hd w 0 _ (by omega) hu
  · exact ww_subk hl ⟨rfl, rfl, rfl, trivial⟩
  · intro r hr
    have e : q_plans (q_us (q_S M x ar) 0 0) w 31 r = (q_S M x ar) 31 r := congrFun (q_pl_k (by decide)) r
    rw [e]
    rcases (show r = 0 ∨ r = 1 ∨ r = 2 by omega) with rfl | rfl | rfl
    · rw [b0, show q_rn (q_S M x ar) 0 = 0 by omega]; rfl
    · rw [b1, show q_rn (q_S M x ar) 1 = 0 by omega]; rfl
    · rw [b2, show q_rn (q_S M x ar) 2 = 0 by omega]; rfl
  · intro i hi
    unfold q_plans q_pl
    rw [hb, q_if_t ⟨rfl, hi⟩]
    rfl
/-! out: the earliest of the trains on the roads -/
def q_tm (S : Nat → Nat → Int32) (r k : Nat) : Int32 := S 28 (q_rq S r k)
def q_bet (S : Nat → Nat → Int32) (o : Option (Nat × Nat)) (r k : Nat) : Prop := match o with
  | none => True
  | some (r', k') => q_tm S r k < q_tm S r' k'
noncomputable def q_sc (S : Nat → Nat → Int32) (o : Option (Nat × Nat)) (r : Nat) : Nat → Option (Nat × Nat)
  | 0 => o
  | k + 1 => q_if (q_bet S (q_sc S o r k) r k) (some (r, k)) (q_sc S o r k)
noncomputable def q_scR (S : Nat → Nat → Int32) : Nat → Option (Nat × Nat)
  | 0 => none
  | r + 1 => q_sc S (q_scR S r) r (q_rn S r)
def q_o1 : Option (Nat × Nat) → Int32
  | none => -1
  | some (r, _) => nI r
def q_o2 : Option (Nat × Nat) → Int32
  | none => 0
  | some (_, k) => nI k
def q_in3 (S : Nat → Nat → Int32) (o : Option (Nat × Nat)) : Prop := ∀ r k, o = some (r, k) → r < 3 ∧ k < q_rn S r
theorem q_sc_in {S : Nat → Nat → Int32} {o : Option (Nat × Nat)} {r : Nat} (hr : r < 3) (ho : q_in3 S o) : ∀ {k : Nat}, k ≤ q_rn S r → q_in3 S (q_sc S o r k)
  | 0, _ => ho
  | k + 1, hk => by
    intro r' k' h
    by_cases c : q_bet S (q_sc S o r k) r k
    · rw [show q_sc S o r (k + 1) = some (r, k) from q_if_t c] at h
      cases h
      exact ⟨hr, by omega⟩
    · rw [show q_sc S o r (k + 1) = q_sc S o r k from q_if_f c] at h
      exact q_sc_in hr ho (by omega) r' k' h
theorem q_scR_in {S : Nat → Nat → Int32} : ∀ {r : Nat}, r ≤ 3 → q_in3 S (q_scR S r)
  | 0, _ => fun r k h => by cases h
  | r + 1, hr => q_sc_in (by omega) (q_scR_in (by omega)) (Nat.le_refl _)
set_option maxRecDepth 20000 in
set_option maxHeartbeats 4000000 in
theorem m_out_k (hM : ww_mo x ar M.1 M.2.2.1) (hu : ww_up x ar M S M1) (hR : q_Rd S n) (h6 : n ≤ 60) {r : Nat} (hr : r < 3) {o : Option (Nat × Nat)} (ho : q_in3 S o) (kk : ww_A g wy_X7_out 1 0 0 M1 100 [(0, .ref x), (1, .int (q_o1 (q_sc S o r (q_rn S r)))), (2, .int (q_o2 (q_sc S o r (q_rn S r)))), (3, .int (nI r))] [] Q ww_no) : ∀ m k, k + m = q_rn S r → ww_A g wy_X7_out 1 0 0 M1 14 [(0, .ref x), (1, .int (q_o1 (q_sc S o r k))), (2, .int (q_o2 (q_sc S o r k))), (3, .int (nI r)), (4, .int (nI k))] [] Q ww_no
  | 0, k, hm => by
    have e : k = q_rn S r := by omega
    subst e
    obtain ⟨a, b, c⟩ := hR r hr
    refine ww_iload (i := 4) dX7_out_14 rfl ?_
    refine ww_aload_n (i := 0) dX7_out_16 rfl rfl ?_
    refine ww_getR (f := 351) wf_X7_92 dX7_out_17 rfl rfl (ww_up_mo hM hu).1.1 (ww_up_mo hM hu).1.2 ((ww_up_mo hM hu).2.1 31 rfl) ?_
    refine ww_iload_n (i := 3) dX7_out_20 rfl rfl ?_
    refine ww_pald (k := 31) hM hu dX7_out_21 rfl rfl rfl (show _ < 3 by omega) b ?_
    refine ww_icmp_ge_t (tgt := 100) dX7_out_22 (by decide) (nI_le (Nat.le_refl _) (by omega)) ?_
    -- at 100, locals [0, 1, 2, 3, 4]
    exact ww_subk kk ⟨rfl, rfl, rfl, rfl, trivial⟩
  | m + 1, k, hm => by
    obtain ⟨a, b, c⟩ := hR r hr
    obtain ⟨c1, c2⟩ := c k (by omega)
    have hl := m_out_k hM hu hR h6 hr ho kk m (k + 1) (by omega)
    cases hq : q_sc S o r k with
    | none =>
      have hbt : q_bet S (q_sc S o r k) r k := by rw [hq]; trivial
      rw [show q_sc S o r (k + 1) = some (r, k) from q_if_t hbt] at hl
      refine ww_iload (i := 4) dX7_out_14 rfl ?_
      refine ww_aload_n (i := 0) dX7_out_16 rfl rfl ?_
      refine ww_getR (f := 351) wf_X7_92 dX7_out_17 rfl rfl (ww_up_mo hM hu).1.1 (ww_up_mo hM hu).1.2 ((ww_up_mo hM hu).2.1 31 rfl) ?_
      refine ww_iload_n (i := 3) dX7_out_20 rfl rfl ?_
      refine ww_pald (k := 31) hM hu dX7_out_21 rfl rfl rfl (show _ < 3 by omega) b ?_
      refine ww_icmp_ge_f (tgt := 100) dX7_out_22 (by decide) (nI_ge (by omega) (by omega)) ?_
      refine ww_iload_n (i := 1) dX7_out_25 rfl rfl ?_
      refine ww_iconst (v := (-1)) dX7_out_26 (by decide) ?_
      refine ww_icmp_eq_t (tgt := 64) dX7_out_27 (by decide) rfl ?_
      refine ww_iconst (v := 1) dX7_out_64 (by decide) ?_
      refine ww_goto (tgt := 69) dX7_out_65 (by decide) ?_
      refine ww_istore (i := 5) (lv2 := [(0, _), (1, _), (2, _), (3, _), (4, _), (5, _)]) dX7_out_69 (Nat.le_of_ble_eq_true rfl) rfl ?_
      refine ww_iload (i := 5) dX7_out_71 rfl ?_
      refine ww_if_eq_f (tgt := 81) dX7_out_73 (by decide) (by decide) ?_
      refine ww_iload (i := 4) dX7_out_76 rfl ?_
      refine ww_goto (tgt := 82) dX7_out_78 (by decide) ?_
      refine ww_istore_n (i := 2) (lv2 := [(0, _), (1, _), (2, _), (3, _), (4, _), (5, _)]) dX7_out_82 rfl (Nat.le_of_ble_eq_true rfl) rfl ?_
      refine ww_iload (i := 5) dX7_out_83 rfl ?_
      refine ww_if_eq_f (tgt := 92) dX7_out_85 (by decide) (by decide) ?_
      refine ww_iload_n (i := 3) dX7_out_88 rfl rfl ?_
      refine ww_goto (tgt := 93) dX7_out_89 (by decide) ?_
      refine ww_istore_n (i := 1) (lv2 := [(0, _), (1, _), (2, _), (3, _), (4, _), (5, _)]) dX7_out_93 rfl (Nat.le_of_ble_eq_true rfl) rfl ?_
      refine ww_iinc (i := 4) (v := _ + 1) (lv2 := [(0, _), (1, _), (2, _), (3, _), (4, _), (5, _)]) dX7_out_94 rfl (by rfl) (Nat.le_of_ble_eq_true rfl) rfl ?_
      refine ww_goto (tgt := 14) dX7_out_97 (by decide) ?_
      -- at 14, locals [0, 1, 2, 3, 4, 5]
      rw [nI_1]
      exact ww_subk hl ⟨rfl, rfl, rfl, rfl, rfl, trivial⟩
    | some rk =>
      obtain ⟨r', k'⟩ := rk
      have hin := q_sc_in hr ho (k := k) (by omega) r' k' hq
      obtain ⟨a', b', c'⟩ := hR r' hin.1
      obtain ⟨c1', c2'⟩ := c' k' hin.2
      have hne : ¬ q_o1 (some (r', k')) = -1 := fun z => absurd (show nI r' = -1 from z) (by
        rw [ww_eq, nI_toInt (by omega), show (-1 : Int32).toInt = -1 from rfl]; omega)
      by_cases hbt : q_tm S r k < q_tm S r' k'
      · have hb : q_bet S (q_sc S o r k) r k := by rw [hq]; exact hbt
        have hb' : ¬ q_tm S r' k' ≤ q_tm S r k := by rw [ww_le']; rw [ww_lt] at hbt; omega
        rw [show q_sc S o r (k + 1) = some (r, k) from q_if_t hb] at hl
        refine ww_iload (i := 4) dX7_out_14 rfl ?_
        refine ww_aload_n (i := 0) dX7_out_16 rfl rfl ?_
        refine ww_getR (f := 351) wf_X7_92 dX7_out_17 rfl rfl (ww_up_mo hM hu).1.1 (ww_up_mo hM hu).1.2 ((ww_up_mo hM hu).2.1 31 rfl) ?_
        refine ww_iload_n (i := 3) dX7_out_20 rfl rfl ?_
        refine ww_pald (k := 31) hM hu dX7_out_21 rfl rfl rfl (show _ < 3 by omega) b ?_
        refine ww_icmp_ge_f (tgt := 100) dX7_out_22 (by decide) (nI_ge (by omega) (by omega)) ?_
        refine ww_iload_n (i := 1) dX7_out_25 rfl rfl ?_
        refine ww_iconst (v := (-1)) dX7_out_26 (by decide) ?_
        refine ww_icmp_eq_f (tgt := 64) dX7_out_27 (by decide) hne ?_
        refine ww_aload_n (i := 0) dX7_out_30 rfl rfl ?_
        refine ww_getR (f := 348) wf_X7_83 dX7_out_31 rfl rfl (ww_up_mo hM hu).1.1 (ww_up_mo hM hu).1.2 ((ww_up_mo hM hu).2.1 28 rfl) ?_
        refine ww_aload_n (i := 0) dX7_out_34 rfl rfl ?_
        refine ww_getR (f := 352) wf_X7_95 dX7_out_35 rfl rfl (ww_up_mo hM hu).1.1 (ww_up_mo hM hu).1.2 ((ww_up_mo hM hu).2.1 32 rfl) ?_
        refine ww_iconst (v := 4) dX7_out_38 (by decide) ?_
        refine ww_iload_n (i := 3) dX7_out_39 rfl rfl ?_
        refine ww_imul dX7_out_40 ?_
        refine ww_iload (i := 4) dX7_out_41 rfl ?_
        refine ww_iadd dX7_out_43 ?_
        refine ww_pald (k := 32) hM hu dX7_out_44 rfl rfl (q_4 (by omega) (by omega)) (show _ < 12 by omega) (rfl) ?_
        refine ww_pald (k := 28) hM hu dX7_out_45 rfl rfl c2 (show _ < 60 by omega) (rfl) ?_
        refine ww_aload_n (i := 0) dX7_out_46 rfl rfl ?_
        refine ww_getR (f := 348) wf_X7_83 dX7_out_47 rfl rfl (ww_up_mo hM hu).1.1 (ww_up_mo hM hu).1.2 ((ww_up_mo hM hu).2.1 28 rfl) ?_
        refine ww_aload_n (i := 0) dX7_out_50 rfl rfl ?_
        refine ww_getR (f := 352) wf_X7_95 dX7_out_51 rfl rfl (ww_up_mo hM hu).1.1 (ww_up_mo hM hu).1.2 ((ww_up_mo hM hu).2.1 32 rfl) ?_
        refine ww_iconst (v := 4) dX7_out_54 (by decide) ?_
        refine ww_iload_n (i := 1) dX7_out_55 rfl rfl ?_
        refine ww_imul dX7_out_56 ?_
        refine ww_iload_n (i := 2) dX7_out_57 rfl rfl ?_
        refine ww_iadd dX7_out_58 ?_
        refine ww_pald (k := 32) hM hu dX7_out_59 rfl rfl (q_4 (by omega) (by omega)) (show _ < 12 by omega) (rfl) ?_
        refine ww_pald (k := 28) hM hu dX7_out_60 rfl rfl c2' (show _ < 60 by omega) (rfl) ?_
        refine ww_icmp_ge_f (tgt := 68) dX7_out_61 (by decide) hb' ?_
        refine ww_iconst (v := 1) dX7_out_64 (by decide) ?_
        refine ww_goto (tgt := 69) dX7_out_65 (by decide) ?_
        refine ww_istore (i := 5) (lv2 := [(0, _), (1, _), (2, _), (3, _), (4, _), (5, _)]) dX7_out_69 (Nat.le_of_ble_eq_true rfl) rfl ?_
        refine ww_iload (i := 5) dX7_out_71 rfl ?_
        refine ww_if_eq_f (tgt := 81) dX7_out_73 (by decide) (by decide) ?_
        refine ww_iload (i := 4) dX7_out_76 rfl ?_
        refine ww_goto (tgt := 82) dX7_out_78 (by decide) ?_
        refine ww_istore_n (i := 2) (lv2 := [(0, _), (1, _), (2, _), (3, _), (4, _), (5, _)]) dX7_out_82 rfl (Nat.le_of_ble_eq_true rfl) rfl ?_
        refine ww_iload (i := 5) dX7_out_83 rfl ?_
        refine ww_if_eq_f (tgt := 92) dX7_out_85 (by decide) (by decide) ?_
        refine ww_iload_n (i := 3) dX7_out_88 rfl rfl ?_
        refine ww_goto (tgt := 93) dX7_out_89 (by decide) ?_
        refine ww_istore_n (i := 1) (lv2 := [(0, _), (1, _), (2, _), (3, _), (4, _), (5, _)]) dX7_out_93 rfl (Nat.le_of_ble_eq_true rfl) rfl ?_
        refine ww_iinc (i := 4) (v := _ + 1) (lv2 := [(0, _), (1, _), (2, _), (3, _), (4, _), (5, _)]) dX7_out_94 rfl (by rfl) (Nat.le_of_ble_eq_true rfl) rfl ?_
        refine ww_goto (tgt := 14) dX7_out_97 (by decide) ?_
        -- at 14, locals [0, 1, 2, 3, 4, 5]
        rw [nI_1]
        exact ww_subk hl ⟨rfl, rfl, rfl, rfl, rfl, trivial⟩
      · have hb : ¬ q_bet S (q_sc S o r k) r k := by rw [hq]; exact hbt
        have hb' : q_tm S r' k' ≤ q_tm S r k := by rw [ww_le']; rw [ww_lt] at hbt; omega
        rw [show q_sc S o r (k + 1) = q_sc S o r k from q_if_f hb, hq] at hl
        refine ww_iload (i := 4) dX7_out_14 rfl ?_
        refine ww_aload_n (i := 0) dX7_out_16 rfl rfl ?_
        refine ww_getR (f := 351) wf_X7_92 dX7_out_17 rfl rfl (ww_up_mo hM hu).1.1 (ww_up_mo hM hu).1.2 ((ww_up_mo hM hu).2.1 31 rfl) ?_
        refine ww_iload_n (i := 3) dX7_out_20 rfl rfl ?_
        refine ww_pald (k := 31) hM hu dX7_out_21 rfl rfl rfl (show _ < 3 by omega) b ?_
        refine ww_icmp_ge_f (tgt := 100) dX7_out_22 (by decide) (nI_ge (by omega) (by omega)) ?_
        refine ww_iload_n (i := 1) dX7_out_25 rfl rfl ?_
        refine ww_iconst (v := (-1)) dX7_out_26 (by decide) ?_
        refine ww_icmp_eq_f (tgt := 64) dX7_out_27 (by decide) hne ?_
        refine ww_aload_n (i := 0) dX7_out_30 rfl rfl ?_
        refine ww_getR (f := 348) wf_X7_83 dX7_out_31 rfl rfl (ww_up_mo hM hu).1.1 (ww_up_mo hM hu).1.2 ((ww_up_mo hM hu).2.1 28 rfl) ?_
        refine ww_aload_n (i := 0) dX7_out_34 rfl rfl ?_
        refine ww_getR (f := 352) wf_X7_95 dX7_out_35 rfl rfl (ww_up_mo hM hu).1.1 (ww_up_mo hM hu).1.2 ((ww_up_mo hM hu).2.1 32 rfl) ?_
        refine ww_iconst (v := 4) dX7_out_38 (by decide) ?_
        refine ww_iload_n (i := 3) dX7_out_39 rfl rfl ?_
        refine ww_imul dX7_out_40 ?_
        refine ww_iload (i := 4) dX7_out_41 rfl ?_
        refine ww_iadd dX7_out_43 ?_
        refine ww_pald (k := 32) hM hu dX7_out_44 rfl rfl (q_4 (by omega) (by omega)) (show _ < 12 by omega) (rfl) ?_
        refine ww_pald (k := 28) hM hu dX7_out_45 rfl rfl c2 (show _ < 60 by omega) (rfl) ?_
        refine ww_aload_n (i := 0) dX7_out_46 rfl rfl ?_
        refine ww_getR (f := 348) wf_X7_83 dX7_out_47 rfl rfl (ww_up_mo hM hu).1.1 (ww_up_mo hM hu).1.2 ((ww_up_mo hM hu).2.1 28 rfl) ?_
        refine ww_aload_n (i := 0) dX7_out_50 rfl rfl ?_
        refine ww_getR (f := 352) wf_X7_95 dX7_out_51 rfl rfl (ww_up_mo hM hu).1.1 (ww_up_mo hM hu).1.2 ((ww_up_mo hM hu).2.1 32 rfl) ?_
        refine ww_iconst (v := 4) dX7_out_54 (by decide) ?_
        refine ww_iload_n (i := 1) dX7_out_55 rfl rfl ?_
        refine ww_imul dX7_out_56 ?_
        refine ww_iload_n (i := 2) dX7_out_57 rfl rfl ?_
        refine ww_iadd dX7_out_58 ?_
        refine ww_pald (k := 32) hM hu dX7_out_59 rfl rfl (q_4 (by omega) (by omega)) (show _ < 12 by omega) (rfl) ?_
        refine ww_pald (k := 28) hM hu dX7_out_60 rfl rfl c2' (show _ < 60 by omega) (rfl) ?_
        refine ww_icmp_ge_t (tgt := 68) dX7_out_61 (by decide) hb' ?_
        refine ww_iconst (v := 0) dX7_out_68 (by decide) ?_
        refine ww_istore (i := 5) (lv2 := [(0, _), (1, _), (2, _), (3, _), (4, _), (5, _)]) dX7_out_69 (Nat.le_of_ble_eq_true rfl) rfl ?_
        refine ww_iload (i := 5) dX7_out_71 rfl ?_
        refine ww_if_eq_t (tgt := 81) dX7_out_73 (by decide) (by decide) ?_
        refine ww_iload_n (i := 2) dX7_out_81 rfl rfl ?_
        refine ww_istore_n (i := 2) (lv2 := [(0, _), (1, _), (2, _), (3, _), (4, _), (5, _)]) dX7_out_82 rfl (Nat.le_of_ble_eq_true rfl) rfl ?_
        refine ww_iload (i := 5) dX7_out_83 rfl ?_
        refine ww_if_eq_t (tgt := 92) dX7_out_85 (by decide) (by decide) ?_
        refine ww_iload_n (i := 1) dX7_out_92 rfl rfl ?_
        refine ww_istore_n (i := 1) (lv2 := [(0, _), (1, _), (2, _), (3, _), (4, _), (5, _)]) dX7_out_93 rfl (Nat.le_of_ble_eq_true rfl) rfl ?_
        refine ww_iinc (i := 4) (v := _ + 1) (lv2 := [(0, _), (1, _), (2, _), (3, _), (4, _), (5, _)]) dX7_out_94 rfl (by rfl) (Nat.le_of_ble_eq_true rfl) rfl ?_
        refine ww_goto (tgt := 14) dX7_out_97 (by decide) ?_
        -- at 14, locals [0, 1, 2, 3, 4, 5]
        rw [nI_1]
        exact ww_subk hl ⟨rfl, rfl, rfl, rfl, rfl, trivial⟩
set_option maxRecDepth 20000 in
theorem m_out_r (hM : ww_mo x ar M.1 M.2.2.1) (hu : ww_up x ar M S M1) (hR : q_Rd S n) (h6 : n ≤ 60) (kk : ww_A g wy_X7_out 1 0 0 M1 106 [(0, .ref x), (1, .int (q_o1 (q_scR S 3))), (2, .int (q_o2 (q_scR S 3)))] [] Q ww_no) : ∀ m r, r + m = 3 → ww_A g wy_X7_out 1 0 0 M1 6 [(0, .ref x), (1, .int (q_o1 (q_scR S r))), (2, .int (q_o2 (q_scR S r))), (3, .int (nI r))] [] Q ww_no
  | 0, r, hm => by
    have e : r = 3 := by omega
    subst e
    refine ww_iload_n (i := 3) dX7_out_6 rfl rfl ?_
    refine ww_iconst (v := 3) dX7_out_7 (by decide) ?_
    refine ww_icmp_ge_t (tgt := 106) dX7_out_8 (by decide) (by decide) ?_
    -- at 106, locals [0, 1, 2, 3]
    exact ww_subk kk ⟨rfl, rfl, rfl, trivial⟩
  | m + 1, r, hm => by
    have hl := m_out_r hM hu hR h6 kk m (r + 1) (by omega)
    have hk := m_out_k (g := g) (Q := Q) hM hu hR h6 (r := r) (by omega) (q_scR_in (r := r) (by omega)) ?_ (q_rn S r) 0 (by omega)
    · rw [nI_0] at hk
      refine ww_iload_n (i := 3) dX7_out_6 rfl rfl ?_
      refine ww_iconst (v := 3) dX7_out_7 (by decide) ?_
      refine ww_icmp_ge_f (tgt := 106) dX7_out_8 (by decide) (nI_ge (b := 3) (by omega) (by decide)) ?_
      refine ww_iconst (v := 0) dX7_out_11 (by decide) ?_
      refine ww_istore (i := 4) (lv2 := [(0, _), (1, _), (2, _), (3, _), (4, _)]) dX7_out_12 (Nat.le_of_ble_eq_true rfl) rfl ?_
      -- at 14, locals [0, 1, 2, 3, 4]
      exact ww_subk hk ⟨rfl, rfl, rfl, rfl, rfl, trivial⟩
    · refine ww_iinc (i := 3) (v := _ + 1) (lv2 := [(0, _), (1, _), (2, _), (3, _)]) dX7_out_100 rfl (by rfl) (Nat.le_of_ble_eq_true rfl) rfl ?_
      refine ww_goto (tgt := 6) dX7_out_103 (by decide) ?_
      -- at 6, locals [0, 1, 2, 3]
      rw [nI_1]
      exact hl
/-- the trains behind the k-th move up: i of them have -/
noncomputable def q_sh (S : Nat → Nat → Int32) (r k i : Nat) : Nat → Nat → Int32 := fun κ j => q_if (κ = 32 ∧ 4 * r + k ≤ j ∧ j < 4 * r + i) (S 32 (j + 1)) (S κ j)
theorem q_sh_k {r k i κ : Nat} (h : κ ≠ 32) : q_sh S r k i κ = S κ := by
  funext j
  exact q_if_f (fun z => h z.1)
theorem q_sh_0 {r k : Nat} : q_sh S r k k = S := by
  funext κ j
  exact q_if_f (fun z => by omega)
theorem q_sh_s {r k i : Nat} (h : k ≤ i) : ww_u2 (q_sh S r k i) 32 (4 * r + i) (S 32 (4 * r + i + 1)) = q_sh S r k (i + 1) := by
  funext κ j
  by_cases e : κ = 32 ∧ j = 4 * r + i
  · obtain ⟨rfl, rfl⟩ := e
    rw [ww_u2s]
    exact (q_if_t ⟨rfl, by omega, by omega⟩).symm
  · rw [ww_u2n e]
    refine q_if_cg ⟨fun z => ⟨z.1, z.2.1, by omega⟩, fun z => ⟨z.1, z.2.1, ?_⟩⟩
    have : j ≠ 4 * r + i := fun y => e ⟨z.1, y⟩
    omega
set_option maxRecDepth 20000 in
set_option maxHeartbeats 4000000 in
theorem m_out_s (hM : ww_mo x ar M.1 M.2.2.1) {r k l : Nat} (hr : r < 3) (hl : l ≤ 4) (h31 : S 31 r = nI l) {b c : Int32} : ∀ (m i : Nat) (M1 : ww_M), i + m + 1 = l → k ≤ i → ww_up x ar M (q_sh S r k i) M1 → ww_A g wy_X7_out 1 0 0 M1 159 [(0, .ref x), (1, .int (nI r)), (2, .int b), (3, .int c), (4, .int (nI i))] [] (ww_ru x ar M (some (.int c)) (ww_u2 (q_sh S r k (l - 1)) 31 r (nI (l - 1)))) ww_no
  | 0, i, M1, hm, hk, hu => by
    have e31 : q_sh S r k i 31 r = nI l := (congrFun (q_sh_k (by decide)) r).trans h31
    have e : nI l - 1 = nI (l - 1) := by rw [show l = (l - 1) + 1 by omega, nI_succ, Int32.add_sub_cancel]; rfl
    refine ww_iload (i := 4) dX7_out_159 rfl ?_
    refine ww_iconst (v := 1) dX7_out_161 (by decide) ?_
    refine ww_iadd dX7_out_162 ?_
    refine ww_aload_n (i := 0) dX7_out_163 rfl rfl ?_
    refine ww_getR (f := 351) wf_X7_92 dX7_out_164 rfl rfl (ww_up_mo hM hu).1.1 (ww_up_mo hM hu).1.2 ((ww_up_mo hM hu).2.1 31 rfl) ?_
    refine ww_iload_n (i := 1) dX7_out_167 rfl rfl ?_
    refine ww_pald (k := 31) hM hu dX7_out_168 rfl rfl rfl (show _ < 3 by omega) e31 ?_
    refine ww_icmp_ge_t (tgt := 202) dX7_out_169 (by decide) (by rw [nI_1]; exact nI_le (by omega) (by omega)) ?_
    refine ww_aload_n (i := 0) dX7_out_202 rfl rfl ?_
    refine ww_getR (f := 351) wf_X7_92 dX7_out_203 rfl rfl (ww_up_mo hM hu).1.1 (ww_up_mo hM hu).1.2 ((ww_up_mo hM hu).2.1 31 rfl) ?_
    refine ww_iload_n (i := 1) dX7_out_206 rfl rfl ?_
    refine ww_dup2 dX7_out_207 (by first | rfl | exact ww_rf_cat _) (by first | rfl | exact ww_rf_cat _) ?_
    refine ww_pald (k := 31) hM hu dX7_out_208 rfl rfl rfl (show _ < 3 by omega) e31 ?_
    refine ww_iconst (v := 1) dX7_out_209 (by decide) ?_
    refine ww_isub dX7_out_210 ?_
    -- at 211, locals [0, 1, 2, 3, 4]
    rw [e]
    refine ww_past (k := 31) hM hu dX7_out_211 rfl rfl rfl (show _ < 3 by omega) (fun M1 hu => ?_)
    refine ww_iload_n (i := 3) dX7_out_212 rfl rfl ?_
    refine ww_ireturn dX7_out_213 rfl (by first | rfl | exact ww_b_nar) ⟨rfl, ?_⟩
    rw [show l - 1 = i by omega]
    rw [show l - 1 = i by omega] at hu
    exact hu
  | m + 1, i, M1, hm, hk, hu => by
    have e31 : q_sh S r k i 31 r = nI l := (congrFun (q_sh_k (by decide)) r).trans h31
    have e32 : q_sh S r k i 32 (4 * r + i + 1) = S 32 (4 * r + i + 1) := q_if_f (fun z => by omega)
    refine ww_iload (i := 4) dX7_out_159 rfl ?_
    refine ww_iconst (v := 1) dX7_out_161 (by decide) ?_
    refine ww_iadd dX7_out_162 ?_
    refine ww_aload_n (i := 0) dX7_out_163 rfl rfl ?_
    refine ww_getR (f := 351) wf_X7_92 dX7_out_164 rfl rfl (ww_up_mo hM hu).1.1 (ww_up_mo hM hu).1.2 ((ww_up_mo hM hu).2.1 31 rfl) ?_
    refine ww_iload_n (i := 1) dX7_out_167 rfl rfl ?_
    refine ww_pald (k := 31) hM hu dX7_out_168 rfl rfl rfl (show _ < 3 by omega) e31 ?_
    refine ww_icmp_ge_f (tgt := 202) dX7_out_169 (by decide) (by rw [nI_1]; exact nI_ge (by omega) (by omega)) ?_
    refine ww_aload_n (i := 0) dX7_out_172 rfl rfl ?_
    refine ww_getR (f := 352) wf_X7_95 dX7_out_173 rfl rfl (ww_up_mo hM hu).1.1 (ww_up_mo hM hu).1.2 ((ww_up_mo hM hu).2.1 32 rfl) ?_
    refine ww_iconst (v := 4) dX7_out_176 (by decide) ?_
    refine ww_iload_n (i := 1) dX7_out_177 rfl rfl ?_
    refine ww_imul dX7_out_178 ?_
    refine ww_iload (i := 4) dX7_out_179 rfl ?_
    refine ww_iadd dX7_out_181 ?_
    refine ww_aload_n (i := 0) dX7_out_182 rfl rfl ?_
    refine ww_getR (f := 352) wf_X7_95 dX7_out_183 rfl rfl (ww_up_mo hM hu).1.1 (ww_up_mo hM hu).1.2 ((ww_up_mo hM hu).2.1 32 rfl) ?_
    refine ww_iconst (v := 4) dX7_out_186 (by decide) ?_
    refine ww_iload_n (i := 1) dX7_out_187 rfl rfl ?_
    refine ww_imul dX7_out_188 ?_
    refine ww_iload (i := 4) dX7_out_189 rfl ?_
    refine ww_iadd dX7_out_191 ?_
    refine ww_iconst (v := 1) dX7_out_192 (by decide) ?_
    refine ww_iadd dX7_out_193 ?_
    refine ww_pald (k := 32) hM hu dX7_out_194 rfl rfl (by rw [q_4 (by omega) (by omega), nI_1]) (show _ < 12 by omega) e32 ?_
    refine ww_past (k := 32) hM hu dX7_out_195 rfl rfl (q_4 (by omega) (by omega)) (show _ < 12 by omega) (fun M1 hu => ?_)
    refine ww_iinc (i := 4) (v := _ + 1) (lv2 := [(0, _), (1, _), (2, _), (3, _), (4, _)]) dX7_out_196 rfl (by rfl) (Nat.le_of_ble_eq_true rfl) rfl ?_
    refine ww_goto (tgt := 159) dX7_out_199 (by decide) ?_
    -- at 159, locals [0, 1, 2, 3, 4]
    rw [q_sh_s hk] at hu
    rw [nI_1]
    exact m_out_s hM hr hl h31 m (i + 1) _ (by omega) (by omega) hu
set_option maxRecDepth 20000 in
theorem m_out_1 (hM : ww_mo x ar M.1 M.2.2.1) (hR : q_Rd (q_S M x ar) n) (h6 : n ≤ 60) (hc : q_scR (q_S M x ar) 3 = none) : ww_C g wy_X7_out 1 0 0 [.ref x] M (ww_ru x ar M (some (.int 0)) (q_us (q_S M x ar) 0 1)) ww_no := by
  refine ww_ent (by decide +kernel) (Nat.le_of_ble_eq_true rfl) ⟨rfl, trivial⟩ ?_
  have hu : ww_up x ar M (q_S M x ar) M := ww_up_rf
  have hl := m_out_r (g := g) (Q := ww_ru x ar M (some (.int 0)) (q_us (q_S M x ar) 0 1)) hM hu hR h6 ?_ 3 0 (by omega)
  · refine ww_iconst (v := (-1)) dX7_out_0 (by decide) ?_
    refine ww_istore_n (i := 1) (lv2 := [(0, _), (1, _)]) dX7_out_1 rfl (Nat.le_of_ble_eq_true rfl) rfl ?_
    refine ww_iconst (v := 0) dX7_out_2 (by decide) ?_
    refine ww_istore_n (i := 2) (lv2 := [(0, _), (1, _), (2, _)]) dX7_out_3 rfl (Nat.le_of_ble_eq_true rfl) rfl ?_
    refine ww_iconst (v := 0) dX7_out_4 (by decide) ?_
    refine ww_istore_n (i := 3) (lv2 := [(0, _), (1, _), (2, _), (3, _)]) dX7_out_5 rfl (Nat.le_of_ble_eq_true rfl) rfl ?_
    -- at 6, locals [0, 1, 2, 3]
    exact ww_subk hl ⟨rfl, rfl, rfl, rfl, trivial⟩
  · rw [hc]
    refine ww_aload_n (i := 0) dX7_out_106 rfl rfl ?_
    refine ww_iload_n (i := 1) dX7_out_107 rfl rfl ?_
    refine ww_iconst (v := (-1)) dX7_out_108 (by decide) ?_
    refine ww_icmp_ne_f (tgt := 116) dX7_out_109 (by decide) rfl ?_
    refine ww_iconst (v := 1) dX7_out_112 (by decide) ?_
    refine ww_goto (tgt := 117) dX7_out_113 (by decide) ?_
    refine ww_pputI (k := 0) hM hu dX7_out_117 wf_X7_98 wt_8_0 rfl rfl rfl rfl (fun M1 hu => ?_)
    refine ww_aload_n (i := 0) dX7_out_120 rfl rfl ?_
    refine ww_pgetI (k := 0) hM hu dX7_out_121 wf_X7_98 rfl rfl (q_us_s) ?_
    refine ww_if_le_f (tgt := 129) dX7_out_124 (by decide) (by decide) ?_
    refine ww_iconst (v := 0) dX7_out_127 (by decide) ?_
    exact ww_ireturn dX7_out_128 rfl (by first | rfl | exact ww_b_nar) ⟨rfl, hu⟩
/-- the k-th of road r has gone -/
noncomputable def q_out (S : Nat → Nat → Int32) (r k : Nat) : Nat → Nat → Int32 := ww_u2 (q_sh (ww_u2 S 12 (q_rq S r k) 0) r k (q_rn S r - 1)) 31 r (nI (q_rn S r - 1))
set_option maxRecDepth 20000 in
set_option maxHeartbeats 4000000 in
theorem m_out_0 (hM : ww_mo x ar M.1 M.2.2.1) (hR : q_Rd (q_S M x ar) n) (h6 : n ≤ 60) {r k : Nat} (hc : q_scR (q_S M x ar) 3 = some (r, k)) : ww_C g wy_X7_out 1 0 0 [.ref x] M (ww_ru x ar M (some (.int (nI (q_rn (q_S M x ar) r - 1 - k)))) (q_out (q_us (q_S M x ar) 0 0) r k)) ww_no := by
  refine ww_ent (by decide +kernel) (Nat.le_of_ble_eq_true rfl) ⟨rfl, trivial⟩ ?_
  have hu : ww_up x ar M (q_S M x ar) M := ww_up_rf
  have hin := q_scR_in (S := (q_S M x ar)) (r := 3) (Nat.le_refl _) r k hc
  obtain ⟨a, b, c⟩ := hR r hin.1
  obtain ⟨c1, c2⟩ := c k hin.2
  have hne : ¬ nI r = -1 := by rw [ww_eq, nI_toInt (by omega), show (-1 : Int32).toInt = -1 from rfl]; omega
  have hl := m_out_r (g := g) (Q := ww_ru x ar M (some (.int (nI (q_rn (q_S M x ar) r - 1 - k)))) (q_out (q_us (q_S M x ar) 0 0) r k)) hM hu hR h6 ?_ 3 0 (by omega)
  · refine ww_iconst (v := (-1)) dX7_out_0 (by decide) ?_
    refine ww_istore_n (i := 1) (lv2 := [(0, _), (1, _)]) dX7_out_1 rfl (Nat.le_of_ble_eq_true rfl) rfl ?_
    refine ww_iconst (v := 0) dX7_out_2 (by decide) ?_
    refine ww_istore_n (i := 2) (lv2 := [(0, _), (1, _), (2, _)]) dX7_out_3 rfl (Nat.le_of_ble_eq_true rfl) rfl ?_
    refine ww_iconst (v := 0) dX7_out_4 (by decide) ?_
    refine ww_istore_n (i := 3) (lv2 := [(0, _), (1, _), (2, _), (3, _)]) dX7_out_5 rfl (Nat.le_of_ble_eq_true rfl) rfl ?_
    -- at 6, locals [0, 1, 2, 3]
    exact ww_subk hl ⟨rfl, rfl, rfl, rfl, trivial⟩
  · rw [hc]
    have e : nI (q_rn (q_S M x ar) r) - 1 - nI k = nI (q_rn (q_S M x ar) r - 1 - k) := by
      have e1 : nI (q_rn (q_S M x ar) r) = nI (q_rn (q_S M x ar) r - 1 - k) + nI k + 1 := by rw [nI_add, nI_1, show q_rn (q_S M x ar) r - 1 - k + k + 1 = q_rn (q_S M x ar) r by omega]
      rw [e1, Int32.add_sub_cancel, Int32.add_sub_cancel]
    refine ww_subk (lv2 := [(0, .ref x), (1, .int (nI r)), (2, .int (nI k))]) ?_ ⟨rfl, rfl, rfl, trivial⟩
    refine ww_aload_n (i := 0) dX7_out_106 rfl rfl ?_
    refine ww_iload_n (i := 1) dX7_out_107 rfl rfl ?_
    refine ww_iconst (v := (-1)) dX7_out_108 (by decide) ?_
    refine ww_icmp_ne_t (tgt := 116) dX7_out_109 (by decide) hne ?_
    refine ww_iconst (v := 0) dX7_out_116 (by decide) ?_
    refine ww_pputI (k := 0) hM hu dX7_out_117 wf_X7_98 wt_8_0 rfl rfl rfl rfl (fun M1 hu => ?_)
    refine ww_aload_n (i := 0) dX7_out_120 rfl rfl ?_
    refine ww_pgetI (k := 0) hM hu dX7_out_121 wf_X7_98 rfl rfl (q_us_s) ?_
    refine ww_if_le_t (tgt := 129) dX7_out_124 (by decide) (by decide) ?_
    refine ww_aload_n (i := 0) dX7_out_129 rfl rfl ?_
    refine ww_getR (f := 332) wf_X7_41 dX7_out_130 rfl rfl (ww_up_mo hM hu).1.1 (ww_up_mo hM hu).1.2 ((ww_up_mo hM hu).2.1 12 rfl) ?_
    refine ww_aload_n (i := 0) dX7_out_133 rfl rfl ?_
    refine ww_getR (f := 352) wf_X7_95 dX7_out_134 rfl rfl (ww_up_mo hM hu).1.1 (ww_up_mo hM hu).1.2 ((ww_up_mo hM hu).2.1 32 rfl) ?_
    refine ww_iconst (v := 4) dX7_out_137 (by decide) ?_
    refine ww_iload_n (i := 1) dX7_out_138 rfl rfl ?_
    refine ww_imul dX7_out_139 ?_
    refine ww_iload_n (i := 2) dX7_out_140 rfl rfl ?_
    refine ww_iadd dX7_out_141 ?_
    refine ww_pald (k := 32) hM hu dX7_out_142 rfl rfl (q_4 (by omega) (by omega)) (show _ < 12 by omega) ((q_us_n (by decide)).trans (rfl)) ?_
    refine ww_iconst (v := 0) dX7_out_143 (by decide) ?_
    refine ww_pzst (k := 12) hM hu dX7_out_144 rfl rfl c2 (show _ < 60 by omega) (by first | rfl | exact ww_b_vn) (fun M1 hu => ?_)
    refine ww_aload_n (i := 0) dX7_out_145 rfl rfl ?_
    refine ww_getR (f := 351) wf_X7_92 dX7_out_146 rfl rfl (ww_up_mo hM hu).1.1 (ww_up_mo hM hu).1.2 ((ww_up_mo hM hu).2.1 31 rfl) ?_
    refine ww_iload_n (i := 1) dX7_out_149 rfl rfl ?_
    refine ww_pald (k := 31) hM hu dX7_out_150 rfl rfl rfl (show _ < 3 by omega) ((ww_u2n (fun z => absurd z.1 (by decide))).trans b) ?_
    refine ww_iconst (v := 1) dX7_out_151 (by decide) ?_
    refine ww_isub dX7_out_152 ?_
    refine ww_iload_n (i := 2) dX7_out_153 rfl rfl ?_
    refine ww_isub dX7_out_154 ?_
    -- at 155, locals [0, 1, 2]
    rw [e]
    refine ww_istore_n (i := 3) (lv2 := [(0, _), (1, _), (2, _), (3, _)]) dX7_out_155 rfl (Nat.le_of_ble_eq_true rfl) rfl ?_
    refine ww_iload_n (i := 2) dX7_out_156 rfl rfl ?_
    refine ww_istore (i := 4) (lv2 := [(0, _), (1, _), (2, _), (3, _), (4, _)]) dX7_out_157 (Nat.le_of_ble_eq_true rfl) rfl ?_
    -- at 159, locals [0, 1, 2, 3, 4]
    exact m_out_s (S := ww_u2 (q_us (q_S M x ar) 0 0) 12 (q_rq (q_S M x ar) r k) 0) hM hin.1 a ((ww_u2n (fun z => absurd z.1 (by decide))).trans b) (q_rn (q_S M x ar) r - 1 - k) k _ (by omega) (Nat.le_refl _) (by rw [q_sh_0]; exact hu)
end WWD
