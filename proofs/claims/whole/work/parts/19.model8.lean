/-! ===== the model's operations over its content ===== -/
/-- what every call finds: n parts, their trees, the truths -/
def q_G (S : Nat → Nat → Int32) (n : Nat) : Prop := S 1 0 = nI n ∧ n ≤ 60 ∧ q_gh n (S 2) (S 5) ∧ q_bool S 9 ∧ q_bool S 10 ∧ q_bool S 11 ∧ q_bool S 12 ∧ q_bool S 17
theorem q_us_us {S : Nat → Nat → Int32} {k : Nat} {v v' : Int32} : q_us (q_us S k v) k v' = q_us S k v' := by
  funext b j
  show (if b = k then v' else if b = k then v else S b j) = if b = k then v' else S b j
  by_cases h : b = k
  · rw [if_pos h, if_pos h]
  · rw [if_neg h, if_neg h, if_neg h]
theorem q_G_c {S : Nat → Nat → Int32} {n : Nat} {c : Int32} (h : q_G S n) : q_G (q_us S 0 c) n := h
theorem q_G_u {S : Nat → Nat → Int32} {n k i : Nat} {v : Int32} (h : q_G S n) (hk : ¬ (k = 1 ∨ k = 2 ∨ k = 5 ∨ k = 9 ∨ k = 10 ∨ k = 11 ∨ k = 12 ∨ k = 17)) : q_G (ww_u2 S k i v) n := by
  obtain ⟨h1, h2, h3, h4, h5, h6, h7, h8⟩ := h
  have e : ∀ b, b ≠ k → ww_u2 S k i v b = S b := fun b hb => by
    funext j
    exact ww_u2n (fun z => hb z.1)
  refine ⟨?_, h2, ?_, ?_, ?_, ?_, ?_, ?_⟩
  · rw [e 1 (by omega)]; exact h1
  · rw [e 2 (by omega), e 5 (by omega)]; exact h3
  · intro a; rw [e 9 (by omega)]; exact h4 a
  · intro a; rw [e 10 (by omega)]; exact h5 a
  · intro a; rw [e 11 (by omega)]; exact h6 a
  · intro a; rw [e 12 (by omega)]; exact h7 a
  · intro a; rw [e 17 (by omega)]; exact h8 a
theorem q_bool_u {S : Nat → Nat → Int32} {k k' i : Nat} {v : Int32} (h : q_bool S k') (hv : v = 0 ∨ v = 1) : q_bool (ww_u2 S k i v) k' := by
  intro a
  show (if k' = k ∧ a = i then v else S k' a) = 0 ∨ (if k' = k ∧ a = i then v else S k' a) = 1
  by_cases e : k' = k ∧ a = i
  · rw [if_pos e]; exact hv
  · rw [if_neg e]; exact h a
theorem q_G_b {S : Nat → Nat → Int32} {n k i : Nat} {v : Int32} (h : q_G S n) (hv : v = 0 ∨ v = 1) (hk : ¬ (k = 1 ∨ k = 2 ∨ k = 5)) : q_G (ww_u2 S k i v) n := by
  obtain ⟨h1, h2, h3, h4, h5, h6, h7, h8⟩ := h
  have e : ∀ b, b ≠ k → ww_u2 S k i v b = S b := fun b hb => by
    funext j
    exact ww_u2n (fun z => hb z.1)
  refine ⟨?_, h2, ?_, q_bool_u h4 hv, q_bool_u h5 hv, q_bool_u h6 hv, q_bool_u h7 hv, q_bool_u h8 hv⟩
  · rw [e 1 (by omega)]; exact h1
  · rw [e 2 (by omega), e 5 (by omega)]; exact h3
section WWV
variable {g : ww_G} {M M1 : ww_M} {x : Nat} {ar : Nat → Nat} {n w : Nat} {S1 : Nat → Nat → Int32}
theorem ww_up_e (hu : ww_up x ar M S1 M1) : q_S M1 x ar = S1 := hu.2.2.2.2.2.2
theorem u_isPart_t (hM : ww_mo x ar M.1 M.2.2.1) (hu : ww_up x ar M S1 M1) (hG : q_G S1 n) {j : Nat} (hj : j < n) : ww_C g wy_X7_isPart 2 0 0 [.ref x, .int (nI j)] M1 (ww_ret (some (.int 1)) M1) ww_no := by
  obtain rfl := ww_up_e hu
  exact m_isPart_t (ww_up_mo hM hu) hG.1 hG.2.1 hj
theorem u_isPart_f (hM : ww_mo x ar M.1 M.2.2.1) (hu : ww_up x ar M S1 M1) (hG : q_G S1 n) {p : Int32} (hp : q_noP n p) : ww_C g wy_X7_isPart 2 0 0 [.ref x, .int p] M1 (ww_ret (some (.int 0)) M1) ww_no := by
  obtain rfl := ww_up_e hu
  exact m_isPart_f (ww_up_mo hM hu) hG.1 hG.2.1 hp
theorem u_kind_1 (hM : ww_mo x ar M.1 M.2.2.1) (hu : ww_up x ar M S1 M1) (hG : q_G S1 n) {p : Int32} (k : Int32) (hp : q_noP n p) : ww_C g wy_X7_kindCode 3 0 0 [.ref x, .int p, .int k] M1 (ww_ret (some (.int 1)) M1) ww_no := by
  obtain rfl := ww_up_e hu
  exact m_kindCode_f (ww_up_mo hM hu) hG.1 hG.2.1 k hp
theorem u_kind_2 (hM : ww_mo x ar M.1 M.2.2.1) (hu : ww_up x ar M S1 M1) (hG : q_G S1 n) {j : Nat} (hj : j < n) {k : Int32} (hk : ¬ S1 2 j = k) : ww_C g wy_X7_kindCode 3 0 0 [.ref x, .int (nI j), .int k] M1 (ww_ret (some (.int 2)) M1) ww_no := by
  obtain rfl := ww_up_e hu
  have h := m_kindCode_t (g := g) (ww_up_mo hM hu) hG.1 hG.2.1 hj k
  rw [if_neg (show ¬ ww_X M1 (ar 2) j = k from hk)] at h
  exact h
theorem u_kind_0 (hM : ww_mo x ar M.1 M.2.2.1) (hu : ww_up x ar M S1 M1) (hG : q_G S1 n) {j : Nat} (hj : j < n) {k : Int32} (hk : S1 2 j = k) : ww_C g wy_X7_kindCode 3 0 0 [.ref x, .int (nI j), .int k] M1 (ww_ret (some (.int 0)) M1) ww_no := by
  obtain rfl := ww_up_e hu
  have h := m_kindCode_t (g := g) (ww_up_mo hM hu) hG.1 hG.2.1 hj k
  rw [if_pos (show ww_X M1 (ar 2) j = k from hk)] at h
  exact h
theorem u_headOf (hM : ww_mo x ar M.1 M.2.2.1) (hu : ww_up x ar M S1 M1) (hG : q_G S1 n) {p : Nat} (hp : p < n) : ww_C g wy_X7_headOf 1 0 0 [.ref x, .int (nI p)] M1 (ww_ret (some (.int (nI (q_hd (S1 5) 5 p)))) M1) ww_no := by
  obtain rfl := ww_up_e hu
  exact m_headOf (ww_up_mo hM hu) hG.2.2.1 hG.2.1 hp
theorem u_bound_t (hM : ww_mo x ar M.1 M.2.2.1) (hu : ww_up x ar M S1 M1) (hG : q_G S1 n) {p : Nat} (hp : p < n) (hb : q_bound S1 p) : ww_C g wy_X7_isBound 2 0 0 [.ref x, .int (nI p)] M1 (ww_ret (some (.int 1)) M1) ww_no := by
  obtain rfl := ww_up_e hu
  exact m_bound_t (ww_up_mo hM hu) hG.2.2.1 hG.2.1 hp hb
theorem u_bound_f (hM : ww_mo x ar M.1 M.2.2.1) (hu : ww_up x ar M S1 M1) (hG : q_G S1 n) {p : Nat} (hp : p < n) (hb : ¬ q_bound S1 p) : ww_C g wy_X7_isBound 2 0 0 [.ref x, .int (nI p)] M1 (ww_ret (some (.int 0)) M1) ww_no := by
  obtain rfl := ww_up_e hu
  exact m_bound_f (ww_up_mo hM hu) hG.2.2.1 hG.2.1 hG.2.2.2.2.2.2.1 hp hb
theorem u_isIn (hM : ww_mo x ar M.1 M.2.2.1) (hu : ww_up x ar M S1 M1) (hG : q_G S1 n) {p t : Nat} (hp : p < n) (ht : t < n) (ht0 : S1 5 t < 0) : ww_C g wy_X7_isIn 2 0 0 [.ref x, .int (nI p), .int (nI t)] M1 (ww_ret (some (.int (ww_b (q_hd (S1 5) 5 p = t)))) M1) ww_no := by
  obtain rfl := ww_up_e hu
  exact m_isIn (ww_up_mo hM hu) hG.2.2.1 hG.2.1 hp ht ht0
theorem u_inside (hM : ww_mo x ar M.1 M.2.2.1) (hu : ww_up x ar M S1 M1) (hG : q_G S1 n) (h : Int32) : ww_C g wy_X7_inside 1 0 0 [.ref x, .int h, .int (-1)] M1 (ww_ret (some (.int (nI (q_in S1 n h)))) M1) ww_no := by
  obtain rfl := ww_up_e hu
  exact m_inside (ww_up_mo hM hu) hG.1 hG.2.1 h
theorem u_insideK (hM : ww_mo x ar M.1 M.2.2.1) (hu : ww_up x ar M S1 M1) (hG : q_G S1 n) (h k : Int32) (hk : ¬ k = -1) : ww_C g wy_X7_inside 1 0 0 [.ref x, .int h, .int k] M1 (ww_ret (some (.int (nI (q_inK S1 n h k)))) M1) ww_no := by
  obtain rfl := ww_up_e hu
  exact m_insideK (ww_up_mo hM hu) hG.1 hG.2.1 h k hk
theorem u_wheelsetOf (hM : ww_mo x ar M.1 M.2.2.1) (hu : ww_up x ar M S1 M1) (hG : q_G S1 n) (h b : Int32) : ww_C g wy_X7_wheelsetOf 1 0 0 [.ref x, .int h, .int b] M1 (ww_ret (some (.int (q_ws S1 h (¬ b = 0) n))) M1) ww_no := by
  obtain rfl := ww_up_e hu
  exact m_wheelsetOf (ww_up_mo hM hu) hG.1 hG.2.1 h b
theorem u_barOf (hM : ww_mo x ar M.1 M.2.2.1) (hu : ww_up x ar M S1 M1) (hG : q_G S1 n) {t : Nat} (ht : t < n) (ht0 : S1 5 t < 0) : ww_C g wy_X7_barOf 4 0 0 [.ref x, .int (nI t)] M1 (ww_ret (some (.int (nI (q_code (q_bar S1 n t 7 1))))) M1) ww_no := by
  obtain rfl := ww_up_e hu
  exact m_barOf (ww_up_mo hM hu) hG.2.2.1 hG.1 hG.2.1 hG.2.2.2.1 hG.2.2.2.2.1 ht ht0
theorem u_movesOfPart (hM : ww_mo x ar M.1 M.2.2.1) (hu : ww_up x ar M S1 M1) (hw : S1 23 0 = nI w) (h4 : w ≤ 4000) (v : Int32) : ww_C g wy_X7_movesOfPart 1 0 0 [.ref x, .int v] M1 (ww_ret (some (.int (nI (q_cnt (fun k => S1 24 k = v) w)))) M1) ww_no := by
  obtain rfl := ww_up_e hu
  exact m_movesOfPart (ww_up_mo hM hu) hw h4 v
theorem u_waits_t (hM : ww_mo x ar M.1 M.2.2.1) (hu : ww_up x ar M S1 M1) (hw : S1 26 0 = nI w) (h8 : w ≤ 8) {v : Int32} (h : q_wait S1 w v) : ww_C g wy_X7_waits 1 0 0 [.ref x, .int v] M1 (ww_ret (some (.int 1)) M1) ww_no := by
  obtain rfl := ww_up_e hu
  exact m_waits_t (ww_up_mo hM hu) hw h8 h
theorem u_waits_f (hM : ww_mo x ar M.1 M.2.2.1) (hu : ww_up x ar M S1 M1) (hw : S1 26 0 = nI w) (h8 : w ≤ 8) {v : Int32} (h : ¬ q_wait S1 w v) : ww_C g wy_X7_waits 1 0 0 [.ref x, .int v] M1 (ww_ret (some (.int 0)) M1) ww_no := by
  obtain rfl := ww_up_e hu
  exact m_waits_f (ww_up_mo hM hu) hw h8 h
theorem u_ends (hM : ww_mo x ar M.1 M.2.2.1) (hu : ww_up x ar M S1 M1) (hG : q_G S1 n) {p : Nat} (hp : p < n) : ww_C g wy_X7_ends 2 0 0 [.ref x, .int (nI p)] M1 (ww_ru x ar M none (ww_u2 S1 11 (q_hd (S1 5) 5 p) 0)) ww_no := by
  refine ww_C_mono (m_ends (ww_up_mo hM hu) (show q_gh n (q_S M1 x ar 2) (q_S M1 x ar 5) by rw [ww_up_e hu]; exact hG.2.2.1) hG.2.1 hp) (fun v M' h => ?_) (fun _ _ h => h)
  obtain ⟨rfl, rfl⟩ := h
  refine ⟨rfl, ?_⟩
  have h := ww_up_sX (k := 11) (i := q_hd (S1 5) 5 p) (v := 0) hM rfl hu
  have e : ww_X M1 (ar 5) = S1 5 := congrFun (ww_up_e hu) 5
  rw [e]
  exact h
theorem u_goes (hM : ww_mo x ar M.1 M.2.2.1) (hu : ww_up x ar M S1 M1) {p : Nat} (hp : p < 60) (d s : Int32) : ww_C g wy_X7_goes 2 0 0 [.ref x, .int (nI p), .int d, .int s] M1 (ww_ru x ar M none (q_go S1 p d s)) ww_no := by
  obtain rfl := ww_up_e hu
  exact ww_C_mono (m_goes (ww_up_mo hM hu) hp d s) (fun v M' h => ⟨h.1, ww_up_tr hu h.2⟩) (fun _ _ h => h)
/-! examine -/
def q_exam (S : Nat → Nat → Int32) (p : Nat) : Prop := ¬ S 21 (q_kd S p) ≤ 0 ∧ ¬ S 7 p < S 21 (q_kd S p) - S 22 (q_kd S p) ∧ ¬ S 5 p = -2 ∧ ¬ q_bound S p
set_option maxRecDepth 20000 in
set_option maxHeartbeats 4000000 in
theorem m_examine_1 (hM : ww_mo x ar M.1 M.2.2.1) (hG : q_G (q_S M x ar) n) {p : Int32} (hc : q_noP n p) : ww_C g wy_X7_examine 3 0 0 [.ref x, .int p] M (ww_ru x ar M (some (.int 0)) (q_us (q_S M x ar) 0 1)) ww_no := by
  refine ww_ent (by decide +kernel) (Nat.le_of_ble_eq_true rfl) ⟨rfl, rfl, trivial⟩ ?_
  have hu : ww_up x ar M (q_S M x ar) M := ww_up_rf
  refine ww_aload_n (i := 0) dX7_examine_0 rfl rfl ?_
  refine ww_aload_n (i := 0) dX7_examine_1 rfl rfl ?_
  refine ww_iload_n (i := 1) dX7_examine_2 rfl rfl ?_
  refine ww_callV (κ := 8) (r := (RX7, TX7, 33)) wk_X7_109 dX7_examine_3 (u_isPart_f hM hu hG hc) rfl rfl (show ww_is _ _ 8 from (ww_up_mo hM hu).1).1 (show ww_is _ _ 8 from (ww_up_mo hM hu).1).2 rfl rfl (by omega) (by omega) (by omega) (by first | exact Nat.le_of_ble_eq_true rfl | (simp [ww_rf_cat, Value.category])) rfl (fun E M9 h9 => h9.elim) (fun v9 M9 h9 => ?_)
  obtain ⟨rfl, rfl⟩ := h9
  refine ww_if_eq_t (tgt := 13) dX7_examine_6 (by decide) (by decide) ?_
  refine ww_iconst (v := 1) dX7_examine_13 (by decide) ?_
  refine ww_pputI (k := 0) hM hu dX7_examine_14 wf_X7_98 wt_8_0 rfl rfl rfl rfl (fun M1 hu => ?_)
  refine ww_aload_n (i := 0) dX7_examine_17 rfl rfl ?_
  refine ww_pgetI (k := 0) hM hu dX7_examine_18 wf_X7_98 rfl rfl (q_us_s) ?_
  refine ww_if_le_f (tgt := 26) dX7_examine_21 (by decide) (by decide) ?_
  refine ww_iconst (v := 0) dX7_examine_24 (by decide) ?_
  exact ww_ireturn dX7_examine_25 rfl (by first | rfl | exact ww_b_nar) ⟨rfl, hu⟩
set_option maxRecDepth 20000 in
set_option maxHeartbeats 4000000 in
theorem m_examine_2 (hM : ww_mo x ar M.1 M.2.2.1) (hG : q_G (q_S M x ar) n) {p : Nat} (hp : p < n) (hc : ¬ q_exam (q_S M x ar) p) : ww_C g wy_X7_examine 3 0 0 [.ref x, .int (nI p)] M (ww_ru x ar M (some (.int 0)) (q_us (q_S M x ar) 0 2)) ww_no := by
  refine ww_ent (by decide +kernel) (Nat.le_of_ble_eq_true rfl) ⟨rfl, rfl, trivial⟩ ?_
  have hu : ww_up x ar M (q_S M x ar) M := ww_up_rf
  have hk := q_kd_of hG.2.2.1 hp
  have h6 := hG.2.1
  by_cases c1 : (q_S M x ar) 21 (q_kd (q_S M x ar) p) ≤ 0
  · refine ww_aload_n (i := 0) dX7_examine_0 rfl rfl ?_
    refine ww_aload_n (i := 0) dX7_examine_1 rfl rfl ?_
    refine ww_iload_n (i := 1) dX7_examine_2 rfl rfl ?_
    refine ww_callV (κ := 8) (r := (RX7, TX7, 33)) wk_X7_109 dX7_examine_3 (u_isPart_t hM hu hG hp) rfl rfl (show ww_is _ _ 8 from (ww_up_mo hM hu).1).1 (show ww_is _ _ 8 from (ww_up_mo hM hu).1).2 rfl rfl (by omega) (by omega) (by omega) (by first | exact Nat.le_of_ble_eq_true rfl | (simp [ww_rf_cat, Value.category])) rfl (fun E M9 h9 => h9.elim) (fun v9 M9 h9 => ?_)
    obtain ⟨rfl, rfl⟩ := h9
    refine ww_if_eq_f (tgt := 13) dX7_examine_6 (by decide) (by decide) ?_
    refine ww_iconst (v := 0) dX7_examine_9 (by decide) ?_
    refine ww_goto (tgt := 14) dX7_examine_10 (by decide) ?_
    refine ww_pputI (k := 0) hM hu dX7_examine_14 wf_X7_98 wt_8_0 rfl rfl rfl rfl (fun M1 hu => ?_)
    refine ww_aload_n (i := 0) dX7_examine_17 rfl rfl ?_
    refine ww_pgetI (k := 0) hM hu dX7_examine_18 wf_X7_98 rfl rfl (q_us_s) ?_
    refine ww_if_le_t (tgt := 26) dX7_examine_21 (by decide) (by decide) ?_
    refine ww_aload_n (i := 0) dX7_examine_26 rfl rfl ?_
    refine ww_getR (f := 341) wf_X7_68 dX7_examine_27 rfl rfl (ww_up_mo hM hu).1.1 (ww_up_mo hM hu).1.2 ((ww_up_mo hM hu).2.1 21 rfl) ?_
    refine ww_aload_n (i := 0) dX7_examine_30 rfl rfl ?_
    refine ww_getR (f := 322) wf_X7_7 dX7_examine_31 rfl rfl (ww_up_mo hM hu).1.1 (ww_up_mo hM hu).1.2 ((ww_up_mo hM hu).2.1 2 rfl) ?_
    refine ww_iload_n (i := 1) dX7_examine_34 rfl rfl ?_
    refine ww_pald (k := 2) hM hu dX7_examine_35 rfl rfl rfl (show _ < 60 by omega) ((q_us_n (by decide)).trans (rfl)) ?_
    refine ww_pald (k := 21) hM hu dX7_examine_36 rfl rfl hk.1 hk.2 ((q_us_n (by decide)).trans (rfl)) ?_
    refine ww_istore_n (i := 2) (lv2 := [(0, _), (1, _), (2, _)]) dX7_examine_37 rfl (Nat.le_of_ble_eq_true rfl) rfl ?_
    refine ww_iload_n (i := 2) dX7_examine_38 rfl rfl ?_
    refine ww_if_le_t (tgt := 87) dX7_examine_39 (by decide) c1 ?_
    refine ww_iconst (v := 0) dX7_examine_87 (by decide) ?_
    refine ww_istore_n (i := 3) (lv2 := [(0, _), (1, _), (2, _), (3, _)]) dX7_examine_88 rfl (Nat.le_of_ble_eq_true rfl) rfl ?_
    refine ww_aload_n (i := 0) dX7_examine_89 rfl rfl ?_
    refine ww_iload_n (i := 3) dX7_examine_90 rfl rfl ?_
    refine ww_if_eq_t (tgt := 98) dX7_examine_91 (by decide) (by decide) ?_
    refine ww_iconst (v := 2) dX7_examine_98 (by decide) ?_
    refine ww_pputI (k := 0) hM hu dX7_examine_99 wf_X7_98 wt_8_0 rfl rfl rfl rfl (fun M1 hu => ?_)
    refine ww_aload_n (i := 0) dX7_examine_102 rfl rfl ?_
    refine ww_pgetI (k := 0) hM hu dX7_examine_103 wf_X7_98 rfl rfl (q_us_s) ?_
    refine ww_if_le_f (tgt := 111) dX7_examine_106 (by decide) (by decide) ?_
    refine ww_iconst (v := 0) dX7_examine_109 (by decide) ?_
    exact ww_ireturn dX7_examine_110 rfl (by first | rfl | exact ww_b_nar) ⟨rfl, ww_up_cg hu q_us_us⟩
  · by_cases c2 : (q_S M x ar) 7 p < (q_S M x ar) 21 (q_kd (q_S M x ar) p) - (q_S M x ar) 22 (q_kd (q_S M x ar) p)
    · refine ww_aload_n (i := 0) dX7_examine_0 rfl rfl ?_
      refine ww_aload_n (i := 0) dX7_examine_1 rfl rfl ?_
      refine ww_iload_n (i := 1) dX7_examine_2 rfl rfl ?_
      refine ww_callV (κ := 8) (r := (RX7, TX7, 33)) wk_X7_109 dX7_examine_3 (u_isPart_t hM hu hG hp) rfl rfl (show ww_is _ _ 8 from (ww_up_mo hM hu).1).1 (show ww_is _ _ 8 from (ww_up_mo hM hu).1).2 rfl rfl (by omega) (by omega) (by omega) (by first | exact Nat.le_of_ble_eq_true rfl | (simp [ww_rf_cat, Value.category])) rfl (fun E M9 h9 => h9.elim) (fun v9 M9 h9 => ?_)
      obtain ⟨rfl, rfl⟩ := h9
      refine ww_if_eq_f (tgt := 13) dX7_examine_6 (by decide) (by decide) ?_
      refine ww_iconst (v := 0) dX7_examine_9 (by decide) ?_
      refine ww_goto (tgt := 14) dX7_examine_10 (by decide) ?_
      refine ww_pputI (k := 0) hM hu dX7_examine_14 wf_X7_98 wt_8_0 rfl rfl rfl rfl (fun M1 hu => ?_)
      refine ww_aload_n (i := 0) dX7_examine_17 rfl rfl ?_
      refine ww_pgetI (k := 0) hM hu dX7_examine_18 wf_X7_98 rfl rfl (q_us_s) ?_
      refine ww_if_le_t (tgt := 26) dX7_examine_21 (by decide) (by decide) ?_
      refine ww_aload_n (i := 0) dX7_examine_26 rfl rfl ?_
      refine ww_getR (f := 341) wf_X7_68 dX7_examine_27 rfl rfl (ww_up_mo hM hu).1.1 (ww_up_mo hM hu).1.2 ((ww_up_mo hM hu).2.1 21 rfl) ?_
      refine ww_aload_n (i := 0) dX7_examine_30 rfl rfl ?_
      refine ww_getR (f := 322) wf_X7_7 dX7_examine_31 rfl rfl (ww_up_mo hM hu).1.1 (ww_up_mo hM hu).1.2 ((ww_up_mo hM hu).2.1 2 rfl) ?_
      refine ww_iload_n (i := 1) dX7_examine_34 rfl rfl ?_
      refine ww_pald (k := 2) hM hu dX7_examine_35 rfl rfl rfl (show _ < 60 by omega) ((q_us_n (by decide)).trans (rfl)) ?_
      refine ww_pald (k := 21) hM hu dX7_examine_36 rfl rfl hk.1 hk.2 ((q_us_n (by decide)).trans (rfl)) ?_
      refine ww_istore_n (i := 2) (lv2 := [(0, _), (1, _), (2, _)]) dX7_examine_37 rfl (Nat.le_of_ble_eq_true rfl) rfl ?_
      refine ww_iload_n (i := 2) dX7_examine_38 rfl rfl ?_
      refine ww_if_le_f (tgt := 87) dX7_examine_39 (by decide) c1 ?_
      refine ww_aload_n (i := 0) dX7_examine_42 rfl rfl ?_
      refine ww_getR (f := 327) wf_X7_25 dX7_examine_43 rfl rfl (ww_up_mo hM hu).1.1 (ww_up_mo hM hu).1.2 ((ww_up_mo hM hu).2.1 7 rfl) ?_
      refine ww_iload_n (i := 1) dX7_examine_46 rfl rfl ?_
      refine ww_pald (k := 7) hM hu dX7_examine_47 rfl rfl rfl (show _ < 60 by omega) ((q_us_n (by decide)).trans (rfl)) ?_
      refine ww_iload_n (i := 2) dX7_examine_48 rfl rfl ?_
      refine ww_aload_n (i := 0) dX7_examine_49 rfl rfl ?_
      refine ww_getR (f := 342) wf_X7_71 dX7_examine_50 rfl rfl (ww_up_mo hM hu).1.1 (ww_up_mo hM hu).1.2 ((ww_up_mo hM hu).2.1 22 rfl) ?_
      refine ww_aload_n (i := 0) dX7_examine_53 rfl rfl ?_
      refine ww_getR (f := 322) wf_X7_7 dX7_examine_54 rfl rfl (ww_up_mo hM hu).1.1 (ww_up_mo hM hu).1.2 ((ww_up_mo hM hu).2.1 2 rfl) ?_
      refine ww_iload_n (i := 1) dX7_examine_57 rfl rfl ?_
      refine ww_pald (k := 2) hM hu dX7_examine_58 rfl rfl rfl (show _ < 60 by omega) ((q_us_n (by decide)).trans (rfl)) ?_
      refine ww_pald (k := 22) hM hu dX7_examine_59 rfl rfl hk.1 hk.2 ((q_us_n (by decide)).trans (rfl)) ?_
      refine ww_isub dX7_examine_60 ?_
      refine ww_icmp_lt_t (tgt := 87) dX7_examine_61 (by decide) c2 ?_
      refine ww_iconst (v := 0) dX7_examine_87 (by decide) ?_
      refine ww_istore_n (i := 3) (lv2 := [(0, _), (1, _), (2, _), (3, _)]) dX7_examine_88 rfl (Nat.le_of_ble_eq_true rfl) rfl ?_
      refine ww_aload_n (i := 0) dX7_examine_89 rfl rfl ?_
      refine ww_iload_n (i := 3) dX7_examine_90 rfl rfl ?_
      refine ww_if_eq_t (tgt := 98) dX7_examine_91 (by decide) (by decide) ?_
      refine ww_iconst (v := 2) dX7_examine_98 (by decide) ?_
      refine ww_pputI (k := 0) hM hu dX7_examine_99 wf_X7_98 wt_8_0 rfl rfl rfl rfl (fun M1 hu => ?_)
      refine ww_aload_n (i := 0) dX7_examine_102 rfl rfl ?_
      refine ww_pgetI (k := 0) hM hu dX7_examine_103 wf_X7_98 rfl rfl (q_us_s) ?_
      refine ww_if_le_f (tgt := 111) dX7_examine_106 (by decide) (by decide) ?_
      refine ww_iconst (v := 0) dX7_examine_109 (by decide) ?_
      exact ww_ireturn dX7_examine_110 rfl (by first | rfl | exact ww_b_nar) ⟨rfl, ww_up_cg hu q_us_us⟩
    · by_cases c3 : (q_S M x ar) 5 p = -2
      · refine ww_aload_n (i := 0) dX7_examine_0 rfl rfl ?_
        refine ww_aload_n (i := 0) dX7_examine_1 rfl rfl ?_
        refine ww_iload_n (i := 1) dX7_examine_2 rfl rfl ?_
        refine ww_callV (κ := 8) (r := (RX7, TX7, 33)) wk_X7_109 dX7_examine_3 (u_isPart_t hM hu hG hp) rfl rfl (show ww_is _ _ 8 from (ww_up_mo hM hu).1).1 (show ww_is _ _ 8 from (ww_up_mo hM hu).1).2 rfl rfl (by omega) (by omega) (by omega) (by first | exact Nat.le_of_ble_eq_true rfl | (simp [ww_rf_cat, Value.category])) rfl (fun E M9 h9 => h9.elim) (fun v9 M9 h9 => ?_)
        obtain ⟨rfl, rfl⟩ := h9
        refine ww_if_eq_f (tgt := 13) dX7_examine_6 (by decide) (by decide) ?_
        refine ww_iconst (v := 0) dX7_examine_9 (by decide) ?_
        refine ww_goto (tgt := 14) dX7_examine_10 (by decide) ?_
        refine ww_pputI (k := 0) hM hu dX7_examine_14 wf_X7_98 wt_8_0 rfl rfl rfl rfl (fun M1 hu => ?_)
        refine ww_aload_n (i := 0) dX7_examine_17 rfl rfl ?_
        refine ww_pgetI (k := 0) hM hu dX7_examine_18 wf_X7_98 rfl rfl (q_us_s) ?_
        refine ww_if_le_t (tgt := 26) dX7_examine_21 (by decide) (by decide) ?_
        refine ww_aload_n (i := 0) dX7_examine_26 rfl rfl ?_
        refine ww_getR (f := 341) wf_X7_68 dX7_examine_27 rfl rfl (ww_up_mo hM hu).1.1 (ww_up_mo hM hu).1.2 ((ww_up_mo hM hu).2.1 21 rfl) ?_
        refine ww_aload_n (i := 0) dX7_examine_30 rfl rfl ?_
        refine ww_getR (f := 322) wf_X7_7 dX7_examine_31 rfl rfl (ww_up_mo hM hu).1.1 (ww_up_mo hM hu).1.2 ((ww_up_mo hM hu).2.1 2 rfl) ?_
        refine ww_iload_n (i := 1) dX7_examine_34 rfl rfl ?_
        refine ww_pald (k := 2) hM hu dX7_examine_35 rfl rfl rfl (show _ < 60 by omega) ((q_us_n (by decide)).trans (rfl)) ?_
        refine ww_pald (k := 21) hM hu dX7_examine_36 rfl rfl hk.1 hk.2 ((q_us_n (by decide)).trans (rfl)) ?_
        refine ww_istore_n (i := 2) (lv2 := [(0, _), (1, _), (2, _)]) dX7_examine_37 rfl (Nat.le_of_ble_eq_true rfl) rfl ?_
        refine ww_iload_n (i := 2) dX7_examine_38 rfl rfl ?_
        refine ww_if_le_f (tgt := 87) dX7_examine_39 (by decide) c1 ?_
        refine ww_aload_n (i := 0) dX7_examine_42 rfl rfl ?_
        refine ww_getR (f := 327) wf_X7_25 dX7_examine_43 rfl rfl (ww_up_mo hM hu).1.1 (ww_up_mo hM hu).1.2 ((ww_up_mo hM hu).2.1 7 rfl) ?_
        refine ww_iload_n (i := 1) dX7_examine_46 rfl rfl ?_
        refine ww_pald (k := 7) hM hu dX7_examine_47 rfl rfl rfl (show _ < 60 by omega) ((q_us_n (by decide)).trans (rfl)) ?_
        refine ww_iload_n (i := 2) dX7_examine_48 rfl rfl ?_
        refine ww_aload_n (i := 0) dX7_examine_49 rfl rfl ?_
        refine ww_getR (f := 342) wf_X7_71 dX7_examine_50 rfl rfl (ww_up_mo hM hu).1.1 (ww_up_mo hM hu).1.2 ((ww_up_mo hM hu).2.1 22 rfl) ?_
        refine ww_aload_n (i := 0) dX7_examine_53 rfl rfl ?_
        refine ww_getR (f := 322) wf_X7_7 dX7_examine_54 rfl rfl (ww_up_mo hM hu).1.1 (ww_up_mo hM hu).1.2 ((ww_up_mo hM hu).2.1 2 rfl) ?_
        refine ww_iload_n (i := 1) dX7_examine_57 rfl rfl ?_
        refine ww_pald (k := 2) hM hu dX7_examine_58 rfl rfl rfl (show _ < 60 by omega) ((q_us_n (by decide)).trans (rfl)) ?_
        refine ww_pald (k := 22) hM hu dX7_examine_59 rfl rfl hk.1 hk.2 ((q_us_n (by decide)).trans (rfl)) ?_
        refine ww_isub dX7_examine_60 ?_
        refine ww_icmp_lt_f (tgt := 87) dX7_examine_61 (by decide) c2 ?_
        refine ww_aload_n (i := 0) dX7_examine_64 rfl rfl ?_
        refine ww_getR (f := 325) wf_X7_19 dX7_examine_65 rfl rfl (ww_up_mo hM hu).1.1 (ww_up_mo hM hu).1.2 ((ww_up_mo hM hu).2.1 5 rfl) ?_
        refine ww_iload_n (i := 1) dX7_examine_68 rfl rfl ?_
        refine ww_pald (k := 5) hM hu dX7_examine_69 rfl rfl rfl (show _ < 60 by omega) ((q_us_n (by decide)).trans (rfl)) ?_
        refine ww_bipush (v := (-2)) dX7_examine_70 (by decide) ?_
        refine ww_icmp_eq_t (tgt := 87) dX7_examine_72 (by decide) c3 ?_
        refine ww_iconst (v := 0) dX7_examine_87 (by decide) ?_
        refine ww_istore_n (i := 3) (lv2 := [(0, _), (1, _), (2, _), (3, _)]) dX7_examine_88 rfl (Nat.le_of_ble_eq_true rfl) rfl ?_
        refine ww_aload_n (i := 0) dX7_examine_89 rfl rfl ?_
        refine ww_iload_n (i := 3) dX7_examine_90 rfl rfl ?_
        refine ww_if_eq_t (tgt := 98) dX7_examine_91 (by decide) (by decide) ?_
        refine ww_iconst (v := 2) dX7_examine_98 (by decide) ?_
        refine ww_pputI (k := 0) hM hu dX7_examine_99 wf_X7_98 wt_8_0 rfl rfl rfl rfl (fun M1 hu => ?_)
        refine ww_aload_n (i := 0) dX7_examine_102 rfl rfl ?_
        refine ww_pgetI (k := 0) hM hu dX7_examine_103 wf_X7_98 rfl rfl (q_us_s) ?_
        refine ww_if_le_f (tgt := 111) dX7_examine_106 (by decide) (by decide) ?_
        refine ww_iconst (v := 0) dX7_examine_109 (by decide) ?_
        exact ww_ireturn dX7_examine_110 rfl (by first | rfl | exact ww_b_nar) ⟨rfl, ww_up_cg hu q_us_us⟩
      · have c4 : q_bound (q_S M x ar) p := Classical.not_not.mp fun z => hc ⟨c1, c2, c3, z⟩
        refine ww_aload_n (i := 0) dX7_examine_0 rfl rfl ?_
        refine ww_aload_n (i := 0) dX7_examine_1 rfl rfl ?_
        refine ww_iload_n (i := 1) dX7_examine_2 rfl rfl ?_
        refine ww_callV (κ := 8) (r := (RX7, TX7, 33)) wk_X7_109 dX7_examine_3 (u_isPart_t hM hu hG hp) rfl rfl (show ww_is _ _ 8 from (ww_up_mo hM hu).1).1 (show ww_is _ _ 8 from (ww_up_mo hM hu).1).2 rfl rfl (by omega) (by omega) (by omega) (by first | exact Nat.le_of_ble_eq_true rfl | (simp [ww_rf_cat, Value.category])) rfl (fun E M9 h9 => h9.elim) (fun v9 M9 h9 => ?_)
        obtain ⟨rfl, rfl⟩ := h9
        refine ww_if_eq_f (tgt := 13) dX7_examine_6 (by decide) (by decide) ?_
        refine ww_iconst (v := 0) dX7_examine_9 (by decide) ?_
        refine ww_goto (tgt := 14) dX7_examine_10 (by decide) ?_
        refine ww_pputI (k := 0) hM hu dX7_examine_14 wf_X7_98 wt_8_0 rfl rfl rfl rfl (fun M1 hu => ?_)
        refine ww_aload_n (i := 0) dX7_examine_17 rfl rfl ?_
        refine ww_pgetI (k := 0) hM hu dX7_examine_18 wf_X7_98 rfl rfl (q_us_s) ?_
        refine ww_if_le_t (tgt := 26) dX7_examine_21 (by decide) (by decide) ?_
        refine ww_aload_n (i := 0) dX7_examine_26 rfl rfl ?_
        refine ww_getR (f := 341) wf_X7_68 dX7_examine_27 rfl rfl (ww_up_mo hM hu).1.1 (ww_up_mo hM hu).1.2 ((ww_up_mo hM hu).2.1 21 rfl) ?_
        refine ww_aload_n (i := 0) dX7_examine_30 rfl rfl ?_
        refine ww_getR (f := 322) wf_X7_7 dX7_examine_31 rfl rfl (ww_up_mo hM hu).1.1 (ww_up_mo hM hu).1.2 ((ww_up_mo hM hu).2.1 2 rfl) ?_
        refine ww_iload_n (i := 1) dX7_examine_34 rfl rfl ?_
        refine ww_pald (k := 2) hM hu dX7_examine_35 rfl rfl rfl (show _ < 60 by omega) ((q_us_n (by decide)).trans (rfl)) ?_
        refine ww_pald (k := 21) hM hu dX7_examine_36 rfl rfl hk.1 hk.2 ((q_us_n (by decide)).trans (rfl)) ?_
        refine ww_istore_n (i := 2) (lv2 := [(0, _), (1, _), (2, _)]) dX7_examine_37 rfl (Nat.le_of_ble_eq_true rfl) rfl ?_
        refine ww_iload_n (i := 2) dX7_examine_38 rfl rfl ?_
        refine ww_if_le_f (tgt := 87) dX7_examine_39 (by decide) c1 ?_
        refine ww_aload_n (i := 0) dX7_examine_42 rfl rfl ?_
        refine ww_getR (f := 327) wf_X7_25 dX7_examine_43 rfl rfl (ww_up_mo hM hu).1.1 (ww_up_mo hM hu).1.2 ((ww_up_mo hM hu).2.1 7 rfl) ?_
        refine ww_iload_n (i := 1) dX7_examine_46 rfl rfl ?_
        refine ww_pald (k := 7) hM hu dX7_examine_47 rfl rfl rfl (show _ < 60 by omega) ((q_us_n (by decide)).trans (rfl)) ?_
        refine ww_iload_n (i := 2) dX7_examine_48 rfl rfl ?_
        refine ww_aload_n (i := 0) dX7_examine_49 rfl rfl ?_
        refine ww_getR (f := 342) wf_X7_71 dX7_examine_50 rfl rfl (ww_up_mo hM hu).1.1 (ww_up_mo hM hu).1.2 ((ww_up_mo hM hu).2.1 22 rfl) ?_
        refine ww_aload_n (i := 0) dX7_examine_53 rfl rfl ?_
        refine ww_getR (f := 322) wf_X7_7 dX7_examine_54 rfl rfl (ww_up_mo hM hu).1.1 (ww_up_mo hM hu).1.2 ((ww_up_mo hM hu).2.1 2 rfl) ?_
        refine ww_iload_n (i := 1) dX7_examine_57 rfl rfl ?_
        refine ww_pald (k := 2) hM hu dX7_examine_58 rfl rfl rfl (show _ < 60 by omega) ((q_us_n (by decide)).trans (rfl)) ?_
        refine ww_pald (k := 22) hM hu dX7_examine_59 rfl rfl hk.1 hk.2 ((q_us_n (by decide)).trans (rfl)) ?_
        refine ww_isub dX7_examine_60 ?_
        refine ww_icmp_lt_f (tgt := 87) dX7_examine_61 (by decide) c2 ?_
        refine ww_aload_n (i := 0) dX7_examine_64 rfl rfl ?_
        refine ww_getR (f := 325) wf_X7_19 dX7_examine_65 rfl rfl (ww_up_mo hM hu).1.1 (ww_up_mo hM hu).1.2 ((ww_up_mo hM hu).2.1 5 rfl) ?_
        refine ww_iload_n (i := 1) dX7_examine_68 rfl rfl ?_
        refine ww_pald (k := 5) hM hu dX7_examine_69 rfl rfl rfl (show _ < 60 by omega) ((q_us_n (by decide)).trans (rfl)) ?_
        refine ww_bipush (v := (-2)) dX7_examine_70 (by decide) ?_
        refine ww_icmp_eq_f (tgt := 87) dX7_examine_72 (by decide) c3 ?_
        refine ww_aload_n (i := 0) dX7_examine_75 rfl rfl ?_
        refine ww_iload_n (i := 1) dX7_examine_76 rfl rfl ?_
        refine ww_callV (κ := 8) (r := (RX7, TX7, 33)) wk_X7_125 dX7_examine_77 (u_bound_t hM hu (q_G_c hG) hp c4) rfl rfl (show ww_is _ _ 8 from (ww_up_mo hM hu).1).1 (show ww_is _ _ 8 from (ww_up_mo hM hu).1).2 rfl rfl (by omega) (by omega) (by omega) (by first | exact Nat.le_of_ble_eq_true rfl | (simp [ww_rf_cat, Value.category])) rfl (fun E M9 h9 => h9.elim) (fun v9 M9 h9 => ?_)
        obtain ⟨rfl, rfl⟩ := h9
        refine ww_if_ne_t (tgt := 87) dX7_examine_80 (by decide) (by decide) ?_
        refine ww_iconst (v := 0) dX7_examine_87 (by decide) ?_
        refine ww_istore_n (i := 3) (lv2 := [(0, _), (1, _), (2, _), (3, _)]) dX7_examine_88 rfl (Nat.le_of_ble_eq_true rfl) rfl ?_
        refine ww_aload_n (i := 0) dX7_examine_89 rfl rfl ?_
        refine ww_iload_n (i := 3) dX7_examine_90 rfl rfl ?_
        refine ww_if_eq_t (tgt := 98) dX7_examine_91 (by decide) (by decide) ?_
        refine ww_iconst (v := 2) dX7_examine_98 (by decide) ?_
        refine ww_pputI (k := 0) hM hu dX7_examine_99 wf_X7_98 wt_8_0 rfl rfl rfl rfl (fun M1 hu => ?_)
        refine ww_aload_n (i := 0) dX7_examine_102 rfl rfl ?_
        refine ww_pgetI (k := 0) hM hu dX7_examine_103 wf_X7_98 rfl rfl (q_us_s) ?_
        refine ww_if_le_f (tgt := 111) dX7_examine_106 (by decide) (by decide) ?_
        refine ww_iconst (v := 0) dX7_examine_109 (by decide) ?_
        exact ww_ireturn dX7_examine_110 rfl (by first | rfl | exact ww_b_nar) ⟨rfl, ww_up_cg hu q_us_us⟩
set_option maxRecDepth 20000 in
set_option maxHeartbeats 4000000 in
theorem m_examine_0 (hM : ww_mo x ar M.1 M.2.2.1) (hG : q_G (q_S M x ar) n) {p : Nat} (hp : p < n) (hc : q_exam (q_S M x ar) p) : ww_C g wy_X7_examine 3 0 0 [.ref x, .int (nI p)] M (ww_ru x ar M (some (.int ((q_S M x ar) 7 p))) (ww_u2 (ww_u2 (q_us (q_S M x ar) 0 0) 7 p 0) 8 p 0)) ww_no := by
  refine ww_ent (by decide +kernel) (Nat.le_of_ble_eq_true rfl) ⟨rfl, rfl, trivial⟩ ?_
  have hu : ww_up x ar M (q_S M x ar) M := ww_up_rf
  have hk := q_kd_of hG.2.2.1 hp
  have h6 := hG.2.1
  obtain ⟨c1, c2, c3, c4⟩ := hc
  refine ww_aload_n (i := 0) dX7_examine_0 rfl rfl ?_
  refine ww_aload_n (i := 0) dX7_examine_1 rfl rfl ?_
  refine ww_iload_n (i := 1) dX7_examine_2 rfl rfl ?_
  refine ww_callV (κ := 8) (r := (RX7, TX7, 33)) wk_X7_109 dX7_examine_3 (u_isPart_t hM hu hG hp) rfl rfl (show ww_is _ _ 8 from (ww_up_mo hM hu).1).1 (show ww_is _ _ 8 from (ww_up_mo hM hu).1).2 rfl rfl (by omega) (by omega) (by omega) (by first | exact Nat.le_of_ble_eq_true rfl | (simp [ww_rf_cat, Value.category])) rfl (fun E M9 h9 => h9.elim) (fun v9 M9 h9 => ?_)
  obtain ⟨rfl, rfl⟩ := h9
  refine ww_if_eq_f (tgt := 13) dX7_examine_6 (by decide) (by decide) ?_
  refine ww_iconst (v := 0) dX7_examine_9 (by decide) ?_
  refine ww_goto (tgt := 14) dX7_examine_10 (by decide) ?_
  refine ww_pputI (k := 0) hM hu dX7_examine_14 wf_X7_98 wt_8_0 rfl rfl rfl rfl (fun M1 hu => ?_)
  refine ww_aload_n (i := 0) dX7_examine_17 rfl rfl ?_
  refine ww_pgetI (k := 0) hM hu dX7_examine_18 wf_X7_98 rfl rfl (q_us_s) ?_
  refine ww_if_le_t (tgt := 26) dX7_examine_21 (by decide) (by decide) ?_
  refine ww_aload_n (i := 0) dX7_examine_26 rfl rfl ?_
  refine ww_getR (f := 341) wf_X7_68 dX7_examine_27 rfl rfl (ww_up_mo hM hu).1.1 (ww_up_mo hM hu).1.2 ((ww_up_mo hM hu).2.1 21 rfl) ?_
  refine ww_aload_n (i := 0) dX7_examine_30 rfl rfl ?_
  refine ww_getR (f := 322) wf_X7_7 dX7_examine_31 rfl rfl (ww_up_mo hM hu).1.1 (ww_up_mo hM hu).1.2 ((ww_up_mo hM hu).2.1 2 rfl) ?_
  refine ww_iload_n (i := 1) dX7_examine_34 rfl rfl ?_
  refine ww_pald (k := 2) hM hu dX7_examine_35 rfl rfl rfl (show _ < 60 by omega) ((q_us_n (by decide)).trans (rfl)) ?_
  refine ww_pald (k := 21) hM hu dX7_examine_36 rfl rfl hk.1 hk.2 ((q_us_n (by decide)).trans (rfl)) ?_
  refine ww_istore_n (i := 2) (lv2 := [(0, _), (1, _), (2, _)]) dX7_examine_37 rfl (Nat.le_of_ble_eq_true rfl) rfl ?_
  refine ww_iload_n (i := 2) dX7_examine_38 rfl rfl ?_
  refine ww_if_le_f (tgt := 87) dX7_examine_39 (by decide) c1 ?_
  refine ww_aload_n (i := 0) dX7_examine_42 rfl rfl ?_
  refine ww_getR (f := 327) wf_X7_25 dX7_examine_43 rfl rfl (ww_up_mo hM hu).1.1 (ww_up_mo hM hu).1.2 ((ww_up_mo hM hu).2.1 7 rfl) ?_
  refine ww_iload_n (i := 1) dX7_examine_46 rfl rfl ?_
  refine ww_pald (k := 7) hM hu dX7_examine_47 rfl rfl rfl (show _ < 60 by omega) ((q_us_n (by decide)).trans (rfl)) ?_
  refine ww_iload_n (i := 2) dX7_examine_48 rfl rfl ?_
  refine ww_aload_n (i := 0) dX7_examine_49 rfl rfl ?_
  refine ww_getR (f := 342) wf_X7_71 dX7_examine_50 rfl rfl (ww_up_mo hM hu).1.1 (ww_up_mo hM hu).1.2 ((ww_up_mo hM hu).2.1 22 rfl) ?_
  refine ww_aload_n (i := 0) dX7_examine_53 rfl rfl ?_
  refine ww_getR (f := 322) wf_X7_7 dX7_examine_54 rfl rfl (ww_up_mo hM hu).1.1 (ww_up_mo hM hu).1.2 ((ww_up_mo hM hu).2.1 2 rfl) ?_
  refine ww_iload_n (i := 1) dX7_examine_57 rfl rfl ?_
  refine ww_pald (k := 2) hM hu dX7_examine_58 rfl rfl rfl (show _ < 60 by omega) ((q_us_n (by decide)).trans (rfl)) ?_
  refine ww_pald (k := 22) hM hu dX7_examine_59 rfl rfl hk.1 hk.2 ((q_us_n (by decide)).trans (rfl)) ?_
  refine ww_isub dX7_examine_60 ?_
  refine ww_icmp_lt_f (tgt := 87) dX7_examine_61 (by decide) c2 ?_
  refine ww_aload_n (i := 0) dX7_examine_64 rfl rfl ?_
  refine ww_getR (f := 325) wf_X7_19 dX7_examine_65 rfl rfl (ww_up_mo hM hu).1.1 (ww_up_mo hM hu).1.2 ((ww_up_mo hM hu).2.1 5 rfl) ?_
  refine ww_iload_n (i := 1) dX7_examine_68 rfl rfl ?_
  refine ww_pald (k := 5) hM hu dX7_examine_69 rfl rfl rfl (show _ < 60 by omega) ((q_us_n (by decide)).trans (rfl)) ?_
  refine ww_bipush (v := (-2)) dX7_examine_70 (by decide) ?_
  refine ww_icmp_eq_f (tgt := 87) dX7_examine_72 (by decide) c3 ?_
  refine ww_aload_n (i := 0) dX7_examine_75 rfl rfl ?_
  refine ww_iload_n (i := 1) dX7_examine_76 rfl rfl ?_
  refine ww_callV (κ := 8) (r := (RX7, TX7, 33)) wk_X7_125 dX7_examine_77 (u_bound_f hM hu (q_G_c hG) hp c4) rfl rfl (show ww_is _ _ 8 from (ww_up_mo hM hu).1).1 (show ww_is _ _ 8 from (ww_up_mo hM hu).1).2 rfl rfl (by omega) (by omega) (by omega) (by first | exact Nat.le_of_ble_eq_true rfl | (simp [ww_rf_cat, Value.category])) rfl (fun E M9 h9 => h9.elim) (fun v9 M9 h9 => ?_)
  obtain ⟨rfl, rfl⟩ := h9
  refine ww_if_ne_f (tgt := 87) dX7_examine_80 (by decide) (by decide) ?_
  refine ww_iconst (v := 1) dX7_examine_83 (by decide) ?_
  refine ww_goto (tgt := 88) dX7_examine_84 (by decide) ?_
  refine ww_istore_n (i := 3) (lv2 := [(0, _), (1, _), (2, _), (3, _)]) dX7_examine_88 rfl (Nat.le_of_ble_eq_true rfl) rfl ?_
  refine ww_aload_n (i := 0) dX7_examine_89 rfl rfl ?_
  refine ww_iload_n (i := 3) dX7_examine_90 rfl rfl ?_
  refine ww_if_eq_f (tgt := 98) dX7_examine_91 (by decide) (by decide) ?_
  refine ww_iconst (v := 0) dX7_examine_94 (by decide) ?_
  refine ww_goto (tgt := 99) dX7_examine_95 (by decide) ?_
  refine ww_pputI (k := 0) hM hu dX7_examine_99 wf_X7_98 wt_8_0 rfl rfl rfl rfl (fun M1 hu => ?_)
  refine ww_aload_n (i := 0) dX7_examine_102 rfl rfl ?_
  refine ww_pgetI (k := 0) hM hu dX7_examine_103 wf_X7_98 rfl rfl (q_us_s) ?_
  refine ww_if_le_t (tgt := 111) dX7_examine_106 (by decide) (by decide) ?_
  -- at 111, locals [0, 1, 2, 3]
  refine ww_mem _ rfl ?_
  refine ww_aload_n (i := 0) dX7_examine_111 rfl rfl ?_
  refine ww_getR (f := 327) wf_X7_25 dX7_examine_112 rfl rfl (ww_up_mo hM hu).1.1 (ww_up_mo hM hu).1.2 ((ww_up_mo hM hu).2.1 7 rfl) ?_
  refine ww_iload_n (i := 1) dX7_examine_115 rfl rfl ?_
  refine ww_pald (k := 7) hM hu dX7_examine_116 rfl rfl rfl (show _ < 60 by omega) ((q_us_n (by decide)).trans ((q_us_n (by decide)).trans (rfl))) ?_
  refine ww_istore (i := 4) (lv2 := [(0, _), (1, _), (2, _), (3, _), (4, _)]) dX7_examine_117 (Nat.le_of_ble_eq_true rfl) rfl ?_
  refine ww_aload_n (i := 0) dX7_examine_119 rfl rfl ?_
  refine ww_getR (f := 327) wf_X7_25 dX7_examine_120 rfl rfl (ww_up_mo hM hu).1.1 (ww_up_mo hM hu).1.2 ((ww_up_mo hM hu).2.1 7 rfl) ?_
  refine ww_iload_n (i := 1) dX7_examine_123 rfl rfl ?_
  refine ww_iconst (v := 0) dX7_examine_124 (by decide) ?_
  refine ww_past (k := 7) hM hu dX7_examine_125 rfl rfl rfl (show _ < 60 by omega) (fun M1 hu => ?_)
  refine ww_aload_n (i := 0) dX7_examine_126 rfl rfl ?_
  refine ww_getR (f := 328) wf_X7_28 dX7_examine_127 rfl rfl (ww_up_mo hM hu).1.1 (ww_up_mo hM hu).1.2 ((ww_up_mo hM hu).2.1 8 rfl) ?_
  refine ww_iload_n (i := 1) dX7_examine_130 rfl rfl ?_
  refine ww_iconst (v := 0) dX7_examine_131 (by decide) ?_
  refine ww_past (k := 8) hM hu dX7_examine_132 rfl rfl rfl (show _ < 60 by omega) (fun M1 hu => ?_)
  refine ww_iload (i := 4) dX7_examine_133 rfl ?_
  exact ww_ireturn dX7_examine_135 rfl (by first | rfl | exact ww_b_nar) ⟨rfl, ww_up_cg hu (by rw [q_us_us])⟩
/-! waive -/
def q_waive (S : Nat → Nat → Int32) (p : Nat) : Prop := ¬ S 21 (q_kd S p) = 0 ∧ S 8 p ≤ 0
set_option maxRecDepth 20000 in
set_option maxHeartbeats 4000000 in
theorem m_waive_1 (hM : ww_mo x ar M.1 M.2.2.1) (hG : q_G (q_S M x ar) n) {p : Int32} (v : Int32) (hc : q_noP n p) : ww_C g wy_X7_waive 3 0 0 [.ref x, .int p, .int v] M (ww_ru x ar M (none) (q_us (q_S M x ar) 0 1)) ww_no := by
  refine ww_ent (by decide +kernel) (Nat.le_of_ble_eq_true rfl) ⟨rfl, rfl, rfl, trivial⟩ ?_
  have hu : ww_up x ar M (q_S M x ar) M := ww_up_rf
  refine ww_aload_n (i := 0) dX7_waive_0 rfl rfl ?_
  refine ww_aload_n (i := 0) dX7_waive_1 rfl rfl ?_
  refine ww_iload_n (i := 1) dX7_waive_2 rfl rfl ?_
  refine ww_callV (κ := 8) (r := (RX7, TX7, 33)) wk_X7_109 dX7_waive_3 (u_isPart_f hM hu hG hc) rfl rfl (show ww_is _ _ 8 from (ww_up_mo hM hu).1).1 (show ww_is _ _ 8 from (ww_up_mo hM hu).1).2 rfl rfl (by omega) (by omega) (by omega) (by first | exact Nat.le_of_ble_eq_true rfl | (simp [ww_rf_cat, Value.category])) rfl (fun E M9 h9 => h9.elim) (fun v9 M9 h9 => ?_)
  obtain ⟨rfl, rfl⟩ := h9
  refine ww_if_ne_f (tgt := 13) dX7_waive_6 (by decide) (by decide) ?_
  refine ww_iconst (v := 1) dX7_waive_9 (by decide) ?_
  refine ww_goto (tgt := 29) dX7_waive_10 (by decide) ?_
  refine ww_pputI (k := 0) hM hu dX7_waive_29 wf_X7_98 wt_8_0 rfl rfl rfl rfl (fun M1 hu => ?_)
  refine ww_aload_n (i := 0) dX7_waive_32 rfl rfl ?_
  refine ww_pgetI (k := 0) hM hu dX7_waive_33 wf_X7_98 rfl rfl (q_us_s) ?_
  refine ww_if_ne_t (tgt := 71) dX7_waive_36 (by decide) (by decide) ?_
  refine ww_aload_n (i := 0) dX7_waive_71 rfl rfl ?_
  refine ww_pgetI (k := 0) hM hu dX7_waive_72 wf_X7_98 rfl rfl (q_us_s) ?_
  refine ww_if_ne_t (tgt := 85) dX7_waive_75 (by decide) (by decide) ?_
  exact ww_vreturn dX7_waive_85 rfl ⟨rfl, hu⟩
set_option maxRecDepth 20000 in
set_option maxHeartbeats 4000000 in
theorem m_waive_2 (hM : ww_mo x ar M.1 M.2.2.1) (hG : q_G (q_S M x ar) n) {p : Nat} {v : Int32} (hp : p < n) (hv : ¬ q_rg 1 999 v) : ww_C g wy_X7_waive 3 0 0 [.ref x, .int (nI p), .int v] M (ww_ru x ar M (none) (q_us (q_S M x ar) 0 2)) ww_no := by
  refine ww_ent (by decide +kernel) (Nat.le_of_ble_eq_true rfl) ⟨rfl, rfl, rfl, trivial⟩ ?_
  have hu : ww_up x ar M (q_S M x ar) M := ww_up_rf
  refine ww_aload_n (i := 0) dX7_waive_0 rfl rfl ?_
  refine ww_aload_n (i := 0) dX7_waive_1 rfl rfl ?_
  refine ww_iload_n (i := 1) dX7_waive_2 rfl rfl ?_
  refine ww_callV (κ := 8) (r := (RX7, TX7, 33)) wk_X7_109 dX7_waive_3 (u_isPart_t hM hu hG hp) rfl rfl (show ww_is _ _ 8 from (ww_up_mo hM hu).1).1 (show ww_is _ _ 8 from (ww_up_mo hM hu).1).2 rfl rfl (by omega) (by omega) (by omega) (by first | exact Nat.le_of_ble_eq_true rfl | (simp [ww_rf_cat, Value.category])) rfl (fun E M9 h9 => h9.elim) (fun v9 M9 h9 => ?_)
  obtain ⟨rfl, rfl⟩ := h9
  refine ww_if_ne_t (tgt := 13) dX7_waive_6 (by decide) (by decide) ?_
  refine ww_iload_n (i := 2) dX7_waive_13 rfl rfl ?_
  refine ww_iconst (v := 1) dX7_waive_14 (by decide) ?_
  refine ww_sipush (v := 999) dX7_waive_15 (by decide) ?_
  refine ww_callS wk_X7_105 rfl dX7_waive_18 (m_in_f hv) rfl rfl (by omega) (by omega) (by omega) (by first | exact Nat.le_of_ble_eq_true rfl | (simp [ww_rf_cat, Value.category])) rfl (fun E M9 h9 => h9.elim) (fun v9 M9 h9 => ?_)
  obtain ⟨rfl, rfl⟩ := h9
  refine ww_if_eq_t (tgt := 28) dX7_waive_21 (by decide) (by decide) ?_
  refine ww_iconst (v := 2) dX7_waive_28 (by decide) ?_
  refine ww_pputI (k := 0) hM hu dX7_waive_29 wf_X7_98 wt_8_0 rfl rfl rfl rfl (fun M1 hu => ?_)
  refine ww_aload_n (i := 0) dX7_waive_32 rfl rfl ?_
  refine ww_pgetI (k := 0) hM hu dX7_waive_33 wf_X7_98 rfl rfl (q_us_s) ?_
  refine ww_if_ne_t (tgt := 71) dX7_waive_36 (by decide) (by decide) ?_
  refine ww_aload_n (i := 0) dX7_waive_71 rfl rfl ?_
  refine ww_pgetI (k := 0) hM hu dX7_waive_72 wf_X7_98 rfl rfl (q_us_s) ?_
  refine ww_if_ne_t (tgt := 85) dX7_waive_75 (by decide) (by decide) ?_
  exact ww_vreturn dX7_waive_85 rfl ⟨rfl, hu⟩
set_option maxRecDepth 20000 in
set_option maxHeartbeats 4000000 in
theorem m_waive_3 (hM : ww_mo x ar M.1 M.2.2.1) (hG : q_G (q_S M x ar) n) {p : Nat} {v : Int32} (hp : p < n) (hv : q_rg 1 999 v) (hc : ¬ q_waive (q_S M x ar) p) : ww_C g wy_X7_waive 3 0 0 [.ref x, .int (nI p), .int v] M (ww_ru x ar M (none) (q_us (q_S M x ar) 0 3)) ww_no := by
  refine ww_ent (by decide +kernel) (Nat.le_of_ble_eq_true rfl) ⟨rfl, rfl, rfl, trivial⟩ ?_
  have hu : ww_up x ar M (q_S M x ar) M := ww_up_rf
  have hk := q_kd_of hG.2.2.1 hp
  have h6 := hG.2.1
  by_cases c1 : (q_S M x ar) 21 (q_kd (q_S M x ar) p) = 0
  · refine ww_aload_n (i := 0) dX7_waive_0 rfl rfl ?_
    refine ww_aload_n (i := 0) dX7_waive_1 rfl rfl ?_
    refine ww_iload_n (i := 1) dX7_waive_2 rfl rfl ?_
    refine ww_callV (κ := 8) (r := (RX7, TX7, 33)) wk_X7_109 dX7_waive_3 (u_isPart_t hM hu hG hp) rfl rfl (show ww_is _ _ 8 from (ww_up_mo hM hu).1).1 (show ww_is _ _ 8 from (ww_up_mo hM hu).1).2 rfl rfl (by omega) (by omega) (by omega) (by first | exact Nat.le_of_ble_eq_true rfl | (simp [ww_rf_cat, Value.category])) rfl (fun E M9 h9 => h9.elim) (fun v9 M9 h9 => ?_)
    obtain ⟨rfl, rfl⟩ := h9
    refine ww_if_ne_t (tgt := 13) dX7_waive_6 (by decide) (by decide) ?_
    refine ww_iload_n (i := 2) dX7_waive_13 rfl rfl ?_
    refine ww_iconst (v := 1) dX7_waive_14 (by decide) ?_
    refine ww_sipush (v := 999) dX7_waive_15 (by decide) ?_
    refine ww_callS wk_X7_105 rfl dX7_waive_18 (m_in_t hv.1 hv.2) rfl rfl (by omega) (by omega) (by omega) (by first | exact Nat.le_of_ble_eq_true rfl | (simp [ww_rf_cat, Value.category])) rfl (fun E M9 h9 => h9.elim) (fun v9 M9 h9 => ?_)
    obtain ⟨rfl, rfl⟩ := h9
    refine ww_if_eq_f (tgt := 28) dX7_waive_21 (by decide) (by decide) ?_
    refine ww_iconst (v := 0) dX7_waive_24 (by decide) ?_
    refine ww_goto (tgt := 29) dX7_waive_25 (by decide) ?_
    refine ww_pputI (k := 0) hM hu dX7_waive_29 wf_X7_98 wt_8_0 rfl rfl rfl rfl (fun M1 hu => ?_)
    refine ww_aload_n (i := 0) dX7_waive_32 rfl rfl ?_
    refine ww_pgetI (k := 0) hM hu dX7_waive_33 wf_X7_98 rfl rfl (q_us_s) ?_
    refine ww_if_ne_f (tgt := 71) dX7_waive_36 (by decide) (by decide) ?_
    refine ww_aload_n (i := 0) dX7_waive_39 rfl rfl ?_
    refine ww_aload_n (i := 0) dX7_waive_40 rfl rfl ?_
    refine ww_getR (f := 341) wf_X7_68 dX7_waive_41 rfl rfl (ww_up_mo hM hu).1.1 (ww_up_mo hM hu).1.2 ((ww_up_mo hM hu).2.1 21 rfl) ?_
    refine ww_aload_n (i := 0) dX7_waive_44 rfl rfl ?_
    refine ww_getR (f := 322) wf_X7_7 dX7_waive_45 rfl rfl (ww_up_mo hM hu).1.1 (ww_up_mo hM hu).1.2 ((ww_up_mo hM hu).2.1 2 rfl) ?_
    refine ww_iload_n (i := 1) dX7_waive_48 rfl rfl ?_
    refine ww_pald (k := 2) hM hu dX7_waive_49 rfl rfl rfl (show _ < 60 by omega) ((q_us_n (by decide)).trans (rfl)) ?_
    refine ww_pald (k := 21) hM hu dX7_waive_50 rfl rfl hk.1 hk.2 ((q_us_n (by decide)).trans (rfl)) ?_
    refine ww_if_eq_t (tgt := 63) dX7_waive_51 (by decide) c1 ?_
    refine ww_iconst (v := 3) dX7_waive_63 (by decide) ?_
    refine ww_goto (tgt := 68) dX7_waive_64 (by decide) ?_
    refine ww_pputI (k := 0) hM hu dX7_waive_68 wf_X7_98 wt_8_0 rfl rfl rfl rfl (fun M1 hu => ?_)
    refine ww_aload_n (i := 0) dX7_waive_71 rfl rfl ?_
    refine ww_pgetI (k := 0) hM hu dX7_waive_72 wf_X7_98 rfl rfl (q_us_s) ?_
    refine ww_if_ne_t (tgt := 85) dX7_waive_75 (by decide) (by decide) ?_
    exact ww_vreturn dX7_waive_85 rfl ⟨rfl, ww_up_cg hu q_us_us⟩
  · have c2 : ¬ (q_S M x ar) 8 p ≤ 0 := fun z => hc ⟨c1, z⟩
    refine ww_aload_n (i := 0) dX7_waive_0 rfl rfl ?_
    refine ww_aload_n (i := 0) dX7_waive_1 rfl rfl ?_
    refine ww_iload_n (i := 1) dX7_waive_2 rfl rfl ?_
    refine ww_callV (κ := 8) (r := (RX7, TX7, 33)) wk_X7_109 dX7_waive_3 (u_isPart_t hM hu hG hp) rfl rfl (show ww_is _ _ 8 from (ww_up_mo hM hu).1).1 (show ww_is _ _ 8 from (ww_up_mo hM hu).1).2 rfl rfl (by omega) (by omega) (by omega) (by first | exact Nat.le_of_ble_eq_true rfl | (simp [ww_rf_cat, Value.category])) rfl (fun E M9 h9 => h9.elim) (fun v9 M9 h9 => ?_)
    obtain ⟨rfl, rfl⟩ := h9
    refine ww_if_ne_t (tgt := 13) dX7_waive_6 (by decide) (by decide) ?_
    refine ww_iload_n (i := 2) dX7_waive_13 rfl rfl ?_
    refine ww_iconst (v := 1) dX7_waive_14 (by decide) ?_
    refine ww_sipush (v := 999) dX7_waive_15 (by decide) ?_
    refine ww_callS wk_X7_105 rfl dX7_waive_18 (m_in_t hv.1 hv.2) rfl rfl (by omega) (by omega) (by omega) (by first | exact Nat.le_of_ble_eq_true rfl | (simp [ww_rf_cat, Value.category])) rfl (fun E M9 h9 => h9.elim) (fun v9 M9 h9 => ?_)
    obtain ⟨rfl, rfl⟩ := h9
    refine ww_if_eq_f (tgt := 28) dX7_waive_21 (by decide) (by decide) ?_
    refine ww_iconst (v := 0) dX7_waive_24 (by decide) ?_
    refine ww_goto (tgt := 29) dX7_waive_25 (by decide) ?_
    refine ww_pputI (k := 0) hM hu dX7_waive_29 wf_X7_98 wt_8_0 rfl rfl rfl rfl (fun M1 hu => ?_)
    refine ww_aload_n (i := 0) dX7_waive_32 rfl rfl ?_
    refine ww_pgetI (k := 0) hM hu dX7_waive_33 wf_X7_98 rfl rfl (q_us_s) ?_
    refine ww_if_ne_f (tgt := 71) dX7_waive_36 (by decide) (by decide) ?_
    refine ww_aload_n (i := 0) dX7_waive_39 rfl rfl ?_
    refine ww_aload_n (i := 0) dX7_waive_40 rfl rfl ?_
    refine ww_getR (f := 341) wf_X7_68 dX7_waive_41 rfl rfl (ww_up_mo hM hu).1.1 (ww_up_mo hM hu).1.2 ((ww_up_mo hM hu).2.1 21 rfl) ?_
    refine ww_aload_n (i := 0) dX7_waive_44 rfl rfl ?_
    refine ww_getR (f := 322) wf_X7_7 dX7_waive_45 rfl rfl (ww_up_mo hM hu).1.1 (ww_up_mo hM hu).1.2 ((ww_up_mo hM hu).2.1 2 rfl) ?_
    refine ww_iload_n (i := 1) dX7_waive_48 rfl rfl ?_
    refine ww_pald (k := 2) hM hu dX7_waive_49 rfl rfl rfl (show _ < 60 by omega) ((q_us_n (by decide)).trans (rfl)) ?_
    refine ww_pald (k := 21) hM hu dX7_waive_50 rfl rfl hk.1 hk.2 ((q_us_n (by decide)).trans (rfl)) ?_
    refine ww_if_eq_f (tgt := 63) dX7_waive_51 (by decide) c1 ?_
    refine ww_aload_n (i := 0) dX7_waive_54 rfl rfl ?_
    refine ww_getR (f := 328) wf_X7_28 dX7_waive_55 rfl rfl (ww_up_mo hM hu).1.1 (ww_up_mo hM hu).1.2 ((ww_up_mo hM hu).2.1 8 rfl) ?_
    refine ww_iload_n (i := 1) dX7_waive_58 rfl rfl ?_
    refine ww_pald (k := 8) hM hu dX7_waive_59 rfl rfl rfl (show _ < 60 by omega) ((q_us_n (by decide)).trans (rfl)) ?_
    refine ww_if_le_f (tgt := 67) dX7_waive_60 (by decide) c2 ?_
    refine ww_iconst (v := 3) dX7_waive_63 (by decide) ?_
    refine ww_goto (tgt := 68) dX7_waive_64 (by decide) ?_
    refine ww_pputI (k := 0) hM hu dX7_waive_68 wf_X7_98 wt_8_0 rfl rfl rfl rfl (fun M1 hu => ?_)
    refine ww_aload_n (i := 0) dX7_waive_71 rfl rfl ?_
    refine ww_pgetI (k := 0) hM hu dX7_waive_72 wf_X7_98 rfl rfl (q_us_s) ?_
    refine ww_if_ne_t (tgt := 85) dX7_waive_75 (by decide) (by decide) ?_
    exact ww_vreturn dX7_waive_85 rfl ⟨rfl, ww_up_cg hu q_us_us⟩
set_option maxRecDepth 20000 in
set_option maxHeartbeats 4000000 in
theorem m_waive_0 (hM : ww_mo x ar M.1 M.2.2.1) (hG : q_G (q_S M x ar) n) {p : Nat} {v : Int32} (hp : p < n) (hv : q_rg 1 999 v) (hc : q_waive (q_S M x ar) p) : ww_C g wy_X7_waive 3 0 0 [.ref x, .int (nI p), .int v] M (ww_ru x ar M (none) (ww_u2 (q_us (q_S M x ar) 0 0) 8 p v)) ww_no := by
  refine ww_ent (by decide +kernel) (Nat.le_of_ble_eq_true rfl) ⟨rfl, rfl, rfl, trivial⟩ ?_
  have hu : ww_up x ar M (q_S M x ar) M := ww_up_rf
  have hk := q_kd_of hG.2.2.1 hp
  have h6 := hG.2.1
  refine ww_aload_n (i := 0) dX7_waive_0 rfl rfl ?_
  refine ww_aload_n (i := 0) dX7_waive_1 rfl rfl ?_
  refine ww_iload_n (i := 1) dX7_waive_2 rfl rfl ?_
  refine ww_callV (κ := 8) (r := (RX7, TX7, 33)) wk_X7_109 dX7_waive_3 (u_isPart_t hM hu hG hp) rfl rfl (show ww_is _ _ 8 from (ww_up_mo hM hu).1).1 (show ww_is _ _ 8 from (ww_up_mo hM hu).1).2 rfl rfl (by omega) (by omega) (by omega) (by first | exact Nat.le_of_ble_eq_true rfl | (simp [ww_rf_cat, Value.category])) rfl (fun E M9 h9 => h9.elim) (fun v9 M9 h9 => ?_)
  obtain ⟨rfl, rfl⟩ := h9
  refine ww_if_ne_t (tgt := 13) dX7_waive_6 (by decide) (by decide) ?_
  refine ww_iload_n (i := 2) dX7_waive_13 rfl rfl ?_
  refine ww_iconst (v := 1) dX7_waive_14 (by decide) ?_
  refine ww_sipush (v := 999) dX7_waive_15 (by decide) ?_
  refine ww_callS wk_X7_105 rfl dX7_waive_18 (m_in_t hv.1 hv.2) rfl rfl (by omega) (by omega) (by omega) (by first | exact Nat.le_of_ble_eq_true rfl | (simp [ww_rf_cat, Value.category])) rfl (fun E M9 h9 => h9.elim) (fun v9 M9 h9 => ?_)
  obtain ⟨rfl, rfl⟩ := h9
  refine ww_if_eq_f (tgt := 28) dX7_waive_21 (by decide) (by decide) ?_
  refine ww_iconst (v := 0) dX7_waive_24 (by decide) ?_
  refine ww_goto (tgt := 29) dX7_waive_25 (by decide) ?_
  refine ww_pputI (k := 0) hM hu dX7_waive_29 wf_X7_98 wt_8_0 rfl rfl rfl rfl (fun M1 hu => ?_)
  refine ww_aload_n (i := 0) dX7_waive_32 rfl rfl ?_
  refine ww_pgetI (k := 0) hM hu dX7_waive_33 wf_X7_98 rfl rfl (q_us_s) ?_
  refine ww_if_ne_f (tgt := 71) dX7_waive_36 (by decide) (by decide) ?_
  refine ww_aload_n (i := 0) dX7_waive_39 rfl rfl ?_
  refine ww_aload_n (i := 0) dX7_waive_40 rfl rfl ?_
  refine ww_getR (f := 341) wf_X7_68 dX7_waive_41 rfl rfl (ww_up_mo hM hu).1.1 (ww_up_mo hM hu).1.2 ((ww_up_mo hM hu).2.1 21 rfl) ?_
  refine ww_aload_n (i := 0) dX7_waive_44 rfl rfl ?_
  refine ww_getR (f := 322) wf_X7_7 dX7_waive_45 rfl rfl (ww_up_mo hM hu).1.1 (ww_up_mo hM hu).1.2 ((ww_up_mo hM hu).2.1 2 rfl) ?_
  refine ww_iload_n (i := 1) dX7_waive_48 rfl rfl ?_
  refine ww_pald (k := 2) hM hu dX7_waive_49 rfl rfl rfl (show _ < 60 by omega) ((q_us_n (by decide)).trans (rfl)) ?_
  refine ww_pald (k := 21) hM hu dX7_waive_50 rfl rfl hk.1 hk.2 ((q_us_n (by decide)).trans (rfl)) ?_
  refine ww_if_eq_f (tgt := 63) dX7_waive_51 (by decide) hc.1 ?_
  refine ww_aload_n (i := 0) dX7_waive_54 rfl rfl ?_
  refine ww_getR (f := 328) wf_X7_28 dX7_waive_55 rfl rfl (ww_up_mo hM hu).1.1 (ww_up_mo hM hu).1.2 ((ww_up_mo hM hu).2.1 8 rfl) ?_
  refine ww_iload_n (i := 1) dX7_waive_58 rfl rfl ?_
  refine ww_pald (k := 8) hM hu dX7_waive_59 rfl rfl rfl (show _ < 60 by omega) ((q_us_n (by decide)).trans (rfl)) ?_
  refine ww_if_le_t (tgt := 67) dX7_waive_60 (by decide) hc.2 ?_
  refine ww_iconst (v := 0) dX7_waive_67 (by decide) ?_
  refine ww_pputI (k := 0) hM hu dX7_waive_68 wf_X7_98 wt_8_0 rfl rfl rfl rfl (fun M1 hu => ?_)
  refine ww_aload_n (i := 0) dX7_waive_71 rfl rfl ?_
  refine ww_pgetI (k := 0) hM hu dX7_waive_72 wf_X7_98 rfl rfl (q_us_s) ?_
  refine ww_if_ne_f (tgt := 85) dX7_waive_75 (by decide) (by decide) ?_
  refine ww_aload_n (i := 0) dX7_waive_78 rfl rfl ?_
  refine ww_getR (f := 328) wf_X7_28 dX7_waive_79 rfl rfl (ww_up_mo hM hu).1.1 (ww_up_mo hM hu).1.2 ((ww_up_mo hM hu).2.1 8 rfl) ?_
  refine ww_iload_n (i := 1) dX7_waive_82 rfl rfl ?_
  refine ww_iload_n (i := 2) dX7_waive_83 rfl rfl ?_
  refine ww_past (k := 8) hM hu dX7_waive_84 rfl rfl rfl (show _ < 60 by omega) (fun M1 hu => ?_)
  exact ww_vreturn dX7_waive_85 rfl ⟨rfl, ww_up_cg hu (by rw [q_us_us])⟩
/-! flaw -/
set_option maxRecDepth 20000 in
set_option maxHeartbeats 4000000 in
theorem m_flaw_1 (hM : ww_mo x ar M.1 M.2.2.1) (hG : q_G (q_S M x ar) n) {p : Int32} (v : Int32) (hc : q_noP n p) : ww_C g wy_X7_flaw 3 0 0 [.ref x, .int p, .int v] M (ww_ru x ar M (some (.int 0)) (q_us (q_S M x ar) 0 1)) ww_no := by
  refine ww_ent (by decide +kernel) (Nat.le_of_ble_eq_true rfl) ⟨rfl, rfl, rfl, trivial⟩ ?_
  have hu : ww_up x ar M (q_S M x ar) M := ww_up_rf
  refine ww_aload_n (i := 0) dX7_flaw_0 rfl rfl ?_
  refine ww_aload_n (i := 0) dX7_flaw_1 rfl rfl ?_
  refine ww_iload_n (i := 1) dX7_flaw_2 rfl rfl ?_
  refine ww_callV (κ := 8) (r := (RX7, TX7, 33)) wk_X7_109 dX7_flaw_3 (u_isPart_f hM hu hG hc) rfl rfl (show ww_is _ _ 8 from (ww_up_mo hM hu).1).1 (show ww_is _ _ 8 from (ww_up_mo hM hu).1).2 rfl rfl (by omega) (by omega) (by omega) (by first | exact Nat.le_of_ble_eq_true rfl | (simp [ww_rf_cat, Value.category])) rfl (fun E M9 h9 => h9.elim) (fun v9 M9 h9 => ?_)
  obtain ⟨rfl, rfl⟩ := h9
  refine ww_if_ne_f (tgt := 13) dX7_flaw_6 (by decide) (by decide) ?_
  refine ww_iconst (v := 1) dX7_flaw_9 (by decide) ?_
  refine ww_goto (tgt := 38) dX7_flaw_10 (by decide) ?_
  refine ww_pputI (k := 0) hM hu dX7_flaw_38 wf_X7_98 wt_8_0 rfl rfl rfl rfl (fun M1 hu => ?_)
  refine ww_aload_n (i := 0) dX7_flaw_41 rfl rfl ?_
  refine ww_pgetI (k := 0) hM hu dX7_flaw_42 wf_X7_98 rfl rfl (q_us_s) ?_
  refine ww_if_le_f (tgt := 50) dX7_flaw_45 (by decide) (by decide) ?_
  refine ww_iconst (v := 0) dX7_flaw_48 (by decide) ?_
  exact ww_ireturn dX7_flaw_49 rfl (by first | rfl | exact ww_b_nar) ⟨rfl, hu⟩
set_option maxRecDepth 20000 in
set_option maxHeartbeats 4000000 in
theorem m_flaw_2 (hM : ww_mo x ar M.1 M.2.2.1) (hG : q_G (q_S M x ar) n) {p : Nat} {v : Int32} (hp : p < n) (hc : ¬ (3 ≤ (q_S M x ar) 2 p ∧ q_rg 1 99 v)) : ww_C g wy_X7_flaw 3 0 0 [.ref x, .int (nI p), .int v] M (ww_ru x ar M (some (.int 0)) (q_us (q_S M x ar) 0 2)) ww_no := by
  refine ww_ent (by decide +kernel) (Nat.le_of_ble_eq_true rfl) ⟨rfl, rfl, rfl, trivial⟩ ?_
  have hu : ww_up x ar M (q_S M x ar) M := ww_up_rf
  have h6 := hG.2.1
  by_cases c1 : (q_S M x ar) 2 p < 3
  · refine ww_aload_n (i := 0) dX7_flaw_0 rfl rfl ?_
    refine ww_aload_n (i := 0) dX7_flaw_1 rfl rfl ?_
    refine ww_iload_n (i := 1) dX7_flaw_2 rfl rfl ?_
    refine ww_callV (κ := 8) (r := (RX7, TX7, 33)) wk_X7_109 dX7_flaw_3 (u_isPart_t hM hu hG hp) rfl rfl (show ww_is _ _ 8 from (ww_up_mo hM hu).1).1 (show ww_is _ _ 8 from (ww_up_mo hM hu).1).2 rfl rfl (by omega) (by omega) (by omega) (by first | exact Nat.le_of_ble_eq_true rfl | (simp [ww_rf_cat, Value.category])) rfl (fun E M9 h9 => h9.elim) (fun v9 M9 h9 => ?_)
    obtain ⟨rfl, rfl⟩ := h9
    refine ww_if_ne_t (tgt := 13) dX7_flaw_6 (by decide) (by decide) ?_
    refine ww_aload_n (i := 0) dX7_flaw_13 rfl rfl ?_
    refine ww_getR (f := 322) wf_X7_7 dX7_flaw_14 rfl rfl (ww_up_mo hM hu).1.1 (ww_up_mo hM hu).1.2 ((ww_up_mo hM hu).2.1 2 rfl) ?_
    refine ww_iload_n (i := 1) dX7_flaw_17 rfl rfl ?_
    refine ww_pald (k := 2) hM hu dX7_flaw_18 rfl rfl rfl (show _ < 60 by omega) (rfl) ?_
    refine ww_iconst (v := 3) dX7_flaw_19 (by decide) ?_
    refine ww_icmp_lt_t (tgt := 33) dX7_flaw_20 (by decide) c1 ?_
    refine ww_iconst (v := 2) dX7_flaw_33 (by decide) ?_
    refine ww_goto (tgt := 38) dX7_flaw_34 (by decide) ?_
    refine ww_pputI (k := 0) hM hu dX7_flaw_38 wf_X7_98 wt_8_0 rfl rfl rfl rfl (fun M1 hu => ?_)
    refine ww_aload_n (i := 0) dX7_flaw_41 rfl rfl ?_
    refine ww_pgetI (k := 0) hM hu dX7_flaw_42 wf_X7_98 rfl rfl (q_us_s) ?_
    refine ww_if_le_f (tgt := 50) dX7_flaw_45 (by decide) (by decide) ?_
    refine ww_iconst (v := 0) dX7_flaw_48 (by decide) ?_
    exact ww_ireturn dX7_flaw_49 rfl (by first | rfl | exact ww_b_nar) ⟨rfl, hu⟩
  · have c2 : ¬ q_rg 1 99 v := fun z => hc ⟨by rw [ww_le']; rw [ww_lt] at c1; omega, z⟩
    refine ww_aload_n (i := 0) dX7_flaw_0 rfl rfl ?_
    refine ww_aload_n (i := 0) dX7_flaw_1 rfl rfl ?_
    refine ww_iload_n (i := 1) dX7_flaw_2 rfl rfl ?_
    refine ww_callV (κ := 8) (r := (RX7, TX7, 33)) wk_X7_109 dX7_flaw_3 (u_isPart_t hM hu hG hp) rfl rfl (show ww_is _ _ 8 from (ww_up_mo hM hu).1).1 (show ww_is _ _ 8 from (ww_up_mo hM hu).1).2 rfl rfl (by omega) (by omega) (by omega) (by first | exact Nat.le_of_ble_eq_true rfl | (simp [ww_rf_cat, Value.category])) rfl (fun E M9 h9 => h9.elim) (fun v9 M9 h9 => ?_)
    obtain ⟨rfl, rfl⟩ := h9
    refine ww_if_ne_t (tgt := 13) dX7_flaw_6 (by decide) (by decide) ?_
    refine ww_aload_n (i := 0) dX7_flaw_13 rfl rfl ?_
    refine ww_getR (f := 322) wf_X7_7 dX7_flaw_14 rfl rfl (ww_up_mo hM hu).1.1 (ww_up_mo hM hu).1.2 ((ww_up_mo hM hu).2.1 2 rfl) ?_
    refine ww_iload_n (i := 1) dX7_flaw_17 rfl rfl ?_
    refine ww_pald (k := 2) hM hu dX7_flaw_18 rfl rfl rfl (show _ < 60 by omega) (rfl) ?_
    refine ww_iconst (v := 3) dX7_flaw_19 (by decide) ?_
    refine ww_icmp_lt_f (tgt := 33) dX7_flaw_20 (by decide) c1 ?_
    refine ww_iload_n (i := 2) dX7_flaw_23 rfl rfl ?_
    refine ww_iconst (v := 1) dX7_flaw_24 (by decide) ?_
    refine ww_bipush (v := 99) dX7_flaw_25 (by decide) ?_
    refine ww_callS wk_X7_105 rfl dX7_flaw_27 (m_in_f c2) rfl rfl (by omega) (by omega) (by omega) (by first | exact Nat.le_of_ble_eq_true rfl | (simp [ww_rf_cat, Value.category])) rfl (fun E M9 h9 => h9.elim) (fun v9 M9 h9 => ?_)
    obtain ⟨rfl, rfl⟩ := h9
    refine ww_if_ne_f (tgt := 37) dX7_flaw_30 (by decide) (by decide) ?_
    refine ww_iconst (v := 2) dX7_flaw_33 (by decide) ?_
    refine ww_goto (tgt := 38) dX7_flaw_34 (by decide) ?_
    refine ww_pputI (k := 0) hM hu dX7_flaw_38 wf_X7_98 wt_8_0 rfl rfl rfl rfl (fun M1 hu => ?_)
    refine ww_aload_n (i := 0) dX7_flaw_41 rfl rfl ?_
    refine ww_pgetI (k := 0) hM hu dX7_flaw_42 wf_X7_98 rfl rfl (q_us_s) ?_
    refine ww_if_le_f (tgt := 50) dX7_flaw_45 (by decide) (by decide) ?_
    refine ww_iconst (v := 0) dX7_flaw_48 (by decide) ?_
    exact ww_ireturn dX7_flaw_49 rfl (by first | rfl | exact ww_b_nar) ⟨rfl, hu⟩
set_option maxRecDepth 20000 in
set_option maxHeartbeats 4000000 in
theorem m_flaw_0 (hM : ww_mo x ar M.1 M.2.2.1) (hG : q_G (q_S M x ar) n) {p : Nat} {v : Int32} (hp : p < n) (hc : 3 ≤ (q_S M x ar) 2 p ∧ q_rg 1 99 v) : ww_C g wy_X7_flaw 3 0 0 [.ref x, .int (nI p), .int v] M (ww_ru x ar M (some (.int ((q_S M x ar) 18 p))) (ww_u2 (ww_u2 (q_us (q_S M x ar) 0 0) 18 p v) 19 p ((q_S M x ar) 6 p))) ww_no := by
  refine ww_ent (by decide +kernel) (Nat.le_of_ble_eq_true rfl) ⟨rfl, rfl, rfl, trivial⟩ ?_
  have hu : ww_up x ar M (q_S M x ar) M := ww_up_rf
  have h6 := hG.2.1
  have c1 : ¬ (q_S M x ar) 2 p < 3 := by have := hc.1; rw [ww_le'] at this; rw [ww_lt]; omega
  refine ww_aload_n (i := 0) dX7_flaw_0 rfl rfl ?_
  refine ww_aload_n (i := 0) dX7_flaw_1 rfl rfl ?_
  refine ww_iload_n (i := 1) dX7_flaw_2 rfl rfl ?_
  refine ww_callV (κ := 8) (r := (RX7, TX7, 33)) wk_X7_109 dX7_flaw_3 (u_isPart_t hM hu hG hp) rfl rfl (show ww_is _ _ 8 from (ww_up_mo hM hu).1).1 (show ww_is _ _ 8 from (ww_up_mo hM hu).1).2 rfl rfl (by omega) (by omega) (by omega) (by first | exact Nat.le_of_ble_eq_true rfl | (simp [ww_rf_cat, Value.category])) rfl (fun E M9 h9 => h9.elim) (fun v9 M9 h9 => ?_)
  obtain ⟨rfl, rfl⟩ := h9
  refine ww_if_ne_t (tgt := 13) dX7_flaw_6 (by decide) (by decide) ?_
  refine ww_aload_n (i := 0) dX7_flaw_13 rfl rfl ?_
  refine ww_getR (f := 322) wf_X7_7 dX7_flaw_14 rfl rfl (ww_up_mo hM hu).1.1 (ww_up_mo hM hu).1.2 ((ww_up_mo hM hu).2.1 2 rfl) ?_
  refine ww_iload_n (i := 1) dX7_flaw_17 rfl rfl ?_
  refine ww_pald (k := 2) hM hu dX7_flaw_18 rfl rfl rfl (show _ < 60 by omega) (rfl) ?_
  refine ww_iconst (v := 3) dX7_flaw_19 (by decide) ?_
  refine ww_icmp_lt_f (tgt := 33) dX7_flaw_20 (by decide) c1 ?_
  refine ww_iload_n (i := 2) dX7_flaw_23 rfl rfl ?_
  refine ww_iconst (v := 1) dX7_flaw_24 (by decide) ?_
  refine ww_bipush (v := 99) dX7_flaw_25 (by decide) ?_
  refine ww_callS wk_X7_105 rfl dX7_flaw_27 (m_in_t hc.2.1 hc.2.2) rfl rfl (by omega) (by omega) (by omega) (by first | exact Nat.le_of_ble_eq_true rfl | (simp [ww_rf_cat, Value.category])) rfl (fun E M9 h9 => h9.elim) (fun v9 M9 h9 => ?_)
  obtain ⟨rfl, rfl⟩ := h9
  refine ww_if_ne_t (tgt := 37) dX7_flaw_30 (by decide) (by decide) ?_
  refine ww_iconst (v := 0) dX7_flaw_37 (by decide) ?_
  refine ww_pputI (k := 0) hM hu dX7_flaw_38 wf_X7_98 wt_8_0 rfl rfl rfl rfl (fun M1 hu => ?_)
  refine ww_aload_n (i := 0) dX7_flaw_41 rfl rfl ?_
  refine ww_pgetI (k := 0) hM hu dX7_flaw_42 wf_X7_98 rfl rfl (q_us_s) ?_
  refine ww_if_le_t (tgt := 50) dX7_flaw_45 (by decide) (by decide) ?_
  refine ww_aload_n (i := 0) dX7_flaw_50 rfl rfl ?_
  refine ww_getR (f := 338) wf_X7_59 dX7_flaw_51 rfl rfl (ww_up_mo hM hu).1.1 (ww_up_mo hM hu).1.2 ((ww_up_mo hM hu).2.1 18 rfl) ?_
  refine ww_iload_n (i := 1) dX7_flaw_54 rfl rfl ?_
  refine ww_pald (k := 18) hM hu dX7_flaw_55 rfl rfl rfl (show _ < 60 by omega) ((q_us_n (by decide)).trans (rfl)) ?_
  refine ww_istore_n (i := 3) (lv2 := [(0, _), (1, _), (2, _), (3, _)]) dX7_flaw_56 rfl (Nat.le_of_ble_eq_true rfl) rfl ?_
  refine ww_aload_n (i := 0) dX7_flaw_57 rfl rfl ?_
  refine ww_getR (f := 338) wf_X7_59 dX7_flaw_58 rfl rfl (ww_up_mo hM hu).1.1 (ww_up_mo hM hu).1.2 ((ww_up_mo hM hu).2.1 18 rfl) ?_
  refine ww_iload_n (i := 1) dX7_flaw_61 rfl rfl ?_
  refine ww_iload_n (i := 2) dX7_flaw_62 rfl rfl ?_
  refine ww_past (k := 18) hM hu dX7_flaw_63 rfl rfl rfl (show _ < 60 by omega) (fun M1 hu => ?_)
  refine ww_aload_n (i := 0) dX7_flaw_64 rfl rfl ?_
  refine ww_getR (f := 339) wf_X7_62 dX7_flaw_65 rfl rfl (ww_up_mo hM hu).1.1 (ww_up_mo hM hu).1.2 ((ww_up_mo hM hu).2.1 19 rfl) ?_
  refine ww_iload_n (i := 1) dX7_flaw_68 rfl rfl ?_
  refine ww_aload_n (i := 0) dX7_flaw_69 rfl rfl ?_
  refine ww_getR (f := 326) wf_X7_22 dX7_flaw_70 rfl rfl (ww_up_mo hM hu).1.1 (ww_up_mo hM hu).1.2 ((ww_up_mo hM hu).2.1 6 rfl) ?_
  refine ww_iload_n (i := 1) dX7_flaw_73 rfl rfl ?_
  refine ww_pald (k := 6) hM hu dX7_flaw_74 rfl rfl rfl (show _ < 60 by omega) ((ww_u2n (fun z => absurd z.1 (by decide))).trans ((q_us_n (by decide)).trans (rfl))) ?_
  refine ww_past (k := 19) hM hu dX7_flaw_75 rfl rfl rfl (show _ < 60 by omega) (fun M1 hu => ?_)
  refine ww_iload_n (i := 3) dX7_flaw_76 rfl rfl ?_
  exact ww_ireturn dX7_flaw_77 rfl (by first | rfl | exact ww_b_nar) ⟨rfl, hu⟩
end WWV
