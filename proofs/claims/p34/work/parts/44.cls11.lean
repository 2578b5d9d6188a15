/-! ===== the parts hold the content ===== -/
def ww_pt (M : ww_M) (P W kl : Nat → Nat) (S : Nat → Nat → Int32) (i : Nat) : Prop :=
  (ww_is M.1 (P i) 4 ∧ ww_I M 160 (P i) = nI i ∧ ww_I M 161 (P i) = S 2 i ∧ ww_I M 162 (P i) = S 3 i ∧ ww_I M 163 (P i) = S 4 i ∧ ww_R M 164 (P i) = some (kl (q_kd S i))) ∧
  (S 2 i = 3 → ww_R M 165 (P i) = some (W i) ∧ ww_is M.1 (W i) 5 ∧ ww_I M 200 (W i) = S 13 i ∧ ww_I M 201 (W i) = S 14 i ∧ ww_I M 202 (W i) = (if S 17 i = 0 then -1 else S 16 i) ∧ ww_I M 203 (W i) = S 15 i) ∧
  (¬ S 2 i = 3 → ww_R M 165 (P i) = none) ∧
  (ww_R M 166 (P i) = if S 5 i < 0 then none else some (P (S 5 i).toNatClampNeg)) ∧
  (ww_I M 167 (P i) = if S 5 i = -2 then 1 else 0) ∧
  (ww_I M 168 (P i) = S 6 i ∧ ww_I M 169 (P i) = S 7 i ∧ ww_I M 170 (P i) = S 8 i ∧ ww_I M 171 (P i) = S 9 i ∧ ww_I M 172 (P i) = S 10 i ∧ ww_I M 173 (P i) = S 18 i ∧ ww_I M 174 (P i) = S 19 i ∧ ww_I M 175 (P i) = S 11 i ∧ ww_I M 177 (P i) = S 28 i) ∧
  (ww_I M 176 (P i) = -1 ↔ S 12 i = 0)
def ww_pf (M : ww_M) (P W kl : Nat → Nat) (n : Nat) (S : Nat → Nat → Int32) : Prop :=
  (∀ i, i < n → ww_pt M P W kl S i) ∧ (∀ k, k < 5 → ww_is M.1 (kl k) 2 ∧ ww_I M 80 (kl k) = S 20 k ∧ ww_I M 81 (kl k) = S 21 k ∧ ww_I M 82 (kl k) = S 22 k) ∧ (∀ i j, i < n → j < n → P i = P j → i = j)
section WWF1
variable {g : ww_G} {M0 M M1 : ww_M} {a x pl pe n : Nat} {P W kl : Nat → Nat} {S : Nat → Nat → Int32}
theorem ww_pf_hs (h : ww_pf M P W kl n S) : ww_hs M P n (S 5) := fun i hi => ⟨(h.1 i hi).1.1, (h.1 i hi).2.2.2.1⟩
theorem ww_pf_kd (h : ww_pf M P W kl n S) : ∀ i, i < n → ww_I M 161 (P i) = S 2 i := fun i hi => (h.1 i hi).1.2.2.1
theorem p_top (h : ww_pf M P W kl n S) (hG : q_G S n) {p : Nat} (hp : p < n) : ww_C g wy_X3_top 1 0 0 [.ref (P p)] M (ww_ret (some (.ref (P (q_hd (S 5) 5 p)))) M) ww_no := c_top (ww_pf_hs h) hG.2.2.1 hG.2.1 hp
theorem p_bound_t (h : ww_pf M P W kl n S) (hG : q_G S n) {p : Nat} (hp : p < n) (hb : q_bound S p) : ww_C g wy_X3_isBound 2 0 0 [.ref (P p)] M (ww_ret (some (.int 1)) M) ww_no := by
  have e := c_isBound (g := g) (ww_pf_hs h) hG.2.2.1 hG.2.1 hp
  have hd := q_hd_lt hG.2.2.1 hG.2.1 5 p hp
  rw [if_neg (fun z => by
    have := (h.1 _ hd).2.2.2.2.2.2.mp z
    unfold q_bound at hb
    rw [this] at hb
    exact absurd hb (by decide))] at e
  exact e
theorem p_bound_f (h : ww_pf M P W kl n S) (hG : q_G S n) {p : Nat} (hp : p < n) (hb : ¬ q_bound S p) : ww_C g wy_X3_isBound 2 0 0 [.ref (P p)] M (ww_ret (some (.int 0)) M) ww_no := by
  have e := c_isBound (g := g) (ww_pf_hs h) hG.2.2.1 hG.2.1 hp
  have hd := q_hd_lt hG.2.2.1 hG.2.1 5 p hp
  rw [if_pos ((h.1 _ hd).2.2.2.2.2.2.mpr ((hG.2.2.2.2.2.2.1 _).resolve_right hb))] at e
  exact e
theorem p_inside (hw : ww_wo g M0 M x pl pe n P) (h : ww_pf M P W kl n S) (hG : q_G S n) {p : Nat} (hp : p < n) (k : Int32) : ww_C g wy_X6_inside 4 0 0 [.ref x, .ref (P p), .int k] M (ww_ret (some (.int (nI (q_inK S n (nI p) k)))) M) ww_no := c_inside hw (ww_pf_hs h) hG.2.2.1 (ww_pf_kd h) h.2.2 hp k
theorem p_inside2 (hw : ww_wo g M0 M x pl pe n P) (h : ww_pf M P W kl n S) (hG : q_G S n) {p : Nat} (hp : p < n) : ww_C g wy_X6_inside_ 5 0 0 [.ref x, .ref (P p)] M (ww_ret (some (.int (nI (q_in S n (nI p))))) M) ww_no := c_inside2 hw (ww_pf_hs h) hG.2.2.1 (ww_pf_kd h) h.2.2 hp
theorem p_within (h : ww_pf M P W kl n S) (hG : q_G S n) {p b : Nat} (hp : p < n) (hb : b < n) : ww_C g wy_X3_isWithin 1 0 0 [.ref (P p), .ref (P b)] M (ww_ret (some (.int (ww_b (q_wi (S 5) b 5 (S 5 p))))) M) ww_no := c_isWithin (ww_pf_hs h) hG.2.2.1 hG.2.1 h.2.2 hp hb
/-! an empty place -/
def q_room (S : Nat → Nat → Int32) (n p k : Nat) : Prop := nI (q_inK S n (nI p) (nI k)) < q_places (S 2 p) (nI k)
set_option maxRecDepth 20000 in
theorem c_hasEmpty_l (hw : ww_wo g M0 M x pl pe n P) (h : ww_pf M P W kl n S) (hG : q_G S n) {p : Nat} (hp : p < n) : ∀ m k, k + m = 5 → (∀ j, j < k → ¬ q_room S n p j) → ww_A g wy_X6_hasEmptyPlace 5 0 0 M 2 [(0, .ref x), (1, .ref (P p)), (2, .int (nI k))] [] (ww_ret (some (.int (ww_b (q_any (q_room S n p) 5)))) M) ww_no
  | 0, k, hm, hn => by
    have e0 : k = 5 := by omega
    subst e0
    rw [ww_b_f (fun ⟨j, h1, h2⟩ => hn j h1 h2)]
    refine ww_iload_n (i := 2) dX6_hasEmptyPlace_2 rfl rfl ?_
    refine ww_iconst (v := 4) dX6_hasEmptyPlace_3 (by decide) ?_
    refine ww_icmp_gt_t (tgt := 32) dX6_hasEmptyPlace_4 (by decide) (by decide) ?_
    refine ww_iconst (v := 0) dX6_hasEmptyPlace_32 (by decide) ?_
    exact ww_ireturn dX6_hasEmptyPlace_33 rfl (by first | rfl | exact ww_b_nar) ⟨rfl, rfl⟩
  | m + 1, k, hm, hn => by
    have hp4 := (h.1 p hp).1.1
    have hk4 : ¬ (4 : Int32) < nI k := nI_nlt (a := 4) (b := k) (by omega) (by decide)
    have hpl := c_placesFor (g := g) (M := M) (S 2 p) (nI k)
    rw [← ww_pf_kd h p hp] at hpl
    by_cases c : q_room S n p k
    · rw [ww_b_t ⟨k, by omega, c⟩]
      have c' : ¬ q_places (ww_I M 161 (P p)) (nI k) ≤ nI (q_inK S n (nI p) (nI k)) := by
        rw [ww_pf_kd h p hp, ww_le']
        unfold q_room at c
        rw [ww_lt] at c
        omega
      refine ww_iload_n (i := 2) dX6_hasEmptyPlace_2 rfl rfl ?_
      refine ww_iconst (v := 4) dX6_hasEmptyPlace_3 (by decide) ?_
      refine ww_icmp_gt_f (tgt := 32) dX6_hasEmptyPlace_4 (by decide) hk4 ?_
      refine ww_aload_n (i := 0) dX6_hasEmptyPlace_7 rfl rfl ?_
      refine ww_aload_n (i := 1) dX6_hasEmptyPlace_8 rfl rfl ?_
      refine ww_iload_n (i := 2) dX6_hasEmptyPlace_9 rfl rfl ?_
      refine ww_callV (κ := 7) (r := (RX6, TX6, 4)) wk_X6_112 dX6_hasEmptyPlace_10 (p_inside hw h hG hp (nI k)) rfl rfl (show ww_is _ _ 7 from hw.1).1 (show ww_is _ _ 7 from hw.1).2 rfl rfl (by omega) (by omega) (by omega) (by first | exact Nat.le_of_ble_eq_true rfl | (simp [ww_rf_cat, Value.category])) rfl (fun E M9 h9 => h9.elim) (fun v9 M9 h9 => ?_)
      obtain ⟨rfl, rfl⟩ := h9
      refine ww_aload_n (i := 1) dX6_hasEmptyPlace_13 rfl rfl ?_
      refine ww_getI (f := 161) wf_X6_87 dX6_hasEmptyPlace_14 rfl rfl (show ww_is _ _ 4 from hp4).1 (show ww_is _ _ 4 from hp4).2 ?_
      refine ww_iload_n (i := 2) dX6_hasEmptyPlace_17 rfl rfl ?_
      refine ww_callS wk_X6_90 rfl dX6_hasEmptyPlace_18 (hpl) rfl rfl (by omega) (by omega) (by omega) (by first | exact Nat.le_of_ble_eq_true rfl | (simp [ww_rf_cat, Value.category])) rfl (fun E M9 h9 => h9.elim) (fun v9 M9 h9 => ?_)
      obtain ⟨rfl, rfl⟩ := h9
      refine ww_icmp_ge_f (tgt := 26) dX6_hasEmptyPlace_21 (by decide) c' ?_
      refine ww_iconst (v := 1) dX6_hasEmptyPlace_24 (by decide) ?_
      exact ww_ireturn dX6_hasEmptyPlace_25 rfl (by first | rfl | exact ww_b_nar) ⟨rfl, rfl⟩
    · have c' : q_places (ww_I M 161 (P p)) (nI k) ≤ nI (q_inK S n (nI p) (nI k)) := by
        rw [ww_pf_kd h p hp, ww_le']
        unfold q_room at c
        rw [ww_lt] at c
        omega
      refine ww_iload_n (i := 2) dX6_hasEmptyPlace_2 rfl rfl ?_
      refine ww_iconst (v := 4) dX6_hasEmptyPlace_3 (by decide) ?_
      refine ww_icmp_gt_f (tgt := 32) dX6_hasEmptyPlace_4 (by decide) hk4 ?_
      refine ww_aload_n (i := 0) dX6_hasEmptyPlace_7 rfl rfl ?_
      refine ww_aload_n (i := 1) dX6_hasEmptyPlace_8 rfl rfl ?_
      refine ww_iload_n (i := 2) dX6_hasEmptyPlace_9 rfl rfl ?_
      refine ww_callV (κ := 7) (r := (RX6, TX6, 4)) wk_X6_112 dX6_hasEmptyPlace_10 (p_inside hw h hG hp (nI k)) rfl rfl (show ww_is _ _ 7 from hw.1).1 (show ww_is _ _ 7 from hw.1).2 rfl rfl (by omega) (by omega) (by omega) (by first | exact Nat.le_of_ble_eq_true rfl | (simp [ww_rf_cat, Value.category])) rfl (fun E M9 h9 => h9.elim) (fun v9 M9 h9 => ?_)
      obtain ⟨rfl, rfl⟩ := h9
      refine ww_aload_n (i := 1) dX6_hasEmptyPlace_13 rfl rfl ?_
      refine ww_getI (f := 161) wf_X6_87 dX6_hasEmptyPlace_14 rfl rfl (show ww_is _ _ 4 from hp4).1 (show ww_is _ _ 4 from hp4).2 ?_
      refine ww_iload_n (i := 2) dX6_hasEmptyPlace_17 rfl rfl ?_
      refine ww_callS wk_X6_90 rfl dX6_hasEmptyPlace_18 (hpl) rfl rfl (by omega) (by omega) (by omega) (by first | exact Nat.le_of_ble_eq_true rfl | (simp [ww_rf_cat, Value.category])) rfl (fun E M9 h9 => h9.elim) (fun v9 M9 h9 => ?_)
      obtain ⟨rfl, rfl⟩ := h9
      refine ww_icmp_ge_t (tgt := 26) dX6_hasEmptyPlace_21 (by decide) c' ?_
      refine ww_iinc (i := 2) (v := _ + 1) (lv2 := [(0, _), (1, _), (2, _)]) dX6_hasEmptyPlace_26 rfl (by rfl) (Nat.le_of_ble_eq_true rfl) rfl ?_
      refine ww_goto (tgt := 2) dX6_hasEmptyPlace_29 (by decide) ?_
      -- at 2, locals [0, 1, 2]
      rw [nI_1]
      exact c_hasEmpty_l hw h hG hp m (k + 1) (by omega) (fun j hj => by
        by_cases e : j = k
        · rw [e]; exact c
        · exact hn j (by omega))
set_option maxRecDepth 20000 in
theorem c_hasEmpty (hw : ww_wo g M0 M x pl pe n P) (h : ww_pf M P W kl n S) (hG : q_G S n) {p : Nat} (hp : p < n) : ww_C g wy_X6_hasEmptyPlace 5 0 0 [.ref x, .ref (P p)] M (ww_ret (some (.int (ww_b (q_any (q_room S n p) 5)))) M) ww_no := by
  refine ww_ent (by decide +kernel) (Nat.le_of_ble_eq_true rfl) ⟨rfl, rfl, trivial⟩ ?_
  have hl := c_hasEmpty_l (g := g) hw h hG hp 5 0 (by omega) (fun j hj => by omega)
  rw [nI_0] at hl
  refine ww_iconst (v := 0) dX6_hasEmptyPlace_0 (by decide) ?_
  refine ww_istore_n (i := 2) (lv2 := [(0, _), (1, _), (2, _)]) dX6_hasEmptyPlace_1 rfl (Nat.le_of_ble_eq_true rfl) rfl ?_
  -- at 2, locals [0, 1, 2]
  exact hl
/-! the spread of the wheels within b -/
def q_cw (S : Nat → Nat → Int32) (b i : Nat) : Prop := S 2 i = 3 ∧ q_wi (S 5) b 5 (S 5 i)
noncomputable def q_clo (S : Nat → Nat → Int32) (b : Nat) : Nat → Int32
  | 0 => 9000
  | i + 1 => q_if (q_cw S b i) (if S 13 i < q_clo S b i then S 13 i else q_clo S b i) (q_clo S b i)
noncomputable def q_chi (S : Nat → Nat → Int32) (b : Nat) : Nat → Int32
  | 0 => 0
  | i + 1 => q_if (q_cw S b i) (if q_chi S b i < S 13 i then S 13 i else q_chi S b i) (q_chi S b i)
set_option maxRecDepth 20000 in
set_option maxHeartbeats 4000000 in
theorem c_spread_l (hw : ww_wo g M0 M x pl pe n P) (h : ww_pf M P W kl n S) (hG : q_G S n) {b : Nat} (hb : b < n) : ∀ m i, i + m = n → ww_A g wy_X6_spreadIn 4 0 0 M 9 [(0, .ref x), (1, .ref (P b)), (2, .int (q_clo S b i)), (3, .int (q_chi S b i)), (4, .int (nI i))] [] (ww_ret (some (.int (q_chi S b n - q_clo S b n))) M) ww_no
  | 0, i, hm => by
    have e0 : i = n := by omega
    subst e0
    have h6 := hw.2.2.2.1
    have hsz := l_size (g := g) hw.2.2.1
    refine ww_iload (i := 4) dX6_spreadIn_9 rfl ?_
    refine ww_aload_n (i := 0) dX6_spreadIn_11 rfl rfl ?_
    refine ww_getR (f := 280) wf_X6_10 dX6_spreadIn_12 rfl rfl (show ww_is _ _ 7 from hw.1).1 (show ww_is _ _ 7 from hw.1).2 hw.2.1 ?_
    refine ww_callV (κ := 0) (r := (RJx4a65c, TJx4a65c, 3)) wk_X6_52 dX6_spreadIn_15 (hsz) rfl rfl (show ww_is _ _ 0 from hw.2.2.1.1).1 (show ww_is _ _ 0 from hw.2.2.1.1).2 rfl rfl (by omega) (by omega) (by omega) (by first | exact Nat.le_of_ble_eq_true rfl | (simp [ww_rf_cat, Value.category])) rfl (fun E M9 h9 => h9.elim) (fun v9 M9 h9 => ?_)
    obtain ⟨rfl, rfl⟩ := h9
    refine ww_icmp_ge_t (tgt := 84) dX6_spreadIn_18 (by decide) (nI_le (Nat.le_refl _) (by omega)) ?_
    refine ww_iload_n (i := 3) dX6_spreadIn_84 rfl rfl ?_
    refine ww_iload_n (i := 2) dX6_spreadIn_85 rfl rfl ?_
    refine ww_isub dX6_spreadIn_86 ?_
    exact ww_ireturn dX6_spreadIn_87 rfl (by first | rfl | exact ww_b_nar) ⟨rfl, rfl⟩
  | m + 1, i, hm => by
    have h6 := hw.2.2.2.1
    have hsz := l_size (g := g) hw.2.2.1
    have hgt := l_get (g := g) hw.2.2.1 (i := i) (by omega)
    have hi4 := (h.1 i (by omega)).1.1
    have hcl := c_spread_l hw h hG hb m (i + 1) (by omega)
    by_cases c1 : S 2 i = 3
    · have hwh := (h.1 i (by omega)).2.1 c1
      have hR := hwh.1
      have hin := p_within (g := g) h hG (p := i) (b := b) (by omega) hb
      by_cases c2 : q_wi (S 5) b 5 (S 5 i)
      · rw [show q_clo S b (i + 1) = if S 13 i < q_clo S b i then S 13 i else q_clo S b i from q_if_t ⟨c1, c2⟩, show q_chi S b (i + 1) = if q_chi S b i < S 13 i then S 13 i else q_chi S b i from q_if_t ⟨c1, c2⟩, ← hwh.2.2.1] at hcl
        rw [ww_b_t c2] at hin
        refine ww_iload (i := 4) dX6_spreadIn_9 rfl ?_
        refine ww_aload_n (i := 0) dX6_spreadIn_11 rfl rfl ?_
        refine ww_getR (f := 280) wf_X6_10 dX6_spreadIn_12 rfl rfl (show ww_is _ _ 7 from hw.1).1 (show ww_is _ _ 7 from hw.1).2 hw.2.1 ?_
        refine ww_callV (κ := 0) (r := (RJx4a65c, TJx4a65c, 3)) wk_X6_52 dX6_spreadIn_15 (hsz) rfl rfl (show ww_is _ _ 0 from hw.2.2.1.1).1 (show ww_is _ _ 0 from hw.2.2.1.1).2 rfl rfl (by omega) (by omega) (by omega) (by first | exact Nat.le_of_ble_eq_true rfl | (simp [ww_rf_cat, Value.category])) rfl (fun E M9 h9 => h9.elim) (fun v9 M9 h9 => ?_)
        obtain ⟨rfl, rfl⟩ := h9
        refine ww_icmp_ge_f (tgt := 84) dX6_spreadIn_18 (by decide) (nI_ge (by omega) (by omega)) ?_
        refine ww_aload_n (i := 0) dX6_spreadIn_21 rfl rfl ?_
        refine ww_getR (f := 280) wf_X6_10 dX6_spreadIn_22 rfl rfl (show ww_is _ _ 7 from hw.1).1 (show ww_is _ _ 7 from hw.1).2 hw.2.1 ?_
        refine ww_iload (i := 4) dX6_spreadIn_25 rfl ?_
        refine ww_callV (κ := 0) (r := (RJx4a65c, TJx4a65c, 3)) wk_X6_171 dX6_spreadIn_27 (hgt) rfl rfl (show ww_is _ _ 0 from hw.2.2.1.1).1 (show ww_is _ _ 0 from hw.2.2.1.1).2 rfl rfl (by omega) (by omega) (by omega) (by first | exact Nat.le_of_ble_eq_true rfl | (simp [ww_rf_cat, Value.category])) rfl (fun E M9 h9 => h9.elim) (fun v9 M9 h9 => ?_)
        obtain ⟨rfl, rfl⟩ := h9
        refine ww_cast (nm := "") (κ := 4) (r := (RX3, TX3, 18)) dX6_spreadIn_30 (show ww_is _ _ 4 from hi4).1 (show ww_is _ _ 4 from hi4).2 rfl wm_256 ?_
        first | refine ww_astore (i := 5) (lv2 := [(0, _), (1, _), (2, _), (3, _), (4, _), (5, _)]) dX6_spreadIn_33 (Nat.le_of_ble_eq_true rfl) rfl ?_ | refine ww_astoreQ (i := 5) (lv2 := [(0, _), (1, _), (2, _), (3, _), (4, _), (5, _)]) dX6_spreadIn_33 (Nat.le_of_ble_eq_true rfl) rfl ?_
        refine ww_aload (i := 5) dX6_spreadIn_35 rfl ?_
        refine ww_getR (f := 165) wf_X6_345 dX6_spreadIn_37 rfl rfl (show ww_is _ _ 4 from hi4).1 (show ww_is _ _ 4 from hi4).2 hR ?_
        refine ww_ifnull_f dX6_spreadIn_40 ?_
        refine ww_aload (i := 5) dX6_spreadIn_43 rfl ?_
        refine ww_aload_n (i := 1) dX6_spreadIn_45 rfl rfl ?_
        refine ww_callV (κ := 4) (r := (RX3, TX3, 18)) wk_X6_370 dX6_spreadIn_46 (hin) rfl rfl (show ww_is _ _ 4 from hi4).1 (show ww_is _ _ 4 from hi4).2 rfl rfl (by omega) (by omega) (by omega) (by first | exact Nat.le_of_ble_eq_true rfl | (simp [ww_rf_cat, Value.category])) rfl (fun E M9 h9 => h9.elim) (fun v9 M9 h9 => ?_)
        obtain ⟨rfl, rfl⟩ := h9
        refine ww_if_eq_f (tgt := 78) dX6_spreadIn_49 (by decide) (by decide) ?_
        refine ww_iload_n (i := 2) dX6_spreadIn_52 rfl rfl ?_
        refine ww_aload (i := 5) dX6_spreadIn_53 rfl ?_
        refine ww_getR (f := 165) wf_X6_345 dX6_spreadIn_55 rfl rfl (show ww_is _ _ 4 from hi4).1 (show ww_is _ _ 4 from hi4).2 hR ?_
        refine ww_getI (f := 200) wf_X6_196 dX6_spreadIn_58 rfl rfl (show ww_is _ _ 5 from hwh.2.1).1 (show ww_is _ _ 5 from hwh.2.1).2 ?_
        refine ww_mmin wk_X6_204 dX6_spreadIn_61 (by omega) (by first | exact Nat.le_of_ble_eq_true rfl | (simp [ww_rf_cat, Value.category])) ?_
        refine ww_istore_n (i := 2) (lv2 := [(0, _), (1, _), (2, _), (3, _), (4, _), (5, _)]) dX6_spreadIn_64 rfl (Nat.le_of_ble_eq_true rfl) rfl ?_
        refine ww_iload_n (i := 3) dX6_spreadIn_65 rfl rfl ?_
        refine ww_aload (i := 5) dX6_spreadIn_66 rfl ?_
        refine ww_getR (f := 165) wf_X6_345 dX6_spreadIn_68 rfl rfl (show ww_is _ _ 4 from hi4).1 (show ww_is _ _ 4 from hi4).2 hR ?_
        refine ww_getI (f := 200) wf_X6_196 dX6_spreadIn_71 rfl rfl (show ww_is _ _ 5 from hwh.2.1).1 (show ww_is _ _ 5 from hwh.2.1).2 ?_
        refine ww_mmax wk_X6_320 dX6_spreadIn_74 (by omega) (by first | exact Nat.le_of_ble_eq_true rfl | (simp [ww_rf_cat, Value.category])) ?_
        refine ww_istore_n (i := 3) (lv2 := [(0, _), (1, _), (2, _), (3, _), (4, _), (5, _)]) dX6_spreadIn_77 rfl (Nat.le_of_ble_eq_true rfl) rfl ?_
        refine ww_iinc (i := 4) (v := _ + 1) (lv2 := [(0, _), (1, _), (2, _), (3, _), (4, _), (5, _)]) dX6_spreadIn_78 rfl (by rfl) (Nat.le_of_ble_eq_true rfl) rfl ?_
        refine ww_goto (tgt := 9) dX6_spreadIn_81 (by decide) ?_
        -- at 9, locals [0, 1, 2, 3, 4, 5]
        rw [nI_1]
        exact ww_subk hcl ⟨rfl, rfl, rfl, rfl, rfl, trivial⟩
      · rw [show q_clo S b (i + 1) = q_clo S b i from q_if_f (fun z => c2 z.2), show q_chi S b (i + 1) = q_chi S b i from q_if_f (fun z => c2 z.2)] at hcl
        rw [ww_b_f c2] at hin
        refine ww_iload (i := 4) dX6_spreadIn_9 rfl ?_
        refine ww_aload_n (i := 0) dX6_spreadIn_11 rfl rfl ?_
        refine ww_getR (f := 280) wf_X6_10 dX6_spreadIn_12 rfl rfl (show ww_is _ _ 7 from hw.1).1 (show ww_is _ _ 7 from hw.1).2 hw.2.1 ?_
        refine ww_callV (κ := 0) (r := (RJx4a65c, TJx4a65c, 3)) wk_X6_52 dX6_spreadIn_15 (hsz) rfl rfl (show ww_is _ _ 0 from hw.2.2.1.1).1 (show ww_is _ _ 0 from hw.2.2.1.1).2 rfl rfl (by omega) (by omega) (by omega) (by first | exact Nat.le_of_ble_eq_true rfl | (simp [ww_rf_cat, Value.category])) rfl (fun E M9 h9 => h9.elim) (fun v9 M9 h9 => ?_)
        obtain ⟨rfl, rfl⟩ := h9
        refine ww_icmp_ge_f (tgt := 84) dX6_spreadIn_18 (by decide) (nI_ge (by omega) (by omega)) ?_
        refine ww_aload_n (i := 0) dX6_spreadIn_21 rfl rfl ?_
        refine ww_getR (f := 280) wf_X6_10 dX6_spreadIn_22 rfl rfl (show ww_is _ _ 7 from hw.1).1 (show ww_is _ _ 7 from hw.1).2 hw.2.1 ?_
        refine ww_iload (i := 4) dX6_spreadIn_25 rfl ?_
        refine ww_callV (κ := 0) (r := (RJx4a65c, TJx4a65c, 3)) wk_X6_171 dX6_spreadIn_27 (hgt) rfl rfl (show ww_is _ _ 0 from hw.2.2.1.1).1 (show ww_is _ _ 0 from hw.2.2.1.1).2 rfl rfl (by omega) (by omega) (by omega) (by first | exact Nat.le_of_ble_eq_true rfl | (simp [ww_rf_cat, Value.category])) rfl (fun E M9 h9 => h9.elim) (fun v9 M9 h9 => ?_)
        obtain ⟨rfl, rfl⟩ := h9
        refine ww_cast (nm := "") (κ := 4) (r := (RX3, TX3, 18)) dX6_spreadIn_30 (show ww_is _ _ 4 from hi4).1 (show ww_is _ _ 4 from hi4).2 rfl wm_256 ?_
        first | refine ww_astore (i := 5) (lv2 := [(0, _), (1, _), (2, _), (3, _), (4, _), (5, _)]) dX6_spreadIn_33 (Nat.le_of_ble_eq_true rfl) rfl ?_ | refine ww_astoreQ (i := 5) (lv2 := [(0, _), (1, _), (2, _), (3, _), (4, _), (5, _)]) dX6_spreadIn_33 (Nat.le_of_ble_eq_true rfl) rfl ?_
        refine ww_aload (i := 5) dX6_spreadIn_35 rfl ?_
        refine ww_getR (f := 165) wf_X6_345 dX6_spreadIn_37 rfl rfl (show ww_is _ _ 4 from hi4).1 (show ww_is _ _ 4 from hi4).2 hR ?_
        refine ww_ifnull_f dX6_spreadIn_40 ?_
        refine ww_aload (i := 5) dX6_spreadIn_43 rfl ?_
        refine ww_aload_n (i := 1) dX6_spreadIn_45 rfl rfl ?_
        refine ww_callV (κ := 4) (r := (RX3, TX3, 18)) wk_X6_370 dX6_spreadIn_46 (hin) rfl rfl (show ww_is _ _ 4 from hi4).1 (show ww_is _ _ 4 from hi4).2 rfl rfl (by omega) (by omega) (by omega) (by first | exact Nat.le_of_ble_eq_true rfl | (simp [ww_rf_cat, Value.category])) rfl (fun E M9 h9 => h9.elim) (fun v9 M9 h9 => ?_)
        obtain ⟨rfl, rfl⟩ := h9
        refine ww_if_eq_t (tgt := 78) dX6_spreadIn_49 (by decide) (by decide) ?_
        refine ww_iinc (i := 4) (v := _ + 1) (lv2 := [(0, _), (1, _), (2, _), (3, _), (4, _), (5, _)]) dX6_spreadIn_78 rfl (by rfl) (Nat.le_of_ble_eq_true rfl) rfl ?_
        refine ww_goto (tgt := 9) dX6_spreadIn_81 (by decide) ?_
        -- at 9, locals [0, 1, 2, 3, 4, 5]
        rw [nI_1]
        exact ww_subk hcl ⟨rfl, rfl, rfl, rfl, rfl, trivial⟩
    · have hR := (h.1 i (by omega)).2.2.1 c1
      rw [show q_clo S b (i + 1) = q_clo S b i from q_if_f (fun z => c1 z.1), show q_chi S b (i + 1) = q_chi S b i from q_if_f (fun z => c1 z.1)] at hcl
      refine ww_iload (i := 4) dX6_spreadIn_9 rfl ?_
      refine ww_aload_n (i := 0) dX6_spreadIn_11 rfl rfl ?_
      refine ww_getR (f := 280) wf_X6_10 dX6_spreadIn_12 rfl rfl (show ww_is _ _ 7 from hw.1).1 (show ww_is _ _ 7 from hw.1).2 hw.2.1 ?_
      refine ww_callV (κ := 0) (r := (RJx4a65c, TJx4a65c, 3)) wk_X6_52 dX6_spreadIn_15 (hsz) rfl rfl (show ww_is _ _ 0 from hw.2.2.1.1).1 (show ww_is _ _ 0 from hw.2.2.1.1).2 rfl rfl (by omega) (by omega) (by omega) (by first | exact Nat.le_of_ble_eq_true rfl | (simp [ww_rf_cat, Value.category])) rfl (fun E M9 h9 => h9.elim) (fun v9 M9 h9 => ?_)
      obtain ⟨rfl, rfl⟩ := h9
      refine ww_icmp_ge_f (tgt := 84) dX6_spreadIn_18 (by decide) (nI_ge (by omega) (by omega)) ?_
      refine ww_aload_n (i := 0) dX6_spreadIn_21 rfl rfl ?_
      refine ww_getR (f := 280) wf_X6_10 dX6_spreadIn_22 rfl rfl (show ww_is _ _ 7 from hw.1).1 (show ww_is _ _ 7 from hw.1).2 hw.2.1 ?_
      refine ww_iload (i := 4) dX6_spreadIn_25 rfl ?_
      refine ww_callV (κ := 0) (r := (RJx4a65c, TJx4a65c, 3)) wk_X6_171 dX6_spreadIn_27 (hgt) rfl rfl (show ww_is _ _ 0 from hw.2.2.1.1).1 (show ww_is _ _ 0 from hw.2.2.1.1).2 rfl rfl (by omega) (by omega) (by omega) (by first | exact Nat.le_of_ble_eq_true rfl | (simp [ww_rf_cat, Value.category])) rfl (fun E M9 h9 => h9.elim) (fun v9 M9 h9 => ?_)
      obtain ⟨rfl, rfl⟩ := h9
      refine ww_cast (nm := "") (κ := 4) (r := (RX3, TX3, 18)) dX6_spreadIn_30 (show ww_is _ _ 4 from hi4).1 (show ww_is _ _ 4 from hi4).2 rfl wm_256 ?_
      first | refine ww_astore (i := 5) (lv2 := [(0, _), (1, _), (2, _), (3, _), (4, _), (5, _)]) dX6_spreadIn_33 (Nat.le_of_ble_eq_true rfl) rfl ?_ | refine ww_astoreQ (i := 5) (lv2 := [(0, _), (1, _), (2, _), (3, _), (4, _), (5, _)]) dX6_spreadIn_33 (Nat.le_of_ble_eq_true rfl) rfl ?_
      refine ww_aload (i := 5) dX6_spreadIn_35 rfl ?_
      refine ww_getN (f := 165) wf_X6_345 dX6_spreadIn_37 rfl rfl (show ww_is _ _ 4 from hi4).1 (show ww_is _ _ 4 from hi4).2 hR ?_
      refine ww_ifnull_t (tgt := 78) dX6_spreadIn_40 (by decide) ?_
      refine ww_iinc (i := 4) (v := _ + 1) (lv2 := [(0, _), (1, _), (2, _), (3, _), (4, _), (5, _)]) dX6_spreadIn_78 rfl (by rfl) (Nat.le_of_ble_eq_true rfl) rfl ?_
      refine ww_goto (tgt := 9) dX6_spreadIn_81 (by decide) ?_
      -- at 9, locals [0, 1, 2, 3, 4, 5]
      rw [nI_1]
      exact ww_subk hcl ⟨rfl, rfl, rfl, rfl, rfl, trivial⟩
set_option maxRecDepth 20000 in
theorem c_spread (hw : ww_wo g M0 M x pl pe n P) (h : ww_pf M P W kl n S) (hG : q_G S n) {b : Nat} (hb : b < n) : ww_C g wy_X6_spreadIn 4 0 0 [.ref x, .ref (P b)] M (ww_ret (some (.int (q_chi S b n - q_clo S b n))) M) ww_no := by
  refine ww_ent (by decide +kernel) (Nat.le_of_ble_eq_true rfl) ⟨rfl, rfl, trivial⟩ ?_
  have hl := c_spread_l (g := g) hw h hG hb n 0 (by omega)
  rw [nI_0] at hl
  refine ww_sipush (v := 9000) dX6_spreadIn_0 (by decide) ?_
  refine ww_istore_n (i := 2) (lv2 := [(0, _), (1, _), (2, _)]) dX6_spreadIn_3 rfl (Nat.le_of_ble_eq_true rfl) rfl ?_
  refine ww_iconst (v := 0) dX6_spreadIn_4 (by decide) ?_
  refine ww_istore_n (i := 3) (lv2 := [(0, _), (1, _), (2, _), (3, _)]) dX6_spreadIn_5 rfl (Nat.le_of_ble_eq_true rfl) rfl ?_
  refine ww_iconst (v := 0) dX6_spreadIn_6 (by decide) ?_
  refine ww_istore (i := 4) (lv2 := [(0, _), (1, _), (2, _), (3, _), (4, _)]) dX6_spreadIn_7 (Nat.le_of_ble_eq_true rfl) rfl ?_
  -- at 9, locals [0, 1, 2, 3, 4]
  exact hl
end WWF1
