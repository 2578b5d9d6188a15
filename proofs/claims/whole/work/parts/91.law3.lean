/-! ===== the law: its loop and its start ===== -/
section WWK2
variable {g : ww_G} {M : ww_M} {mo ol : Nat} {ar : Nat → Nat} {c : Nat → Nat} {b d kc ks : Nat} {S : Nat → Nat → Int32} {Q : Option Value → ww_M → Prop} {X : String → ww_M → Prop}
theorem q_and31 (v : Int32) : ∃ j : Nat, j < 32 ∧ v &&& 31 = nI j := by
  have e : v = nI v.toBitVec.toNat := by
    apply Int32.toBitVec_inj.mp
    show v.toBitVec = BitVec.ofNat 32 v.toBitVec.toNat
    rw [BitVec.ofNat_toNat, BitVec.setWidth_eq]
  refine ⟨v.toBitVec.toNat &&& 31, Nat.lt_of_le_of_lt Nat.and_le_right (by decide), ?_⟩
  rw [← q_and v.toBitVec.isLt (by decide), ← e]
  rfl
theorem q_end (hgl : ww_gl g ≤ 2560) (hb : b ≤ 512) : nI (ww_gl g) - 5 < nI (5 * b) ↔ ¬ 5 * b + 5 ≤ ww_gl g := by
  rw [ww_lt, q_subI (nI_toInt (by omega)) (show (5 : Int32).toInt = 5 from rfl) (by omega) (by omega), nI_toInt (by omega)]
  omega
theorem law_end (hgl : ww_gl g ≤ 2560) (hb : b ≤ 512) (hx : ¬ 5 * b + 5 ≤ ww_gl g) (hQ : ∀ M', Q (some (.int 1)) M') : ww_A g wy_L_law d kc ks M 23 [(0, .ref (ww_gb g)), (1, .ref (c 0)), (2, .ref mo), (3, .ref ol), (4, .int (nI (5 * b)))] [] Q X := by
  refine ww_iload (i := 4) dL_law_23 rfl ?_
  refine ww_aload_n (i := 0) dL_law_25 rfl rfl ?_
  refine ww_slen dL_law_26 ?_
  refine ww_iconst (v := 5) dL_law_27 (by decide) ?_
  refine ww_isub dL_law_28 ?_
  refine ww_icmp_gt_t (tgt := 2019) dL_law_29 (by decide) ((q_end hgl hb).2 hx) ?_
  refine ww_iconst (v := 1) dL_law_2019 (by decide) ?_
  exact ww_ireturn (ty := .boolean) dL_law_2020 rfl rfl (hQ _)
set_option maxRecDepth 20000 in
theorem law_loop (hgl : ww_gl g ≤ 2560) (hd : 16 ≤ d) (hQ : ∀ M', Q (some (.int 1)) M') : ∀ (r b : Nat), b + r = 512 → ∀ (M : ww_M) (S : Nat → Nat → Int32) (kc ks : Nat), ww_mc g c b S M → ww_mm mo ar ol c S M → 10 * r ≤ kc → 1100 * r ≤ ks → ww_A g wy_L_law d kc ks M 23 [(0, .ref (ww_gb g)), (1, .ref (c 0)), (2, .ref mo), (3, .ref ol), (4, .int (nI (5 * b)))] [] Q X := by
  intro r
  induction r with
  | zero =>
    intro b hb M S kc ks h hm hkc hks
    exact law_end hgl (by omega) (by omega) hQ
  | succ r ih =>
    intro b hb M S kc ks h hm hkc hks
    by_cases hx : 5 * b + 5 ≤ ww_gl g
    · refine ww_iload (i := 4) dL_law_23 rfl ?_
      refine ww_aload_n (i := 0) dL_law_25 rfl rfl ?_
      refine ww_slen dL_law_26 ?_
      refine ww_iconst (v := 5) dL_law_27 (by decide) ?_
      refine ww_isub dL_law_28 ?_
      refine ww_icmp_gt_f (tgt := 2019) dL_law_29 (by decide) (fun y => (q_end hgl (by omega)).1 y hx) ?_
      refine ww_aload_n (i := 0) dL_law_32 rfl rfl ?_
      refine ww_iload (i := 4) dL_law_33 rfl ?_
      refine ww_sld dL_law_35 rfl (by omega) (by omega) ?_
      refine ww_bipush (v := 31) dL_law_36 (by decide) ?_
      refine ww_iand dL_law_38 ?_
      obtain ⟨j, hj, e⟩ := q_and31 (ww_gx g (5 * b))
      rw [e]
      have hk : ∀ M' S', ww_mc g c (b + 1) S' M' → ww_mm mo ar ol c S' M' → ww_A g wy_L_law d (kc - 10) (ks - 1100) M' 2013 [(0, .ref (ww_gb g)), (1, .ref (c 0)), (2, .ref mo), (3, .ref ol), (4, .int (nI (5 * b)))] [] Q X := fun M' S' h' hm' => by
        refine ww_iinc (i := 4) (v := nI (5 * (b + 1))) (lv2 := [(0, _), (1, _), (2, _), (3, _), (4, _)]) dL_law_2013 rfl ?_ (Nat.le_of_ble_eq_true rfl) rfl ?_
        · rw [show Int32.ofInt 5 = nI 5 from by decide, nI_add]; rfl
        refine ww_goto (tgt := 23) dL_law_2016 (by decide) ?_
        exact ih (b + 1) (by omega) M' S' _ _ h' hm' (by omega) (by omega)
      have hkc' : 10 ≤ kc := by omega
      have hks' : 1100 ≤ ks := by omega
      have hb' : b < 512 := by omega
      clear ih
      have hj2 : j = 0 ∨ j = 1 ∨ j = 2 ∨ j = 3 ∨ j = 4 ∨ j = 5 ∨ j = 6 ∨ j = 7 ∨ j = 8 ∨ j = 9 ∨ j = 10 ∨ j = 11 ∨ j = 12 ∨ j = 13 ∨ j = 14 ∨ j = 15 ∨ j = 16 ∨ j = 17 ∨ j = 18 ∨ j = 19 ∨ j = 20 ∨ j = 21 ∨ j = 22 ∨ j = 23 ∨ j = 24 ∨ j = 25 ∨ j = 26 ∨ j = 27 ∨ j = 28 ∨ j = 29 ∨ j = 30 ∨ j = 31 := by omega
      rcases hj2 with rfl | rfl | rfl | rfl | rfl | rfl | rfl | rfl | rfl | rfl | rfl | rfl | rfl | rfl | rfl | rfl | rfl | rfl | rfl | rfl | rfl | rfl | rfl | rfl | rfl | rfl | rfl | rfl | rfl | rfl | rfl | rfl
      · exact ww_tableIn (off := 137) (tgt := 176) dL_law_39 (by decide) (by decide) (by decide +kernel) (by decide) (law_part h hm hb' hx hgl hd hkc' hks' hk)
      · exact ww_tableIn (off := 217) (tgt := 256) dL_law_39 (by decide) (by decide) (by decide +kernel) (by decide) (law_limits h hm hb' hx hgl hd hkc' hks' hk)
      · exact ww_tableIn (off := 309) (tgt := 348) dL_law_39 (by decide) (by decide) (by decide +kernel) (by decide) (law_fit h hm hb' hx hgl hd hkc' hks' hk)
      · exact ww_tableIn (off := 377) (tgt := 416) dL_law_39 (by decide) (by decide) (by decide +kernel) (by decide) (law_take h hm hb' hx hgl hd hkc' hks' hk)
      · exact ww_tableIn (off := 433) (tgt := 472) dL_law_39 (by decide) (by decide) (by decide +kernel) (by decide) (law_scrap h hm hb' hx hgl hd hkc' hks' hk)
      · exact ww_tableIn (off := 469) (tgt := 508) dL_law_39 (by decide) (by decide) (by decide +kernel) (by decide) (law_run h hm hb' hx hgl hd hkc' hks' hk)
      · exact ww_tableIn (off := 549) (tgt := 588) dL_law_39 (by decide) (by decide) (by decide +kernel) (by decide) (law_turn h hm hb' hx hgl hd hkc' hks' hk)
      · exact ww_tableIn (off := 605) (tgt := 644) dL_law_39 (by decide) (by decide) (by decide +kernel) (by decide) (law_gate h hm hb' hx hgl hd hkc' hks' hk)
      · exact ww_tableIn (off := 673) (tgt := 712) dL_law_39 (by decide) (by decide) (by decide +kernel) (by decide) (law_examine h hm hb' hx hgl hd hkc' hks' hk)
      · exact ww_tableIn (off := 729) (tgt := 768) dL_law_39 (by decide) (by decide) (by decide +kernel) (by decide) (law_waive h hm hb' hx hgl hd hkc' hks' hk)
      · exact ww_tableIn (off := 777) (tgt := 816) dL_law_39 (by decide) (by decide) (by decide +kernel) (by decide) (law_flaw h hm hb' hx hgl hd hkc' hks' hk)
      · exact ww_tableIn (off := 845) (tgt := 884) dL_law_39 (by decide) (by decide) (by decide +kernel) (by decide) (law_look h hm hb' hx hgl hd hkc' hks' hk)
      · exact ww_tableIn (off := 929) (tgt := 968) dL_law_39 (by decide) (by decide) (by decide +kernel) (by decide) (law_clear h hm hb' hx hgl hd hkc' hks' hk)
      · exact ww_tableIn (off := 985) (tgt := 1024) dL_law_39 (by decide) (by decide) (by decide +kernel) (by decide) (law_recall h hm hb' hx hgl hd hkc' hks' hk)
      · exact ww_tableIn (off := 1041) (tgt := 1080) dL_law_39 (by decide) (by decide) (by decide +kernel) (by decide) (law_release h hm hb' hx hgl hd hkc' hks' hk)
      · exact ww_tableIn (off := 1097) (tgt := 1136) dL_law_39 (by decide) (by decide) (by decide +kernel) (by decide) (law_comes h hm hb' hx hgl hd hkc' hks' hk)
      · exact ww_tableIn (off := 1165) (tgt := 1204) dL_law_39 (by decide) (by decide) (by decide +kernel) (by decide) (law_night h hm hb' hx hgl hd hkc' hks' hk)
      · exact ww_tableIn (off := 1209) (tgt := 1248) dL_law_39 (by decide) (by decide) (by decide +kernel) (by decide) (law_out h hm hb' hx hgl hd hkc' hks' hk)
      · exact ww_tableIn (off := 1253) (tgt := 1292) dL_law_39 (by decide) (by decide) (by decide +kernel) (by decide) (law_host h hm hb' hx hgl hd hkc' hks' hk)
      · exact ww_tableIn (off := 1309) (tgt := 1348) dL_law_39 (by decide) (by decide) (by decide +kernel) (by decide) (law_head h hm hb' hx hgl hd hkc' hks' hk)
      · exact ww_tableIn (off := 1365) (tgt := 1404) dL_law_39 (by decide) (by decide) (by decide +kernel) (by decide) (law_ofPart h hm hb' hx hgl hd hkc' hks' hk)
      · exact ww_tableIn (off := 1433) (tgt := 1472) dL_law_39 (by decide) (by decide) (by decide +kernel) (by decide) (law_trace h hm hb' hx hgl hd hkc' hks' hk)
      · exact ww_tableIn (off := 1501) (tgt := 1540) dL_law_39 (by decide) (by decide) (by decide +kernel) (by decide) (law_lifeAnew h hm hb' hx hgl hd hkc' hks' hk)
      · exact ww_tableIn (off := 1557) (tgt := 1596) dL_law_39 (by decide) (by decide) (by decide +kernel) (by decide) (law_wheel h hm hb' hx hgl hd hkc' hks' hk)
      · exact ww_tableIn (off := 1625) (tgt := 1664) dL_law_39 (by decide) (by decide) (by decide +kernel) (by decide) (law_foretell h hm hb' hx hgl hd hkc' hks' hk)
      · exact ww_tableIn (off := 1705) (tgt := 1744) dL_law_39 (by decide) (by decide) (by decide +kernel) (by decide) (law_bars h hm hb' hx hgl hd hkc' hks' hk)
      · exact ww_tableIn (off := 1761) (tgt := 1800) dL_law_39 (by decide) (by decide) (by decide +kernel) (by decide) (law_barredBy h hm hb' hx hgl hd hkc' hks' hk)
      · exact ww_tableIn (off := 1817) (tgt := 1856) dL_law_39 (by decide) (by decide) (by decide +kernel) (by decide) (law_isReleased h hm hb' hx hgl hd hkc' hks' hk)
      · exact ww_tableIn (off := 1880) (tgt := 1919) dL_law_39 (by decide) (by decide) (by decide +kernel) (by decide) (law_plan h hm hb' hx hgl hd hkc' hks' hk)
      · exact ww_tableIn (off := 1893) (tgt := 1932) dL_law_39 (by decide) (by decide) (by decide +kernel) (by decide) (law_planAnew h hm hb' hx hgl hd hkc' hks' hk)
      · exact ww_tableIn (off := 1906) (tgt := 1945) dL_law_39 (by decide) (by decide) (by decide +kernel) (by decide) (law_road h hm hb' hx hgl hd hkc' hks' hk)
      · refine ww_tableOut (tgt := 2013) dL_law_39 (Or.inr (by decide)) (by decide) ?_
        obtain ⟨ea, P, W, kl, f, z, D, E, n, u, w, m, hr, H⟩ := h
        exact ww_more (hk M S ⟨ea, P, W, kl, f, z, D, E, n, u, w, m, hr, q_all_b H⟩ hm) (Nat.sub_le _ _) (Nat.sub_le _ _)
    · exact law_end hgl (by omega) hx hQ
theorem q_all_zero {E : Nat → Nat → Int32} {z D : Nat → Nat} (hz : ∀ k i, k < 40 → S k i = 0) : q_all S E z D 0 0 0 0 0 := by
  have hc : ∀ r, q_rn S r = 0 := fun r => by unfold q_rn; rw [hz 31 r (by decide)]; rfl
  refine ⟨⟨hz 1 0 (by decide), by decide, fun p h => by omega, fun i => Or.inl (hz 9 i (by decide)), fun i => Or.inl (hz 10 i (by decide)), fun i => Or.inl (hz 11 i (by decide)), fun i => Or.inl (hz 12 i (by decide)), fun i => Or.inl (hz 17 i (by decide))⟩, ⟨⟨hz 26 0 (by decide), by decide, fun i h => by omega⟩, fun i j h => by omega, fun i j h => by omega, fun i h => by omega⟩, ⟨⟨by decide, fun r hr => ⟨by rw [hc r]; decide, by rw [hc r]; exact hz 31 r (by decide), fun k hk => by rw [hc r] at hk; omega⟩⟩, fun i h => by omega, fun i j h => by omega, fun i j h => by omega, fun p h => by omega, fun r hr => hc r, fun i h => by omega⟩, fun i h => by omega, fun i h => by omega, fun t h => by omega, fun p h => by omega, fun i h => by omega, fun i _ _ => ⟨hz 6 i (by decide), hz 7 i (by decide), hz 8 i (by decide), hz 9 i (by decide), hz 10 i (by decide), hz 11 i (by decide), hz 12 i (by decide), hz 15 i (by decide), hz 17 i (by decide), hz 18 i (by decide), hz 19 i (by decide), hz 28 i (by decide)⟩, ⟨0, hz 23 0 (by decide), fun i h => by omega, ⟨fun p h => by omega, fun p _ => rfl⟩, ⟨fun p h => by omega, fun p _ _ => rfl⟩, rfl, fun i h => by omega⟩, Nat.le_refl _⟩
set_option maxRecDepth 20000 in
theorem law_go (hgl : ww_gl g ≤ 2560) (hd : 16 ≤ d) (hQ : ∀ M', Q (some (.int 1)) M') : ww_A g wy_L_law d 601024 7293034 M 0 [(0, .ref (ww_gb g))] [] Q X := by
  refine ww_newO (κ := 7) wn_L_8 dL_law_0 (by decide) (show 4 ≤ 7293034 by decide) (fun x hxn => ?_)
  refine ww_less (kc2 := 601023) (ks2 := 7293030) (Nat.le_of_ble_eq_true rfl) (Nat.le_of_ble_eq_true rfl) ?_
  have hx : ww_is (ww_nw M x 7 0).1 x 7 := ⟨ww_nw_q.1, ww_nw_q.2.1⟩
  generalize ww_nw M x 7 0 = M1 at hx ⊢
  refine ww_dup dL_law_3 rfl ?_
  refine ww_callI wk_L_111 rfl dL_law_4 (c_worksInit hx) rfl rfl (by omega) (by decide) (by decide) (Nat.le_of_ble_eq_true rfl) (fun v9 M2 h9 => ?_)
  obtain ⟨rfl, t2, c, kl, hwi, n7, n8⟩ := h9
  refine ww_less (kc2 := 601009) (ks2 := 7292920) (Nat.le_of_ble_eq_true rfl) (Nat.le_of_ble_eq_true rfl) ?_
  refine ww_astore_n (i := 1) (lv2 := [(0, _), (1, _)]) dL_law_7 rfl (Nat.le_of_ble_eq_true rfl) rfl ?_
  refine ww_newO (κ := 8) wn_L_112 dL_law_8 (by decide) (show 33 ≤ 7292920 by decide) (fun mo hmo => ?_)
  refine ww_less (kc2 := 601008) (ks2 := 7292887) (Nat.le_of_ble_eq_true rfl) (Nat.le_of_ble_eq_true rfl) ?_
  have hz : ww_z0 (ww_nw M2 mo 8 0) mo := fun k => ⟨if_pos rfl, if_pos rfl⟩
  have hm8 : ww_is (ww_nw M2 mo 8 0).1 mo 8 := ⟨ww_nw_q.1, ww_nw_q.2.1⟩
  have t3 : ww_ft M2 (ww_nw M2 mo 8 0) (fun _ => False) (fun _ => False) := ww_ft_nw ww_ft_rf hmo
  generalize ww_nw M2 mo 8 0 = M3 at hz hm8 t3 ⊢
  refine ww_dup dL_law_11 rfl ?_
  refine ww_callI wk_L_114 rfl dL_law_12 (m_init hm8 hz) rfl rfl (by omega) (by decide) (by decide) (Nat.le_of_ble_eq_true rfl) (fun v9 M4 h9 => ?_)
  obtain ⟨rfl, t4, m8, mI, ar, mR, mJ⟩ := h9
  refine ww_less (kc2 := 600979) (ks2 := 7283693) (Nat.le_of_ble_eq_true rfl) (Nat.le_of_ble_eq_true rfl) ?_
  refine ww_astore_n (i := 2) (lv2 := [(0, _), (1, _), (2, _)]) dL_law_15 rfl (Nat.le_of_ble_eq_true rfl) rfl ?_
  refine ww_iconst (v := 1) dL_law_16 (by decide) ?_
  refine ww_newL (n := 1) dL_law_17 rfl wm_1294 (by decide) (by decide) (by decide) (by decide) (fun ol hol => ?_)
  refine ww_less (kc2 := 600978) (ks2 := 7283692) (Nat.le_of_ble_eq_true rfl) (Nat.le_of_ble_eq_true rfl) ?_
  have t5 : ww_ft M4 (ww_nw M4 ol 13 1) (fun _ => False) (fun _ => False) := ww_ft_nw ww_ft_rf hol
  have ho : ww_is (ww_nw M4 ol 13 1).1 ol 13 ∧ ww_N (ww_nw M4 ol 13 1) ol = 1 := ⟨⟨ww_nw_q.1, ww_nw_q.2.1⟩, ww_nw_q.2.2⟩
  generalize ww_nw M4 ol 13 1 = M5 at t5 ho ⊢
  refine ww_astore_n (i := 3) (lv2 := [(0, _), (1, _), (2, _), (3, _)]) dL_law_19 rfl (Nat.le_of_ble_eq_true rfl) rfl ?_
  refine ww_iconst (v := nI (5 * 0)) dL_law_20 (by decide) ?_
  refine ww_istore (i := 4) (lv2 := [(0, _), (1, _), (2, _), (3, _), (4, _)]) dL_law_21 (Nat.le_of_ble_eq_true rfl) rfl ?_
  refine ww_geL (fun hge => ?_)
  have hc0 : c 0 = x := hwi.1.1
  subst hc0
  have h33 : ∀ k, ww_mr k = true → k < 33 := fun k hk => by
    unfold ww_mr at hk
    simp only [Bool.or_eq_true, Bool.and_eq_true, decide_eq_true_eq, beq_iff_eq] at hk
    omega
  have g4 : ww_ge g ∉ ww_L M4 := fun y => hge (t5.1 _ y).1
  have g3 : ww_ge g ∉ ww_L M3 := fun y => g4 (t4.1 _ y).1
  have g2 : ww_ge g ∉ ww_L M2 := fun y => g3 (t3.1 _ y).1
  have hm5 : ww_mo mo ar M5.1 M5.2.2.1 := by
    refine ⟨ww_ft_in t5 m8, fun k hk => ?_, fun k hk => ?_, fun k j hk hj e => mJ k j hk hj (h33 k hk) (h33 j hj) e⟩
    · have hk33 := h33 k hk
      exact (ww_ft_R (f := 320 + k) t5 m8 (fun z => z) (by omega)).trans (mR k hk (h33 k hk)).1
    · obtain ⟨-, a1, a2, -, -⟩ := mR k hk (h33 k hk)
      exact ⟨ww_ft_in t5 a1, (t5.1 _ a1.1).2.2.trans a2⟩
  have hz5 : ∀ k i, k < 40 → q_S M5 mo ar k i = 0 := fun k i hk => by
    by_cases h : ww_mr k = true
    · rw [q_S_a h, (t5.2.2 _ (mR k h (h33 k h)).2.1.1 (fun z => z)).1]
      exact (mR k h (h33 k h)).2.2.2.1 i
    · rw [q_S_s h, ww_ft_I (f := 320 + k) t5 m8 (fun z => z) (by omega)]
      exact mI k hk (by simpa using h)
  have hrc := ww_wi_rc (ea := fun _ => ww_ge g) (P := fun _ => 0) (W := fun _ => 0) (f := fun _ => 0) (z := fun _ => 0) (D := fun _ => 0) (E := fun _ _ => 0) (S := q_S M5 mo ar) hwi (fun _ => rfl) (fun k hk => ⟨hz5 20 k (by decide), hz5 21 k (by decide), hz5 22 k (by decide)⟩) g2
  have hrc3 := ww_rc_ft hrc t3 (fun _ y => y.elim) (fun _ _ y => y.elim) g3
  have hrc4 := ww_rc_ft hrc3 t4 (fun y e => by rw [e, show ww_K M3 mo = 8 from hm8.2]; exact Nat.le_refl _) (fun _ _ y => y.elim) g4
  have hrc5 := ww_rc_ft hrc4 t5 (fun _ y => y.elim) (fun _ _ y => y.elim) hge
  have hin : ∀ {i κ}, ww_is M2.1 (c i) κ → c i ∈ ww_L M3 := fun h => (t3.1 _ h.1).1
  have hap : ∀ k, ww_mr k = true → ar k ≠ c 7 ∧ ar k ≠ c 8 := fun k hk => by
    have hn := (mR k hk (h33 k hk)).2.2.2.2
    have i7 := hrc.2.2.1.1.2.2.2.2.1
    have i8 := hrc.2.1.2.2.2.2.1
    exact ⟨fun e => hn (e ▸ hin i7), fun e => hn (e ▸ hin i8)⟩
  exact law_loop hgl hd hQ 512 0 rfl M5 (q_S M5 mo ar) _ _ ⟨_, _, _, _, _, _, _, _, _, _, _, _, hrc5, q_all_zero hz5⟩ ⟨⟨hm5, rfl⟩, ho, hap⟩ (by decide) (by decide)
end WWK2
