/-! ===== the yard's bits ===== -/
theorem q_and {a b : Nat} (ha : a < 2 ^ 32) (hb : b < 2 ^ 32) : nI a &&& nI b = nI (a &&& b) := by
  apply Int32.toBitVec_inj.mp
  apply BitVec.eq_of_toNat_eq
  have hab : a &&& b < 2 ^ 32 := Nat.lt_of_le_of_lt Nat.and_le_left ha
  rw [Int32.toBitVec_and, BitVec.toNat_and, pk_tn ha, pk_tn hb, pk_tn hab]
theorem q_or {a b : Nat} (ha : a < 2 ^ 32) (hb : b < 2 ^ 32) : nI a ||| nI b = nI (a ||| b) := by
  apply Int32.toBitVec_inj.mp
  apply BitVec.eq_of_toNat_eq
  have hab : a ||| b < 2 ^ 32 := Nat.or_lt_two_pow ha hb
  rw [Int32.toBitVec_or, BitVec.toNat_or, pk_tn ha, pk_tn hb, pk_tn hab]
theorem q_shl1 {r i : Nat} (hr : r < 3) (hi : i < 8) : (1 : Int32) <<< ((nI r * 8 + nI i) &&& 31) = nI (2 ^ (8 * r + i)) := by
  have e : ∀ (r : Fin 3) (i : Fin 8), (1 : Int32) <<< ((nI r.val * 8 + nI i.val) &&& 31) = nI (2 ^ (8 * r.val + i.val)) := by decide +kernel
  exact e ⟨r, hr⟩ ⟨i, hi⟩
theorem q_shr8 {v r : Nat} (hv : v < 2 ^ 31) (hr : r < 3) : nI v >>> ((nI r * 8) &&& 31) = nI (v / 2 ^ (8 * r)) := by
  rcases (show r = 0 ∨ r = 1 ∨ r = 2 by omega) with rfl | rfl | rfl
  · exact pk_shrN hv ((nI 0 * 8) &&& 31) (8 * 0) (by decide)
  · exact pk_shrN hv ((nI 1 * 8) &&& 31) (8 * 1) (by decide)
  · exact pk_shrN hv ((nI 2 * 8) &&& 31) (8 * 2) (by decide)
theorem q_pop_cnt (x : Nat) : q_pop x = q_cnt (fun j => x.testBit j = true) 8 := by
  have e : ∀ j, q_if (x.testBit j = true) 1 0 = x / 2 ^ j % 2 := by
    intro j
    by_cases h : x.testBit j = true
    · rw [q_if_t h]
      rw [Nat.testBit_eq_decide_div_mod_eq] at h
      exact (of_decide_eq_true h).symm
    · rw [q_if_f h]
      rw [Nat.testBit_eq_decide_div_mod_eq] at h
      have h2 : ¬ x / 2 ^ j % 2 = 1 := fun z => h (decide_eq_true z)
      omega
  have s : ∀ n, q_cnt (fun j => x.testBit j = true) (n + 1) = q_cnt (fun j => x.testBit j = true) n + x / 2 ^ n % 2 := fun n => by rw [← e n]; rfl
  rw [s, s, s, s, s, s, s, s]
  show _ = 0 + x / 2 ^ 0 % 2 + x / 2 ^ 1 % 2 + x / 2 ^ 2 % 2 + x / 2 ^ 3 % 2 + x / 2 ^ 4 % 2 + x / 2 ^ 5 % 2 + x / 2 ^ 6 % 2 + x / 2 ^ 7 % 2
  unfold q_pop
  simp
/-- v holds the roads d of the first i trains -/
def q_mk (d : Nat → Nat) (i v : Nat) : Prop := v < 2 ^ 24 ∧ ∀ r j, r < 3 → j < 8 → (v.testBit (8 * r + j) = true ↔ j < i ∧ d j = r)
theorem q_mk_0 {d : Nat → Nat} : q_mk d 0 0 := ⟨by decide, fun r j _ _ => ⟨fun z => absurd ((Nat.zero_testBit _).symm.trans z) (by decide), fun z => by omega⟩⟩
theorem q_mk_s {d : Nat → Nat} {i v : Nat} (h : q_mk d i v) (hi : i < 8) (hd : d i < 3) : q_mk d (i + 1) (v ||| 2 ^ (8 * d i + i)) := by
  refine ⟨Nat.or_lt_two_pow h.1 (Nat.pow_lt_pow_right (by decide) (by omega)), fun r j hr hj => ?_⟩
  rw [Nat.testBit_or, Bool.or_eq_true, h.2 r j hr hj, Nat.testBit_two_pow, decide_eq_true_iff]
  constructor
  · rintro (⟨h1, h2⟩ | h1)
    · exact ⟨by omega, h2⟩
    · have : d i = r ∧ i = j := by omega
      exact ⟨by omega, by rw [← this.2]; exact this.1⟩
  · rintro ⟨h1, h2⟩
    by_cases c : j = i
    · subst c
      exact Or.inr (by rw [h2])
    · exact Or.inl ⟨by omega, h2⟩
theorem q_mk_ext {d d' : Nat → Nat} {i v : Nat} (h : q_mk d i v) (e : ∀ j, j < i → d' j = d j) : q_mk d' i v := ⟨h.1, fun r j hr hj => (h.2 r j hr hj).trans ⟨fun z => ⟨z.1, (e j z.1).trans z.2⟩, fun z => ⟨z.1, (e j z.1).symm.trans z.2⟩⟩⟩
def q_tr (v r : Nat) : Nat := v / 2 ^ (8 * r) % 256
theorem q_tr_bit {d : Nat → Nat} {i v r j : Nat} (h : q_mk d i v) (hr : r < 3) (hj : j < 8) : (q_tr v r).testBit j = true ↔ j < i ∧ d j = r := by
  unfold q_tr
  rw [show (256 : Nat) = 2 ^ 8 from rfl, Nat.testBit_mod_two_pow, Nat.testBit_div_two_pow, Bool.and_eq_true, decide_eq_true_iff, show j + 8 * r = 8 * r + j by omega, h.2 r j hr hj]
  exact ⟨fun z => z.2, fun z => ⟨hj, z⟩⟩
theorem q_cnt_lt {R : Nat → Prop} {i : Nat} : ∀ {n : Nat}, i ≤ n → q_cnt (fun j => j < i ∧ R j) n = q_cnt R i
  | 0, h => by
    have : i = 0 := by omega
    subst this
    rfl
  | n + 1, h => by
    by_cases c : i = n + 1
    · subst c
      exact q_cnt_cg (fun p hp => ⟨fun z => z.2, fun z => ⟨hp, z⟩⟩)
    · rw [q_cnt_n (P := fun j => j < i ∧ R j) (fun z => by omega)]
      exact q_cnt_lt (by omega)
theorem q_tr_pop {d : Nat → Nat} {i v r : Nat} (h : q_mk d i v) (hr : r < 3) (hi : i ≤ 8) : q_pop (q_tr v r) = q_cnt (fun j => d j = r) i := by
  rw [q_pop_cnt, ← q_cnt_lt (R := fun j => d j = r) hi]
  exact q_cnt_cg (fun j hj => q_tr_bit h hr hj)
theorem q_tr_and {d : Nat → Nat} {R : Nat → Prop} {i v r b : Nat} (h : q_mk d i v) (hr : r < 3) (hi : i ≤ 8) (hb : ∀ j, j < 8 → (b.testBit j = true ↔ j < i ∧ R j)) : q_pop (q_tr v r &&& b) = q_cnt (fun j => d j = r ∧ R j) i := by
  rw [q_pop_cnt, ← q_cnt_lt (R := fun j => d j = r ∧ R j) hi]
  refine q_cnt_cg (fun j hj => ?_)
  rw [Nat.testBit_and, Bool.and_eq_true, q_tr_bit h hr hj, hb j hj]
  exact ⟨fun z => ⟨z.1.1, z.1.2, z.2.2⟩, fun z => ⟨⟨z.1, z.2.1⟩, z.1, z.2.2⟩⟩
section WWC6
variable {g : ww_G} {M : ww_M}
set_option maxRecDepth 20000 in
theorem c_trainsIn {v r : Nat} (hv : v < 2 ^ 24) (hr : r < 3) : ww_C g wy_X5_trainsIn 1 0 0 [.int (nI v), .int (nI r)] M (ww_ret (some (.int (nI (q_tr v r)))) M) ww_no := by
  refine ww_ent (by decide +kernel) (Nat.le_of_ble_eq_true rfl) ⟨rfl, rfl, trivial⟩ ?_
  have h1 : v / 2 ^ (8 * r) < 2 ^ 32 := Nat.lt_of_le_of_lt (Nat.div_le_self _ _) (by omega)
  refine ww_iload_n (i := 0) dX5_trainsIn_0 rfl rfl ?_
  refine ww_iload_n (i := 1) dX5_trainsIn_1 rfl rfl ?_
  refine ww_bipush (v := 8) dX5_trainsIn_2 (by decide) ?_
  refine ww_imul dX5_trainsIn_4 ?_
  refine ww_ishr dX5_trainsIn_5 ?_
  -- at 6, locals [0, 1]
  rw [q_shr8 (by omega) hr]
  refine ww_sipush (v := 255) dX5_trainsIn_6 (by decide) ?_
  refine ww_iand dX5_trainsIn_9 ?_
  -- at 10, locals [0, 1]
  rw [pk_andN h1 (m := 255) 8 (by decide)]
  exact ww_ireturn dX5_trainsIn_10 rfl (by first | rfl | exact ww_b_nar) ⟨rfl, rfl⟩
set_option maxRecDepth 20000 in
theorem c_bitOf {r i : Nat} (hr : r < 3) (hi : i < 8) : ww_C g wy_X5_bitOf 1 0 0 [.int (nI r), .int (nI i)] M (ww_ret (some (.int (nI (2 ^ (8 * r + i))))) M) ww_no := by
  refine ww_ent (by decide +kernel) (Nat.le_of_ble_eq_true rfl) ⟨rfl, rfl, trivial⟩ ?_
  refine ww_iconst (v := 1) dX5_bitOf_0 (by decide) ?_
  refine ww_iload_n (i := 0) dX5_bitOf_1 rfl rfl ?_
  refine ww_bipush (v := 8) dX5_bitOf_2 (by decide) ?_
  refine ww_imul dX5_bitOf_4 ?_
  refine ww_iload_n (i := 1) dX5_bitOf_5 rfl rfl ?_
  refine ww_iadd dX5_bitOf_6 ?_
  refine ww_ishl dX5_bitOf_7 ?_
  -- at 8, locals [0, 1]
  rw [q_shl1 hr hi]
  exact ww_ireturn dX5_bitOf_8 rfl (by first | rfl | exact ww_b_nar) ⟨rfl, rfl⟩
theorem q_and_pow {v k : Nat} : (v &&& 2 ^ k = 0) ↔ ¬ v.testBit k = true := by
  constructor
  · intro h z
    have := congrArg (fun x => x.testBit k) h
    simp only [Nat.testBit_and, Nat.testBit_two_pow, Nat.zero_testBit, z, Bool.true_and] at this
    exact absurd this (by simp)
  · intro h
    refine Nat.eq_of_testBit_eq (fun j => ?_)
    rw [Nat.testBit_and, Nat.testBit_two_pow, Nat.zero_testBit]
    by_cases c : k = j
    · subst c
      rw [Bool.eq_false_iff.mpr h, Bool.false_and]
    · rw [decide_eq_false c, Bool.and_false]
set_option maxRecDepth 20000 in
theorem c_roadIn_l {d : Nat → Nat} {v w i : Nat} (hm : q_mk d w v) (hi : i < w) (h8 : w ≤ 8) (hd : d i < 3) : ∀ (m r : Nat), r + m = 3 → r ≤ d i → ww_A g wy_X5_roadIn 2 0 0 M 2 [(0, .int (nI v)), (1, .int (nI i)), (2, .int (nI r))] [] (ww_ret (some (.int (nI (d i)))) M) ww_no
  | 0, r, hr, hle => by omega
  | m + 1, r, hr, hle => by
    have hp : 2 ^ (8 * r + i) < 2 ^ 32 := Nat.pow_lt_pow_right (by decide) (by omega)
    have hv := hm.1
    have hb := hm.2 r i (by omega) (by omega)
    have hlt : v &&& 2 ^ (8 * r + i) < 2 ^ 31 := Nat.lt_of_le_of_lt Nat.and_le_left (by omega)
    have ha : nI v &&& nI (2 ^ (8 * r + i)) = nI (v &&& 2 ^ (8 * r + i)) := q_and (by omega) hp
    refine ww_iload_n (i := 2) dX5_roadIn_2 rfl rfl ?_
    refine ww_iconst (v := 3) dX5_roadIn_3 (by decide) ?_
    refine ww_icmp_ge_f (tgt := 25) dX5_roadIn_4 (by decide) (nI_ge (b := 3) (by omega) (by decide)) ?_
    refine ww_iload_n (i := 0) dX5_roadIn_7 rfl rfl ?_
    refine ww_iload_n (i := 2) dX5_roadIn_8 rfl rfl ?_
    refine ww_iload_n (i := 1) dX5_roadIn_9 rfl rfl ?_
    refine ww_callS wk_X5_88 rfl dX5_roadIn_10 (c_bitOf (by omega) (by omega)) rfl rfl (by omega) (by omega) (by omega) (by first | exact Nat.le_of_ble_eq_true rfl | (simp [ww_rf_cat, Value.category])) rfl (fun E M9 h9 => h9.elim) (fun v9 M9 h9 => ?_)
    obtain ⟨rfl, rfl⟩ := h9
    refine ww_iand dX5_roadIn_13 ?_
    -- at 14, locals [0, 1, 2]
    rw [ha]
    by_cases c : d i = r
    · have h1 : ¬ v &&& 2 ^ (8 * r + i) = 0 := fun z => (q_and_pow.mp z) (hb.mpr ⟨hi, c⟩)
      have h2 : ¬ nI (v &&& 2 ^ (8 * r + i)) = 0 := nI_ne0 (by omega) hlt
      rw [c]
      refine ww_if_eq_f (tgt := 19) dX5_roadIn_14 (by decide) h2 ?_
      refine ww_iload_n (i := 2) dX5_roadIn_17 rfl rfl ?_
      exact ww_ireturn dX5_roadIn_18 rfl (by first | rfl | exact ww_b_nar) ⟨rfl, rfl⟩
    · have h1 : v &&& 2 ^ (8 * r + i) = 0 := q_and_pow.mpr (fun z => c (hb.mp z).2)
      have h2 : nI (v &&& 2 ^ (8 * r + i)) = 0 := by rw [h1]; rfl
      refine ww_if_eq_t (tgt := 19) dX5_roadIn_14 (by decide) h2 ?_
      refine ww_iinc (i := 2) (v := _ + 1) (lv2 := [(0, _), (1, _), (2, _)]) dX5_roadIn_19 rfl (by rfl) (Nat.le_of_ble_eq_true rfl) rfl ?_
      refine ww_goto (tgt := 2) dX5_roadIn_22 (by decide) ?_
      -- at 2, locals [0, 1, 2]
      rw [nI_1]
      exact c_roadIn_l hm hi h8 hd m (r + 1) (by omega) (by omega)
set_option maxRecDepth 20000 in
theorem c_roadIn {d : Nat → Nat} {v w i : Nat} (hm : q_mk d w v) (hi : i < w) (h8 : w ≤ 8) (hd : d i < 3) : ww_C g wy_X5_roadIn 2 0 0 [.int (nI v), .int (nI i)] M (ww_ret (some (.int (nI (d i)))) M) ww_no := by
  refine ww_ent (by decide +kernel) (Nat.le_of_ble_eq_true rfl) ⟨rfl, rfl, trivial⟩ ?_
  have hl := c_roadIn_l (g := g) (M := M) hm hi h8 hd 3 0 (by omega) (by omega)
  rw [nI_0] at hl
  refine ww_iconst (v := 0) dX5_roadIn_0 (by decide) ?_
  refine ww_istore_n (i := 2) (lv2 := [(0, _), (1, _), (2, _)]) dX5_roadIn_1 rfl (Nat.le_of_ble_eq_true rfl) rfl ?_
  -- at 2, locals [0, 1, 2]
  exact hl
end WWC6
