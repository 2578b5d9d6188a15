/-! ===== the law's own small methods ===== -/
section WWL1
variable {g : ww_G} {M : ww_M} {c : Nat → Nat} {b n w m p t : Nat} {S : Nat → Nat → Int32} {v : Int32}
set_option maxRecDepth 20000 in
theorem l_cell (ht : t < ww_gl g) (hgl : ww_gl g ≤ 260) : ww_C g wy_L_cell 1 0 0 [.ref (ww_gb g), .int (nI t)] M (ww_ret (some (.int (ww_gx g t))) M) ww_no := by
  refine ww_ent (by decide +kernel) (Nat.le_of_ble_eq_true rfl) ⟨rfl, rfl, trivial⟩ ?_
  refine ww_iload_n (i := 1) dL_cell_0 rfl rfl ?_
  refine ww_aload_n (i := 0) dL_cell_1 rfl rfl ?_
  refine ww_slen dL_cell_2 ?_
  refine ww_icmp_ge_f (tgt := 12) dL_cell_3 (by decide) (nI_ge ht (by omega)) ?_
  refine ww_aload_n (i := 0) dL_cell_6 rfl rfl ?_
  refine ww_iload_n (i := 1) dL_cell_7 rfl rfl ?_
  refine ww_sld dL_cell_8 rfl ht (by omega) ?_
  refine ww_goto (tgt := 24) dL_cell_9 (by decide) ?_
  exact ww_ireturn dL_cell_24 rfl rfl ⟨rfl, rfl⟩
/-- the law's low: v without its sign, by k -/
def q_lw (v : Int32) (k : Nat) : Nat := (v.toBitVec.toNat &&& 2147483647) % k
theorem q_lw_lt {k : Nat} (hk : 0 < k) : q_lw v k < k := Nat.mod_lt _ hk
theorem q_divN {a k : Nat} (ha : a < 2 ^ 31) (hk0 : 0 < k) (hk : k < 2 ^ 31) : nI a / nI k = nI (a / k) := by
  have h := Nat.div_le_self a k
  rw [ww_eq, Int32.toInt_div, nI_toInt ha, nI_toInt hk, nI_toInt (by omega), ← Int.ofNat_tdiv]
  generalize a / k = q at h ⊢
  rw [Int.bmod_eq_of_le (by omega) (by omega)]
theorem q_subN {a k : Nat} (h : k ≤ a) (ha : a < 2 ^ 31) : nI a - nI k = nI (a - k) := by
  rw [ww_eq, Int32.toInt_sub, nI_toInt ha, nI_toInt (by omega), nI_toInt (by omega), Int.bmod_eq_of_le (by omega) (by omega)]
  omega
theorem q_mulN (a k : Nat) : nI a * nI k = nI (a * k) := (Int32.ofNat_mul a k).symm
theorem q_remN {a k : Nat} (ha : a < 2 ^ 31) (hk0 : 0 < k) (hk : k < 2 ^ 31) : nI a - nI a / nI k * nI k = nI (a % k) := by
  have h := Nat.div_mul_le_self a k
  rw [q_divN ha hk0 hk, q_mulN, q_subN h ha]
  congr 1
  have h2 := Nat.div_add_mod a k
  rw [Nat.mul_comm] at h2
  omega
theorem q_lw_eq {k : Nat} (hk0 : 0 < k) (hk : k < 2 ^ 31) : (v &&& 2147483647) - (v &&& 2147483647) / nI k * nI k = nI (q_lw v k) := by
  have e : v = nI v.toBitVec.toNat := by
    apply Int32.toBitVec_inj.mp
    show v.toBitVec = BitVec.ofNat 32 v.toBitVec.toNat
    rw [BitVec.ofNat_toNat, BitVec.setWidth_eq]
  have e2 : v &&& 2147483647 = nI (v.toBitVec.toNat &&& 2147483647) := by
    rw [← q_and v.toBitVec.isLt (by decide), ← e]
    rfl
  have hlt : v.toBitVec.toNat &&& 2147483647 < 2 ^ 31 := Nat.lt_of_le_of_lt Nat.and_le_right (by decide)
  rw [e2, q_remN hlt hk0 hk]
  rfl
set_option maxRecDepth 20000 in
theorem l_low {k : Nat} (hk0 : 0 < k) (hk : k < 2 ^ 31) : ww_C g wy_L_low 1 0 0 [.int v, .int (nI k)] M (ww_ret (some (.int (nI (q_lw v k)))) M) ww_no := by
  refine ww_ent (by decide +kernel) (Nat.le_of_ble_eq_true rfl) ⟨rfl, rfl, trivial⟩ ?_
  have hne : ¬ nI k = 0 := fun y => by
    rw [ww_eq, nI_toInt hk, show (0 : Int32).toInt = 0 from rfl] at y
    omega
  refine ww_iload_n (i := 0) dL_low_0 rfl rfl ?_
  refine ww_ldc (v := 2147483647) dL_low_1 wm_851 ?_
  refine ww_iand dL_low_3 ?_
  refine ww_iload_n (i := 1) dL_low_4 rfl rfl ?_
  refine ww_irem dL_low_5 hne ?_
  -- at 6, locals [0, 1]
  exact ww_ireturn dL_low_6 rfl rfl ⟨congrArg (fun z => some (Value.int z)) (q_lw_eq hk0 hk), rfl⟩
set_option maxRecDepth 20000 in
set_option maxHeartbeats 4000000 in
theorem l_room {i j : Nat} (hi : i < 5) (hj : j < 5) : ww_C g wy_L_room 1 0 0 [.int (nI i), .int (nI j)] M (ww_ret (some (.int (q_places (nI i) (nI j)))) M) ww_no := by
  refine ww_ent (by decide +kernel) (Nat.le_of_ble_eq_true rfl) ⟨rfl, rfl, trivial⟩ ?_
  have hi' : i = 0 ∨ i = 1 ∨ i = 2 ∨ i = 3 ∨ i = 4 := by omega
  have hj' : j = 0 ∨ j = 1 ∨ j = 2 ∨ j = 3 ∨ j = 4 := by omega
  rcases hi' with rfl | rfl | rfl | rfl | rfl
  · rcases hj' with rfl | rfl | rfl | rfl | rfl
    · refine ww_iload_n (i := 0) dL_room_0 rfl rfl ?_
      refine ww_iconst (v := 2) dL_room_1 (by decide) ?_
      refine ww_icmp_ge_f (tgt := 16) dL_room_2 (by decide) (by decide) ?_
      refine ww_iload_n (i := 1) dL_room_5 rfl rfl ?_
      refine ww_iload_n (i := 0) dL_room_6 rfl rfl ?_
      refine ww_iconst (v := 1) dL_room_7 (by decide) ?_
      refine ww_iadd dL_room_8 ?_
      refine ww_icmp_ne_t (tgt := 16) dL_room_9 (by decide) (by decide) ?_
      refine ww_iload_n (i := 0) dL_room_16 rfl rfl ?_
      refine ww_iconst (v := 2) dL_room_17 (by decide) ?_
      refine ww_icmp_ne_t (tgt := 30) dL_room_18 (by decide) (by decide) ?_
      refine ww_iload_n (i := 0) dL_room_30 rfl rfl ?_
      refine ww_iconst (v := 2) dL_room_31 (by decide) ?_
      refine ww_icmp_ne_t (tgt := 44) dL_room_32 (by decide) (by decide) ?_
      refine ww_iconst (v := 0) dL_room_44 (by decide) ?_
      exact ww_ireturn dL_room_45 rfl (by first | rfl | exact ww_b_nar) ⟨congrArg (fun z => some (Value.int z)) (by decide), rfl⟩
    · refine ww_iload_n (i := 0) dL_room_0 rfl rfl ?_
      refine ww_iconst (v := 2) dL_room_1 (by decide) ?_
      refine ww_icmp_ge_f (tgt := 16) dL_room_2 (by decide) (by decide) ?_
      refine ww_iload_n (i := 1) dL_room_5 rfl rfl ?_
      refine ww_iload_n (i := 0) dL_room_6 rfl rfl ?_
      refine ww_iconst (v := 1) dL_room_7 (by decide) ?_
      refine ww_iadd dL_room_8 ?_
      refine ww_icmp_ne_f (tgt := 16) dL_room_9 (by decide) (by decide) ?_
      refine ww_iconst (v := 2) dL_room_12 (by decide) ?_
      refine ww_goto (tgt := 45) dL_room_13 (by decide) ?_
      exact ww_ireturn dL_room_45 rfl (by first | rfl | exact ww_b_nar) ⟨congrArg (fun z => some (Value.int z)) (by decide), rfl⟩
    · refine ww_iload_n (i := 0) dL_room_0 rfl rfl ?_
      refine ww_iconst (v := 2) dL_room_1 (by decide) ?_
      refine ww_icmp_ge_f (tgt := 16) dL_room_2 (by decide) (by decide) ?_
      refine ww_iload_n (i := 1) dL_room_5 rfl rfl ?_
      refine ww_iload_n (i := 0) dL_room_6 rfl rfl ?_
      refine ww_iconst (v := 1) dL_room_7 (by decide) ?_
      refine ww_iadd dL_room_8 ?_
      refine ww_icmp_ne_t (tgt := 16) dL_room_9 (by decide) (by decide) ?_
      refine ww_iload_n (i := 0) dL_room_16 rfl rfl ?_
      refine ww_iconst (v := 2) dL_room_17 (by decide) ?_
      refine ww_icmp_ne_t (tgt := 30) dL_room_18 (by decide) (by decide) ?_
      refine ww_iload_n (i := 0) dL_room_30 rfl rfl ?_
      refine ww_iconst (v := 2) dL_room_31 (by decide) ?_
      refine ww_icmp_ne_t (tgt := 44) dL_room_32 (by decide) (by decide) ?_
      refine ww_iconst (v := 0) dL_room_44 (by decide) ?_
      exact ww_ireturn dL_room_45 rfl (by first | rfl | exact ww_b_nar) ⟨congrArg (fun z => some (Value.int z)) (by decide), rfl⟩
    · refine ww_iload_n (i := 0) dL_room_0 rfl rfl ?_
      refine ww_iconst (v := 2) dL_room_1 (by decide) ?_
      refine ww_icmp_ge_f (tgt := 16) dL_room_2 (by decide) (by decide) ?_
      refine ww_iload_n (i := 1) dL_room_5 rfl rfl ?_
      refine ww_iload_n (i := 0) dL_room_6 rfl rfl ?_
      refine ww_iconst (v := 1) dL_room_7 (by decide) ?_
      refine ww_iadd dL_room_8 ?_
      refine ww_icmp_ne_t (tgt := 16) dL_room_9 (by decide) (by decide) ?_
      refine ww_iload_n (i := 0) dL_room_16 rfl rfl ?_
      refine ww_iconst (v := 2) dL_room_17 (by decide) ?_
      refine ww_icmp_ne_t (tgt := 30) dL_room_18 (by decide) (by decide) ?_
      refine ww_iload_n (i := 0) dL_room_30 rfl rfl ?_
      refine ww_iconst (v := 2) dL_room_31 (by decide) ?_
      refine ww_icmp_ne_t (tgt := 44) dL_room_32 (by decide) (by decide) ?_
      refine ww_iconst (v := 0) dL_room_44 (by decide) ?_
      exact ww_ireturn dL_room_45 rfl (by first | rfl | exact ww_b_nar) ⟨congrArg (fun z => some (Value.int z)) (by decide), rfl⟩
    · refine ww_iload_n (i := 0) dL_room_0 rfl rfl ?_
      refine ww_iconst (v := 2) dL_room_1 (by decide) ?_
      refine ww_icmp_ge_f (tgt := 16) dL_room_2 (by decide) (by decide) ?_
      refine ww_iload_n (i := 1) dL_room_5 rfl rfl ?_
      refine ww_iload_n (i := 0) dL_room_6 rfl rfl ?_
      refine ww_iconst (v := 1) dL_room_7 (by decide) ?_
      refine ww_iadd dL_room_8 ?_
      refine ww_icmp_ne_t (tgt := 16) dL_room_9 (by decide) (by decide) ?_
      refine ww_iload_n (i := 0) dL_room_16 rfl rfl ?_
      refine ww_iconst (v := 2) dL_room_17 (by decide) ?_
      refine ww_icmp_ne_t (tgt := 30) dL_room_18 (by decide) (by decide) ?_
      refine ww_iload_n (i := 0) dL_room_30 rfl rfl ?_
      refine ww_iconst (v := 2) dL_room_31 (by decide) ?_
      refine ww_icmp_ne_t (tgt := 44) dL_room_32 (by decide) (by decide) ?_
      refine ww_iconst (v := 0) dL_room_44 (by decide) ?_
      exact ww_ireturn dL_room_45 rfl (by first | rfl | exact ww_b_nar) ⟨congrArg (fun z => some (Value.int z)) (by decide), rfl⟩
  · rcases hj' with rfl | rfl | rfl | rfl | rfl
    · refine ww_iload_n (i := 0) dL_room_0 rfl rfl ?_
      refine ww_iconst (v := 2) dL_room_1 (by decide) ?_
      refine ww_icmp_ge_f (tgt := 16) dL_room_2 (by decide) (by decide) ?_
      refine ww_iload_n (i := 1) dL_room_5 rfl rfl ?_
      refine ww_iload_n (i := 0) dL_room_6 rfl rfl ?_
      refine ww_iconst (v := 1) dL_room_7 (by decide) ?_
      refine ww_iadd dL_room_8 ?_
      refine ww_icmp_ne_t (tgt := 16) dL_room_9 (by decide) (by decide) ?_
      refine ww_iload_n (i := 0) dL_room_16 rfl rfl ?_
      refine ww_iconst (v := 2) dL_room_17 (by decide) ?_
      refine ww_icmp_ne_t (tgt := 30) dL_room_18 (by decide) (by decide) ?_
      refine ww_iload_n (i := 0) dL_room_30 rfl rfl ?_
      refine ww_iconst (v := 2) dL_room_31 (by decide) ?_
      refine ww_icmp_ne_t (tgt := 44) dL_room_32 (by decide) (by decide) ?_
      refine ww_iconst (v := 0) dL_room_44 (by decide) ?_
      exact ww_ireturn dL_room_45 rfl (by first | rfl | exact ww_b_nar) ⟨congrArg (fun z => some (Value.int z)) (by decide), rfl⟩
    · refine ww_iload_n (i := 0) dL_room_0 rfl rfl ?_
      refine ww_iconst (v := 2) dL_room_1 (by decide) ?_
      refine ww_icmp_ge_f (tgt := 16) dL_room_2 (by decide) (by decide) ?_
      refine ww_iload_n (i := 1) dL_room_5 rfl rfl ?_
      refine ww_iload_n (i := 0) dL_room_6 rfl rfl ?_
      refine ww_iconst (v := 1) dL_room_7 (by decide) ?_
      refine ww_iadd dL_room_8 ?_
      refine ww_icmp_ne_t (tgt := 16) dL_room_9 (by decide) (by decide) ?_
      refine ww_iload_n (i := 0) dL_room_16 rfl rfl ?_
      refine ww_iconst (v := 2) dL_room_17 (by decide) ?_
      refine ww_icmp_ne_t (tgt := 30) dL_room_18 (by decide) (by decide) ?_
      refine ww_iload_n (i := 0) dL_room_30 rfl rfl ?_
      refine ww_iconst (v := 2) dL_room_31 (by decide) ?_
      refine ww_icmp_ne_t (tgt := 44) dL_room_32 (by decide) (by decide) ?_
      refine ww_iconst (v := 0) dL_room_44 (by decide) ?_
      exact ww_ireturn dL_room_45 rfl (by first | rfl | exact ww_b_nar) ⟨congrArg (fun z => some (Value.int z)) (by decide), rfl⟩
    · refine ww_iload_n (i := 0) dL_room_0 rfl rfl ?_
      refine ww_iconst (v := 2) dL_room_1 (by decide) ?_
      refine ww_icmp_ge_f (tgt := 16) dL_room_2 (by decide) (by decide) ?_
      refine ww_iload_n (i := 1) dL_room_5 rfl rfl ?_
      refine ww_iload_n (i := 0) dL_room_6 rfl rfl ?_
      refine ww_iconst (v := 1) dL_room_7 (by decide) ?_
      refine ww_iadd dL_room_8 ?_
      refine ww_icmp_ne_f (tgt := 16) dL_room_9 (by decide) (by decide) ?_
      refine ww_iconst (v := 2) dL_room_12 (by decide) ?_
      refine ww_goto (tgt := 45) dL_room_13 (by decide) ?_
      exact ww_ireturn dL_room_45 rfl (by first | rfl | exact ww_b_nar) ⟨congrArg (fun z => some (Value.int z)) (by decide), rfl⟩
    · refine ww_iload_n (i := 0) dL_room_0 rfl rfl ?_
      refine ww_iconst (v := 2) dL_room_1 (by decide) ?_
      refine ww_icmp_ge_f (tgt := 16) dL_room_2 (by decide) (by decide) ?_
      refine ww_iload_n (i := 1) dL_room_5 rfl rfl ?_
      refine ww_iload_n (i := 0) dL_room_6 rfl rfl ?_
      refine ww_iconst (v := 1) dL_room_7 (by decide) ?_
      refine ww_iadd dL_room_8 ?_
      refine ww_icmp_ne_t (tgt := 16) dL_room_9 (by decide) (by decide) ?_
      refine ww_iload_n (i := 0) dL_room_16 rfl rfl ?_
      refine ww_iconst (v := 2) dL_room_17 (by decide) ?_
      refine ww_icmp_ne_t (tgt := 30) dL_room_18 (by decide) (by decide) ?_
      refine ww_iload_n (i := 0) dL_room_30 rfl rfl ?_
      refine ww_iconst (v := 2) dL_room_31 (by decide) ?_
      refine ww_icmp_ne_t (tgt := 44) dL_room_32 (by decide) (by decide) ?_
      refine ww_iconst (v := 0) dL_room_44 (by decide) ?_
      exact ww_ireturn dL_room_45 rfl (by first | rfl | exact ww_b_nar) ⟨congrArg (fun z => some (Value.int z)) (by decide), rfl⟩
    · refine ww_iload_n (i := 0) dL_room_0 rfl rfl ?_
      refine ww_iconst (v := 2) dL_room_1 (by decide) ?_
      refine ww_icmp_ge_f (tgt := 16) dL_room_2 (by decide) (by decide) ?_
      refine ww_iload_n (i := 1) dL_room_5 rfl rfl ?_
      refine ww_iload_n (i := 0) dL_room_6 rfl rfl ?_
      refine ww_iconst (v := 1) dL_room_7 (by decide) ?_
      refine ww_iadd dL_room_8 ?_
      refine ww_icmp_ne_t (tgt := 16) dL_room_9 (by decide) (by decide) ?_
      refine ww_iload_n (i := 0) dL_room_16 rfl rfl ?_
      refine ww_iconst (v := 2) dL_room_17 (by decide) ?_
      refine ww_icmp_ne_t (tgt := 30) dL_room_18 (by decide) (by decide) ?_
      refine ww_iload_n (i := 0) dL_room_30 rfl rfl ?_
      refine ww_iconst (v := 2) dL_room_31 (by decide) ?_
      refine ww_icmp_ne_t (tgt := 44) dL_room_32 (by decide) (by decide) ?_
      refine ww_iconst (v := 0) dL_room_44 (by decide) ?_
      exact ww_ireturn dL_room_45 rfl (by first | rfl | exact ww_b_nar) ⟨congrArg (fun z => some (Value.int z)) (by decide), rfl⟩
  · rcases hj' with rfl | rfl | rfl | rfl | rfl
    · refine ww_iload_n (i := 0) dL_room_0 rfl rfl ?_
      refine ww_iconst (v := 2) dL_room_1 (by decide) ?_
      refine ww_icmp_ge_t (tgt := 16) dL_room_2 (by decide) (by decide) ?_
      refine ww_iload_n (i := 0) dL_room_16 rfl rfl ?_
      refine ww_iconst (v := 2) dL_room_17 (by decide) ?_
      refine ww_icmp_ne_f (tgt := 30) dL_room_18 (by decide) (by decide) ?_
      refine ww_iload_n (i := 1) dL_room_21 rfl rfl ?_
      refine ww_iconst (v := 3) dL_room_22 (by decide) ?_
      refine ww_icmp_ne_t (tgt := 30) dL_room_23 (by decide) (by decide) ?_
      refine ww_iload_n (i := 0) dL_room_30 rfl rfl ?_
      refine ww_iconst (v := 2) dL_room_31 (by decide) ?_
      refine ww_icmp_ne_f (tgt := 44) dL_room_32 (by decide) (by decide) ?_
      refine ww_iload_n (i := 1) dL_room_35 rfl rfl ?_
      refine ww_iconst (v := 4) dL_room_36 (by decide) ?_
      refine ww_icmp_ne_t (tgt := 44) dL_room_37 (by decide) (by decide) ?_
      refine ww_iconst (v := 0) dL_room_44 (by decide) ?_
      exact ww_ireturn dL_room_45 rfl (by first | rfl | exact ww_b_nar) ⟨congrArg (fun z => some (Value.int z)) (by decide), rfl⟩
    · refine ww_iload_n (i := 0) dL_room_0 rfl rfl ?_
      refine ww_iconst (v := 2) dL_room_1 (by decide) ?_
      refine ww_icmp_ge_t (tgt := 16) dL_room_2 (by decide) (by decide) ?_
      refine ww_iload_n (i := 0) dL_room_16 rfl rfl ?_
      refine ww_iconst (v := 2) dL_room_17 (by decide) ?_
      refine ww_icmp_ne_f (tgt := 30) dL_room_18 (by decide) (by decide) ?_
      refine ww_iload_n (i := 1) dL_room_21 rfl rfl ?_
      refine ww_iconst (v := 3) dL_room_22 (by decide) ?_
      refine ww_icmp_ne_t (tgt := 30) dL_room_23 (by decide) (by decide) ?_
      refine ww_iload_n (i := 0) dL_room_30 rfl rfl ?_
      refine ww_iconst (v := 2) dL_room_31 (by decide) ?_
      refine ww_icmp_ne_f (tgt := 44) dL_room_32 (by decide) (by decide) ?_
      refine ww_iload_n (i := 1) dL_room_35 rfl rfl ?_
      refine ww_iconst (v := 4) dL_room_36 (by decide) ?_
      refine ww_icmp_ne_t (tgt := 44) dL_room_37 (by decide) (by decide) ?_
      refine ww_iconst (v := 0) dL_room_44 (by decide) ?_
      exact ww_ireturn dL_room_45 rfl (by first | rfl | exact ww_b_nar) ⟨congrArg (fun z => some (Value.int z)) (by decide), rfl⟩
    · refine ww_iload_n (i := 0) dL_room_0 rfl rfl ?_
      refine ww_iconst (v := 2) dL_room_1 (by decide) ?_
      refine ww_icmp_ge_t (tgt := 16) dL_room_2 (by decide) (by decide) ?_
      refine ww_iload_n (i := 0) dL_room_16 rfl rfl ?_
      refine ww_iconst (v := 2) dL_room_17 (by decide) ?_
      refine ww_icmp_ne_f (tgt := 30) dL_room_18 (by decide) (by decide) ?_
      refine ww_iload_n (i := 1) dL_room_21 rfl rfl ?_
      refine ww_iconst (v := 3) dL_room_22 (by decide) ?_
      refine ww_icmp_ne_t (tgt := 30) dL_room_23 (by decide) (by decide) ?_
      refine ww_iload_n (i := 0) dL_room_30 rfl rfl ?_
      refine ww_iconst (v := 2) dL_room_31 (by decide) ?_
      refine ww_icmp_ne_f (tgt := 44) dL_room_32 (by decide) (by decide) ?_
      refine ww_iload_n (i := 1) dL_room_35 rfl rfl ?_
      refine ww_iconst (v := 4) dL_room_36 (by decide) ?_
      refine ww_icmp_ne_t (tgt := 44) dL_room_37 (by decide) (by decide) ?_
      refine ww_iconst (v := 0) dL_room_44 (by decide) ?_
      exact ww_ireturn dL_room_45 rfl (by first | rfl | exact ww_b_nar) ⟨congrArg (fun z => some (Value.int z)) (by decide), rfl⟩
    · refine ww_iload_n (i := 0) dL_room_0 rfl rfl ?_
      refine ww_iconst (v := 2) dL_room_1 (by decide) ?_
      refine ww_icmp_ge_t (tgt := 16) dL_room_2 (by decide) (by decide) ?_
      refine ww_iload_n (i := 0) dL_room_16 rfl rfl ?_
      refine ww_iconst (v := 2) dL_room_17 (by decide) ?_
      refine ww_icmp_ne_f (tgt := 30) dL_room_18 (by decide) (by decide) ?_
      refine ww_iload_n (i := 1) dL_room_21 rfl rfl ?_
      refine ww_iconst (v := 3) dL_room_22 (by decide) ?_
      refine ww_icmp_ne_f (tgt := 30) dL_room_23 (by decide) (by decide) ?_
      refine ww_iconst (v := 2) dL_room_26 (by decide) ?_
      refine ww_goto (tgt := 45) dL_room_27 (by decide) ?_
      exact ww_ireturn dL_room_45 rfl (by first | rfl | exact ww_b_nar) ⟨congrArg (fun z => some (Value.int z)) (by decide), rfl⟩
    · refine ww_iload_n (i := 0) dL_room_0 rfl rfl ?_
      refine ww_iconst (v := 2) dL_room_1 (by decide) ?_
      refine ww_icmp_ge_t (tgt := 16) dL_room_2 (by decide) (by decide) ?_
      refine ww_iload_n (i := 0) dL_room_16 rfl rfl ?_
      refine ww_iconst (v := 2) dL_room_17 (by decide) ?_
      refine ww_icmp_ne_f (tgt := 30) dL_room_18 (by decide) (by decide) ?_
      refine ww_iload_n (i := 1) dL_room_21 rfl rfl ?_
      refine ww_iconst (v := 3) dL_room_22 (by decide) ?_
      refine ww_icmp_ne_t (tgt := 30) dL_room_23 (by decide) (by decide) ?_
      refine ww_iload_n (i := 0) dL_room_30 rfl rfl ?_
      refine ww_iconst (v := 2) dL_room_31 (by decide) ?_
      refine ww_icmp_ne_f (tgt := 44) dL_room_32 (by decide) (by decide) ?_
      refine ww_iload_n (i := 1) dL_room_35 rfl rfl ?_
      refine ww_iconst (v := 4) dL_room_36 (by decide) ?_
      refine ww_icmp_ne_f (tgt := 44) dL_room_37 (by decide) (by decide) ?_
      refine ww_iconst (v := 1) dL_room_40 (by decide) ?_
      refine ww_goto (tgt := 45) dL_room_41 (by decide) ?_
      exact ww_ireturn dL_room_45 rfl (by first | rfl | exact ww_b_nar) ⟨congrArg (fun z => some (Value.int z)) (by decide), rfl⟩
  · rcases hj' with rfl | rfl | rfl | rfl | rfl
    · refine ww_iload_n (i := 0) dL_room_0 rfl rfl ?_
      refine ww_iconst (v := 2) dL_room_1 (by decide) ?_
      refine ww_icmp_ge_t (tgt := 16) dL_room_2 (by decide) (by decide) ?_
      refine ww_iload_n (i := 0) dL_room_16 rfl rfl ?_
      refine ww_iconst (v := 2) dL_room_17 (by decide) ?_
      refine ww_icmp_ne_t (tgt := 30) dL_room_18 (by decide) (by decide) ?_
      refine ww_iload_n (i := 0) dL_room_30 rfl rfl ?_
      refine ww_iconst (v := 2) dL_room_31 (by decide) ?_
      refine ww_icmp_ne_t (tgt := 44) dL_room_32 (by decide) (by decide) ?_
      refine ww_iconst (v := 0) dL_room_44 (by decide) ?_
      exact ww_ireturn dL_room_45 rfl (by first | rfl | exact ww_b_nar) ⟨congrArg (fun z => some (Value.int z)) (by decide), rfl⟩
    · refine ww_iload_n (i := 0) dL_room_0 rfl rfl ?_
      refine ww_iconst (v := 2) dL_room_1 (by decide) ?_
      refine ww_icmp_ge_t (tgt := 16) dL_room_2 (by decide) (by decide) ?_
      refine ww_iload_n (i := 0) dL_room_16 rfl rfl ?_
      refine ww_iconst (v := 2) dL_room_17 (by decide) ?_
      refine ww_icmp_ne_t (tgt := 30) dL_room_18 (by decide) (by decide) ?_
      refine ww_iload_n (i := 0) dL_room_30 rfl rfl ?_
      refine ww_iconst (v := 2) dL_room_31 (by decide) ?_
      refine ww_icmp_ne_t (tgt := 44) dL_room_32 (by decide) (by decide) ?_
      refine ww_iconst (v := 0) dL_room_44 (by decide) ?_
      exact ww_ireturn dL_room_45 rfl (by first | rfl | exact ww_b_nar) ⟨congrArg (fun z => some (Value.int z)) (by decide), rfl⟩
    · refine ww_iload_n (i := 0) dL_room_0 rfl rfl ?_
      refine ww_iconst (v := 2) dL_room_1 (by decide) ?_
      refine ww_icmp_ge_t (tgt := 16) dL_room_2 (by decide) (by decide) ?_
      refine ww_iload_n (i := 0) dL_room_16 rfl rfl ?_
      refine ww_iconst (v := 2) dL_room_17 (by decide) ?_
      refine ww_icmp_ne_t (tgt := 30) dL_room_18 (by decide) (by decide) ?_
      refine ww_iload_n (i := 0) dL_room_30 rfl rfl ?_
      refine ww_iconst (v := 2) dL_room_31 (by decide) ?_
      refine ww_icmp_ne_t (tgt := 44) dL_room_32 (by decide) (by decide) ?_
      refine ww_iconst (v := 0) dL_room_44 (by decide) ?_
      exact ww_ireturn dL_room_45 rfl (by first | rfl | exact ww_b_nar) ⟨congrArg (fun z => some (Value.int z)) (by decide), rfl⟩
    · refine ww_iload_n (i := 0) dL_room_0 rfl rfl ?_
      refine ww_iconst (v := 2) dL_room_1 (by decide) ?_
      refine ww_icmp_ge_t (tgt := 16) dL_room_2 (by decide) (by decide) ?_
      refine ww_iload_n (i := 0) dL_room_16 rfl rfl ?_
      refine ww_iconst (v := 2) dL_room_17 (by decide) ?_
      refine ww_icmp_ne_t (tgt := 30) dL_room_18 (by decide) (by decide) ?_
      refine ww_iload_n (i := 0) dL_room_30 rfl rfl ?_
      refine ww_iconst (v := 2) dL_room_31 (by decide) ?_
      refine ww_icmp_ne_t (tgt := 44) dL_room_32 (by decide) (by decide) ?_
      refine ww_iconst (v := 0) dL_room_44 (by decide) ?_
      exact ww_ireturn dL_room_45 rfl (by first | rfl | exact ww_b_nar) ⟨congrArg (fun z => some (Value.int z)) (by decide), rfl⟩
    · refine ww_iload_n (i := 0) dL_room_0 rfl rfl ?_
      refine ww_iconst (v := 2) dL_room_1 (by decide) ?_
      refine ww_icmp_ge_t (tgt := 16) dL_room_2 (by decide) (by decide) ?_
      refine ww_iload_n (i := 0) dL_room_16 rfl rfl ?_
      refine ww_iconst (v := 2) dL_room_17 (by decide) ?_
      refine ww_icmp_ne_t (tgt := 30) dL_room_18 (by decide) (by decide) ?_
      refine ww_iload_n (i := 0) dL_room_30 rfl rfl ?_
      refine ww_iconst (v := 2) dL_room_31 (by decide) ?_
      refine ww_icmp_ne_t (tgt := 44) dL_room_32 (by decide) (by decide) ?_
      refine ww_iconst (v := 0) dL_room_44 (by decide) ?_
      exact ww_ireturn dL_room_45 rfl (by first | rfl | exact ww_b_nar) ⟨congrArg (fun z => some (Value.int z)) (by decide), rfl⟩
  · rcases hj' with rfl | rfl | rfl | rfl | rfl
    · refine ww_iload_n (i := 0) dL_room_0 rfl rfl ?_
      refine ww_iconst (v := 2) dL_room_1 (by decide) ?_
      refine ww_icmp_ge_t (tgt := 16) dL_room_2 (by decide) (by decide) ?_
      refine ww_iload_n (i := 0) dL_room_16 rfl rfl ?_
      refine ww_iconst (v := 2) dL_room_17 (by decide) ?_
      refine ww_icmp_ne_t (tgt := 30) dL_room_18 (by decide) (by decide) ?_
      refine ww_iload_n (i := 0) dL_room_30 rfl rfl ?_
      refine ww_iconst (v := 2) dL_room_31 (by decide) ?_
      refine ww_icmp_ne_t (tgt := 44) dL_room_32 (by decide) (by decide) ?_
      refine ww_iconst (v := 0) dL_room_44 (by decide) ?_
      exact ww_ireturn dL_room_45 rfl (by first | rfl | exact ww_b_nar) ⟨congrArg (fun z => some (Value.int z)) (by decide), rfl⟩
    · refine ww_iload_n (i := 0) dL_room_0 rfl rfl ?_
      refine ww_iconst (v := 2) dL_room_1 (by decide) ?_
      refine ww_icmp_ge_t (tgt := 16) dL_room_2 (by decide) (by decide) ?_
      refine ww_iload_n (i := 0) dL_room_16 rfl rfl ?_
      refine ww_iconst (v := 2) dL_room_17 (by decide) ?_
      refine ww_icmp_ne_t (tgt := 30) dL_room_18 (by decide) (by decide) ?_
      refine ww_iload_n (i := 0) dL_room_30 rfl rfl ?_
      refine ww_iconst (v := 2) dL_room_31 (by decide) ?_
      refine ww_icmp_ne_t (tgt := 44) dL_room_32 (by decide) (by decide) ?_
      refine ww_iconst (v := 0) dL_room_44 (by decide) ?_
      exact ww_ireturn dL_room_45 rfl (by first | rfl | exact ww_b_nar) ⟨congrArg (fun z => some (Value.int z)) (by decide), rfl⟩
    · refine ww_iload_n (i := 0) dL_room_0 rfl rfl ?_
      refine ww_iconst (v := 2) dL_room_1 (by decide) ?_
      refine ww_icmp_ge_t (tgt := 16) dL_room_2 (by decide) (by decide) ?_
      refine ww_iload_n (i := 0) dL_room_16 rfl rfl ?_
      refine ww_iconst (v := 2) dL_room_17 (by decide) ?_
      refine ww_icmp_ne_t (tgt := 30) dL_room_18 (by decide) (by decide) ?_
      refine ww_iload_n (i := 0) dL_room_30 rfl rfl ?_
      refine ww_iconst (v := 2) dL_room_31 (by decide) ?_
      refine ww_icmp_ne_t (tgt := 44) dL_room_32 (by decide) (by decide) ?_
      refine ww_iconst (v := 0) dL_room_44 (by decide) ?_
      exact ww_ireturn dL_room_45 rfl (by first | rfl | exact ww_b_nar) ⟨congrArg (fun z => some (Value.int z)) (by decide), rfl⟩
    · refine ww_iload_n (i := 0) dL_room_0 rfl rfl ?_
      refine ww_iconst (v := 2) dL_room_1 (by decide) ?_
      refine ww_icmp_ge_t (tgt := 16) dL_room_2 (by decide) (by decide) ?_
      refine ww_iload_n (i := 0) dL_room_16 rfl rfl ?_
      refine ww_iconst (v := 2) dL_room_17 (by decide) ?_
      refine ww_icmp_ne_t (tgt := 30) dL_room_18 (by decide) (by decide) ?_
      refine ww_iload_n (i := 0) dL_room_30 rfl rfl ?_
      refine ww_iconst (v := 2) dL_room_31 (by decide) ?_
      refine ww_icmp_ne_t (tgt := 44) dL_room_32 (by decide) (by decide) ?_
      refine ww_iconst (v := 0) dL_room_44 (by decide) ?_
      exact ww_ireturn dL_room_45 rfl (by first | rfl | exact ww_b_nar) ⟨congrArg (fun z => some (Value.int z)) (by decide), rfl⟩
    · refine ww_iload_n (i := 0) dL_room_0 rfl rfl ?_
      refine ww_iconst (v := 2) dL_room_1 (by decide) ?_
      refine ww_icmp_ge_t (tgt := 16) dL_room_2 (by decide) (by decide) ?_
      refine ww_iload_n (i := 0) dL_room_16 rfl rfl ?_
      refine ww_iconst (v := 2) dL_room_17 (by decide) ?_
      refine ww_icmp_ne_t (tgt := 30) dL_room_18 (by decide) (by decide) ?_
      refine ww_iload_n (i := 0) dL_room_30 rfl rfl ?_
      refine ww_iconst (v := 2) dL_room_31 (by decide) ?_
      refine ww_icmp_ne_t (tgt := 44) dL_room_32 (by decide) (by decide) ?_
      refine ww_iconst (v := 0) dL_room_44 (by decide) ?_
      exact ww_ireturn dL_room_45 rfl (by first | rfl | exact ww_b_nar) ⟨congrArg (fun z => some (Value.int z)) (by decide), rfl⟩
/-! how many of a kind are in a host -/
set_option maxRecDepth 20000 in
set_option maxHeartbeats 4000000 in
theorem l_inside_l (h : ww_mx g c b 23 w m S M) (hv kv : Int32) : ∀ r i, i + r = 23 → ww_A g wy_L_inside 6 0 0 M 5 [(0, .ref (c 0)), (1, .int hv), (2, .int kv), (3, .int (nI (q_inK S i hv kv))), (4, .int (nI i))] [] (ww_ret (some (.int (nI (q_inK S 23 hv kv)))) M) ww_no
  | 0, i, hm => by
    have e0 : i = 23 := by omega
    subst e0
    refine ww_iload (i := 4) dL_inside_5 rfl ?_
    refine ww_bipush (v := 23) dL_inside_7 (by decide) ?_
    refine ww_icmp_ge_t (tgt := 47) dL_inside_9 (by decide) (by decide) ?_
    refine ww_iload_n (i := 3) dL_inside_47 rfl rfl ?_
    exact ww_ireturn dL_inside_48 rfl (by first | rfl | exact ww_b_nar) ⟨rfl, rfl⟩
  | r + 1, i, hm => by
    have hx := x_is h
    have hi : i < 23 := by omega
    have ih := l_inside_l h hv kv r (i + 1) (by omega)
    have e23 : ¬ (23 : Int32) ≤ nI i := nI_ge (b := 23) hi (by decide)
    by_cases c1 : S 5 i = hv
    · by_cases c2 : S 2 i = kv
      · rw [show q_inK S (i + 1) hv kv = q_inK S i hv kv + 1 from q_cnt_s (P := fun p => S 5 p = hv ∧ S 2 p = kv) ⟨c1, c2⟩] at ih
        refine ww_iload (i := 4) dL_inside_5 rfl ?_
        refine ww_bipush (v := 23) dL_inside_7 (by decide) ?_
        refine ww_icmp_ge_f (tgt := 47) dL_inside_9 (by decide) e23 ?_
        refine ww_iload_n (i := 3) dL_inside_12 rfl rfl ?_
        refine ww_aload_n (i := 0) dL_inside_13 rfl rfl ?_
        refine ww_iload (i := 4) dL_inside_14 rfl ?_
        refine ww_callV (κ := 7) (r := (RX6, TX6, 4)) wk_L_18 dL_inside_16 (x_host h hi) rfl rfl (show ww_is _ _ 7 from hx).1 (show ww_is _ _ 7 from hx).2 rfl rfl (by omega) (by omega) (by omega) (by first | exact Nat.le_of_ble_eq_true rfl | (simp [ww_rf_cat, Value.category])) rfl (fun E M9 h9 => h9.elim) (fun v9 M9 h9 => ?_)
        obtain ⟨rfl, rfl⟩ := h9
        refine ww_iload_n (i := 1) dL_inside_19 rfl rfl ?_
        refine ww_icmp_ne_f (tgt := 38) dL_inside_20 (by decide) c1 ?_
        refine ww_aload_n (i := 0) dL_inside_23 rfl rfl ?_
        refine ww_iload (i := 4) dL_inside_24 rfl ?_
        refine ww_iconst (v := 0) dL_inside_26 (by decide) ?_
        refine ww_callV (κ := 7) (r := (RX6, TX6, 4)) wk_L_22 dL_inside_27 (x_of0 h hi) rfl rfl (show ww_is _ _ 7 from hx).1 (show ww_is _ _ 7 from hx).2 rfl rfl (by omega) (by omega) (by omega) (by first | exact Nat.le_of_ble_eq_true rfl | (simp [ww_rf_cat, Value.category])) rfl (fun E M9 h9 => h9.elim) (fun v9 M9 h9 => ?_)
        obtain ⟨rfl, rfl⟩ := h9
        refine ww_iload_n (i := 2) dL_inside_30 rfl rfl ?_
        refine ww_icmp_ne_f (tgt := 38) dL_inside_31 (by decide) c2 ?_
        refine ww_iconst (v := 1) dL_inside_34 (by decide) ?_
        refine ww_goto (tgt := 39) dL_inside_35 (by decide) ?_
        refine ww_iadd dL_inside_39 ?_
        -- at 40, locals [0, 1, 2, 3, 4]
        rw [nI_1]
        refine ww_istore_n (i := 3) (lv2 := [(0, _), (1, _), (2, _), (3, _), (4, _)]) dL_inside_40 rfl (Nat.le_of_ble_eq_true rfl) rfl ?_
        refine ww_iinc (i := 4) (v := _ + 1) (lv2 := [(0, _), (1, _), (2, _), (3, _), (4, _)]) dL_inside_41 rfl (by rfl) (Nat.le_of_ble_eq_true rfl) rfl ?_
        -- at 44, locals [0, 1, 2, 3, 4]
        refine ww_goto (tgt := 5) dL_inside_44 (by decide) ?_
        -- at 5, locals [0, 1, 2, 3, 4]
        rw [nI_1 i]
        exact ih
      · rw [show q_inK S (i + 1) hv kv = q_inK S i hv kv from q_cnt_n (P := fun p => S 5 p = hv ∧ S 2 p = kv) (fun y => c2 y.2)] at ih
        refine ww_iload (i := 4) dL_inside_5 rfl ?_
        refine ww_bipush (v := 23) dL_inside_7 (by decide) ?_
        refine ww_icmp_ge_f (tgt := 47) dL_inside_9 (by decide) e23 ?_
        refine ww_iload_n (i := 3) dL_inside_12 rfl rfl ?_
        refine ww_aload_n (i := 0) dL_inside_13 rfl rfl ?_
        refine ww_iload (i := 4) dL_inside_14 rfl ?_
        refine ww_callV (κ := 7) (r := (RX6, TX6, 4)) wk_L_18 dL_inside_16 (x_host h hi) rfl rfl (show ww_is _ _ 7 from hx).1 (show ww_is _ _ 7 from hx).2 rfl rfl (by omega) (by omega) (by omega) (by first | exact Nat.le_of_ble_eq_true rfl | (simp [ww_rf_cat, Value.category])) rfl (fun E M9 h9 => h9.elim) (fun v9 M9 h9 => ?_)
        obtain ⟨rfl, rfl⟩ := h9
        refine ww_iload_n (i := 1) dL_inside_19 rfl rfl ?_
        refine ww_icmp_ne_f (tgt := 38) dL_inside_20 (by decide) c1 ?_
        refine ww_aload_n (i := 0) dL_inside_23 rfl rfl ?_
        refine ww_iload (i := 4) dL_inside_24 rfl ?_
        refine ww_iconst (v := 0) dL_inside_26 (by decide) ?_
        refine ww_callV (κ := 7) (r := (RX6, TX6, 4)) wk_L_22 dL_inside_27 (x_of0 h hi) rfl rfl (show ww_is _ _ 7 from hx).1 (show ww_is _ _ 7 from hx).2 rfl rfl (by omega) (by omega) (by omega) (by first | exact Nat.le_of_ble_eq_true rfl | (simp [ww_rf_cat, Value.category])) rfl (fun E M9 h9 => h9.elim) (fun v9 M9 h9 => ?_)
        obtain ⟨rfl, rfl⟩ := h9
        refine ww_iload_n (i := 2) dL_inside_30 rfl rfl ?_
        refine ww_icmp_ne_t (tgt := 38) dL_inside_31 (by decide) c2 ?_
        refine ww_iconst (v := 0) dL_inside_38 (by decide) ?_
        refine ww_iadd dL_inside_39 ?_
        -- at 40, locals [0, 1, 2, 3, 4]
        rw [show nI (q_inK S i hv kv) + 0 = nI (q_inK S i hv kv) from nI_add _ 0]
        refine ww_istore_n (i := 3) (lv2 := [(0, _), (1, _), (2, _), (3, _), (4, _)]) dL_inside_40 rfl (Nat.le_of_ble_eq_true rfl) rfl ?_
        refine ww_iinc (i := 4) (v := _ + 1) (lv2 := [(0, _), (1, _), (2, _), (3, _), (4, _)]) dL_inside_41 rfl (by rfl) (Nat.le_of_ble_eq_true rfl) rfl ?_
        -- at 44, locals [0, 1, 2, 3, 4]
        refine ww_goto (tgt := 5) dL_inside_44 (by decide) ?_
        -- at 5, locals [0, 1, 2, 3, 4]
        rw [nI_1 i]
        exact ih
    · rw [show q_inK S (i + 1) hv kv = q_inK S i hv kv from q_cnt_n (P := fun p => S 5 p = hv ∧ S 2 p = kv) (fun y => c1 y.1)] at ih
      refine ww_iload (i := 4) dL_inside_5 rfl ?_
      refine ww_bipush (v := 23) dL_inside_7 (by decide) ?_
      refine ww_icmp_ge_f (tgt := 47) dL_inside_9 (by decide) e23 ?_
      refine ww_iload_n (i := 3) dL_inside_12 rfl rfl ?_
      refine ww_aload_n (i := 0) dL_inside_13 rfl rfl ?_
      refine ww_iload (i := 4) dL_inside_14 rfl ?_
      refine ww_callV (κ := 7) (r := (RX6, TX6, 4)) wk_L_18 dL_inside_16 (x_host h hi) rfl rfl (show ww_is _ _ 7 from hx).1 (show ww_is _ _ 7 from hx).2 rfl rfl (by omega) (by omega) (by omega) (by first | exact Nat.le_of_ble_eq_true rfl | (simp [ww_rf_cat, Value.category])) rfl (fun E M9 h9 => h9.elim) (fun v9 M9 h9 => ?_)
      obtain ⟨rfl, rfl⟩ := h9
      refine ww_iload_n (i := 1) dL_inside_19 rfl rfl ?_
      refine ww_icmp_ne_t (tgt := 38) dL_inside_20 (by decide) c1 ?_
      refine ww_iconst (v := 0) dL_inside_38 (by decide) ?_
      refine ww_iadd dL_inside_39 ?_
      -- at 40, locals [0, 1, 2, 3, 4]
      rw [show nI (q_inK S i hv kv) + 0 = nI (q_inK S i hv kv) from nI_add _ 0]
      refine ww_istore_n (i := 3) (lv2 := [(0, _), (1, _), (2, _), (3, _), (4, _)]) dL_inside_40 rfl (Nat.le_of_ble_eq_true rfl) rfl ?_
      refine ww_iinc (i := 4) (v := _ + 1) (lv2 := [(0, _), (1, _), (2, _), (3, _), (4, _)]) dL_inside_41 rfl (by rfl) (Nat.le_of_ble_eq_true rfl) rfl ?_
      -- at 44, locals [0, 1, 2, 3, 4]
      refine ww_goto (tgt := 5) dL_inside_44 (by decide) ?_
      -- at 5, locals [0, 1, 2, 3, 4]
      rw [nI_1 i]
      exact ih
set_option maxRecDepth 20000 in
theorem l_inside (h : ww_mx g c b 23 w m S M) (hv kv : Int32) : ww_C g wy_L_inside 6 0 0 [.ref (c 0), .int hv, .int kv] M (ww_ret (some (.int (nI (q_inK S 23 hv kv)))) M) ww_no := by
  refine ww_ent (by decide +kernel) (Nat.le_of_ble_eq_true rfl) ⟨rfl, rfl, rfl, trivial⟩ ?_
  have ih := l_inside_l h hv kv 23 0 (by decide)
  rw [show q_inK S 0 hv kv = 0 from rfl, nI_0] at ih
  refine ww_iconst (v := 0) dL_inside_0 (by decide) ?_
  refine ww_istore_n (i := 3) (lv2 := [(0, _), (1, _), (2, _), (3, _)]) dL_inside_1 rfl (Nat.le_of_ble_eq_true rfl) rfl ?_
  refine ww_iconst (v := 0) dL_inside_2 (by decide) ?_
  refine ww_istore (i := 4) (lv2 := [(0, _), (1, _), (2, _), (3, _), (4, _)]) dL_inside_3 (Nat.le_of_ble_eq_true rfl) rfl ?_
  -- at 5, locals [0, 1, 2, 3, 4]
  exact ih
/-! does a train stand on a road -/
def q_rv (S : Nat → Nat → Int32) (r k : Nat) : Int32 := if k < q_rn S r then S 32 (4 * r + k) else -1
def q_on1 (S : Nat → Nat → Int32) (v : Int32) (j : Nat) : Prop := q_rv S (j / 4) (j % 4) = v
theorem q_on1_at {r k : Nat} (hk : k < 4) : q_on1 S v (4 * r + k) ↔ q_rv S r k = v := by
  unfold q_on1
  rw [show (4 * r + k) / 4 = r by omega, show (4 * r + k) % 4 = k by omega]
set_option maxRecDepth 20000 in
set_option maxHeartbeats 4000000 in
theorem l_stands_i (h : ww_mx g c b n w m S M) {r : Nat} (hr : r < 3) {Q : Option Value → ww_M → Prop} (kk : ww_A g wy_L_stands 6 0 0 M 45 [(0, .ref (c 0)), (1, .int v), (2, .int (ww_b (q_any (q_on1 S v) (4 * r + 4)))), (3, .int (nI r)), (4, .int 4)] [] Q ww_no) : ∀ d k, k + d = 4 → ww_A g wy_L_stands 6 0 0 M 12 [(0, .ref (c 0)), (1, .int v), (2, .int (ww_b (q_any (q_on1 S v) (4 * r + k)))), (3, .int (nI r)), (4, .int (nI k))] [] Q ww_no
  | 0, k, hk => by
    have e0 : k = 4 := by omega
    subst e0
    refine ww_iload (i := 4) dL_stands_12 rfl ?_
    refine ww_iconst (v := 4) dL_stands_14 (by decide) ?_
    refine ww_icmp_ge_t (tgt := 45) dL_stands_15 (by decide) (by decide) ?_
    -- at 45, locals [0, 1, 2, 3, 4]
    exact kk
  | d + 1, k, hk => by
    have hx := x_is h
    have ih := l_stands_i h hr kk d (k + 1) (by omega)
    have e4 : ¬ (4 : Int32) ≤ nI k := nI_ge (b := 4) (by omega) (by decide)
    have eq := q_on1_at (S := S) (v := v) (r := r) (k := k) (by omega)
    rw [show 4 * r + (k + 1) = 4 * r + k + 1 by omega] at ih
    by_cases c1 : q_any (q_on1 S v) (4 * r + k)
    · rw [ww_b_t (q_any_s.mpr (Or.inl c1))] at ih
      rw [ww_b_t c1]
      refine ww_iload (i := 4) dL_stands_12 rfl ?_
      refine ww_iconst (v := 4) dL_stands_14 (by decide) ?_
      refine ww_icmp_ge_f (tgt := 45) dL_stands_15 (by decide) e4 ?_
      refine ww_iload_n (i := 2) dL_stands_18 rfl rfl ?_
      refine ww_if_ne_t (tgt := 33) dL_stands_19 (by decide) (by decide) ?_
      refine ww_iconst (v := 1) dL_stands_33 (by decide) ?_
      refine ww_goto (tgt := 38) dL_stands_34 (by decide) ?_
      refine ww_istore_n (i := 2) (lv2 := [(0, _), (1, _), (2, _), (3, _), (4, _)]) dL_stands_38 rfl (Nat.le_of_ble_eq_true rfl) rfl ?_
      refine ww_iinc (i := 4) (v := _ + 1) (lv2 := [(0, _), (1, _), (2, _), (3, _), (4, _)]) dL_stands_39 rfl (by rfl) (Nat.le_of_ble_eq_true rfl) rfl ?_
      -- at 42, locals [0, 1, 2, 3, 4]
      refine ww_goto (tgt := 12) dL_stands_42 (by decide) ?_
      -- at 12, locals [0, 1, 2, 3, 4]
      rw [nI_1 k]
      exact ih
    · rw [ww_b_f c1]
      by_cases c2 : q_rv S r k = v
      · rw [ww_b_t (q_any_s.mpr (Or.inr (eq.mpr c2)))] at ih
        refine ww_iload (i := 4) dL_stands_12 rfl ?_
        refine ww_iconst (v := 4) dL_stands_14 (by decide) ?_
        refine ww_icmp_ge_f (tgt := 45) dL_stands_15 (by decide) e4 ?_
        refine ww_iload_n (i := 2) dL_stands_18 rfl rfl ?_
        refine ww_if_ne_f (tgt := 33) dL_stands_19 (by decide) (by decide) ?_
        refine ww_aload_n (i := 0) dL_stands_22 rfl rfl ?_
        refine ww_iload_n (i := 3) dL_stands_23 rfl rfl ?_
        refine ww_iload (i := 4) dL_stands_24 rfl ?_
        refine ww_callV (κ := 7) (r := (RX6, TX6, 4)) wk_L_25 dL_stands_26 (x_road h hr (k := k) (by omega)) rfl rfl (show ww_is _ _ 7 from hx).1 (show ww_is _ _ 7 from hx).2 rfl rfl (by omega) (by omega) (by omega) (by first | exact Nat.le_of_ble_eq_true rfl | (simp [ww_rf_cat, Value.category])) rfl (fun E M9 h9 => h9.elim) (fun v9 M9 h9 => ?_)
        obtain ⟨rfl, rfl⟩ := h9
        refine ww_iload_n (i := 1) dL_stands_29 rfl rfl ?_
        refine ww_icmp_ne_f (tgt := 37) dL_stands_30 (by decide) c2 ?_
        refine ww_iconst (v := 1) dL_stands_33 (by decide) ?_
        refine ww_goto (tgt := 38) dL_stands_34 (by decide) ?_
        refine ww_istore_n (i := 2) (lv2 := [(0, _), (1, _), (2, _), (3, _), (4, _)]) dL_stands_38 rfl (Nat.le_of_ble_eq_true rfl) rfl ?_
        refine ww_iinc (i := 4) (v := _ + 1) (lv2 := [(0, _), (1, _), (2, _), (3, _), (4, _)]) dL_stands_39 rfl (by rfl) (Nat.le_of_ble_eq_true rfl) rfl ?_
        -- at 42, locals [0, 1, 2, 3, 4]
        refine ww_goto (tgt := 12) dL_stands_42 (by decide) ?_
        -- at 12, locals [0, 1, 2, 3, 4]
        rw [nI_1 k]
        exact ih
      · rw [ww_b_f (fun y => (q_any_s.mp y).elim c1 (fun z => c2 (eq.mp z)))] at ih
        refine ww_iload (i := 4) dL_stands_12 rfl ?_
        refine ww_iconst (v := 4) dL_stands_14 (by decide) ?_
        refine ww_icmp_ge_f (tgt := 45) dL_stands_15 (by decide) e4 ?_
        refine ww_iload_n (i := 2) dL_stands_18 rfl rfl ?_
        refine ww_if_ne_f (tgt := 33) dL_stands_19 (by decide) (by decide) ?_
        refine ww_aload_n (i := 0) dL_stands_22 rfl rfl ?_
        refine ww_iload_n (i := 3) dL_stands_23 rfl rfl ?_
        refine ww_iload (i := 4) dL_stands_24 rfl ?_
        refine ww_callV (κ := 7) (r := (RX6, TX6, 4)) wk_L_25 dL_stands_26 (x_road h hr (k := k) (by omega)) rfl rfl (show ww_is _ _ 7 from hx).1 (show ww_is _ _ 7 from hx).2 rfl rfl (by omega) (by omega) (by omega) (by first | exact Nat.le_of_ble_eq_true rfl | (simp [ww_rf_cat, Value.category])) rfl (fun E M9 h9 => h9.elim) (fun v9 M9 h9 => ?_)
        obtain ⟨rfl, rfl⟩ := h9
        refine ww_iload_n (i := 1) dL_stands_29 rfl rfl ?_
        refine ww_icmp_ne_t (tgt := 37) dL_stands_30 (by decide) c2 ?_
        refine ww_iconst (v := 0) dL_stands_37 (by decide) ?_
        refine ww_istore_n (i := 2) (lv2 := [(0, _), (1, _), (2, _), (3, _), (4, _)]) dL_stands_38 rfl (Nat.le_of_ble_eq_true rfl) rfl ?_
        refine ww_iinc (i := 4) (v := _ + 1) (lv2 := [(0, _), (1, _), (2, _), (3, _), (4, _)]) dL_stands_39 rfl (by rfl) (Nat.le_of_ble_eq_true rfl) rfl ?_
        -- at 42, locals [0, 1, 2, 3, 4]
        refine ww_goto (tgt := 12) dL_stands_42 (by decide) ?_
        -- at 12, locals [0, 1, 2, 3, 4]
        rw [nI_1 k]
        exact ih
set_option maxRecDepth 20000 in
set_option maxHeartbeats 4000000 in
theorem l_stands_o (h : ww_mx g c b n w m S M) : ∀ d r, r + d = 3 → ww_A g wy_L_stands 6 0 0 M 4 [(0, .ref (c 0)), (1, .int v), (2, .int (ww_b (q_any (q_on1 S v) (4 * r)))), (3, .int (nI r))] [] (ww_ret (some (.int (ww_b (q_any (q_on1 S v) 12)))) M) ww_no
  | 0, r, hr => by
    have e0 : r = 3 := by omega
    subst e0
    refine ww_iload_n (i := 3) dL_stands_4 rfl rfl ?_
    refine ww_iconst (v := 3) dL_stands_5 (by decide) ?_
    refine ww_icmp_ge_t (tgt := 51) dL_stands_6 (by decide) (by decide) ?_
    refine ww_iload_n (i := 2) dL_stands_51 rfl rfl ?_
    exact ww_ireturn dL_stands_52 rfl (by first | rfl | exact ww_b_nar) ⟨rfl, rfl⟩
  | d + 1, r, hr => by
    have ih := l_stands_o h d (r + 1) (by omega)
    have e3 : ¬ (3 : Int32) ≤ nI r := nI_ge (b := 3) (by omega) (by decide)
    rw [show 4 * (r + 1) = 4 * r + 4 by omega] at ih
    refine ww_iload_n (i := 3) dL_stands_4 rfl rfl ?_
    refine ww_iconst (v := 3) dL_stands_5 (by decide) ?_
    refine ww_icmp_ge_f (tgt := 51) dL_stands_6 (by decide) e3 ?_
    refine ww_iconst (v := 0) dL_stands_9 (by decide) ?_
    refine ww_istore (i := 4) (lv2 := [(0, _), (1, _), (2, _), (3, _), (4, _)]) dL_stands_10 (Nat.le_of_ble_eq_true rfl) rfl ?_
    -- at 12, locals [0, 1, 2, 3, 4]
    refine l_stands_i h (by omega) ?_ 4 0 (by decide)
    refine ww_iinc (i := 3) (v := _ + 1) (lv2 := [(0, _), (1, _), (2, _), (3, _), (4, _)]) dL_stands_45 rfl (by rfl) (Nat.le_of_ble_eq_true rfl) rfl ?_
    -- at 48, locals [0, 1, 2, 3, 4]
    refine ww_goto (tgt := 4) dL_stands_48 (by decide) ?_
    -- at 4, locals [0, 1, 2, 3, 4]
    rw [nI_1 r]
    exact ww_subk ih ⟨rfl, rfl, rfl, rfl, trivial⟩
theorem q_stand (h : ww_mx g c b n w m S M) (ht : t < n) : q_any (q_on1 S (nI t)) 12 ↔ S 12 t = 1 := by
  obtain ⟨ea, P, W, kl, f, z, D, E, u, hr, H⟩ := h
  obtain ⟨hA, hB, ⟨⟨r0, r1⟩, r2, r3, r4, r5, r6, r7⟩, _⟩ := H
  have h60 := hA.2.1
  constructor
  · rintro ⟨j, hj, e⟩
    unfold q_on1 q_rv at e
    generalize hr' : j / 4 = r at e
    generalize hk' : j % 4 = k at e
    have hr3 : r < 3 := by omega
    by_cases c1 : k < q_rn S r
    · rw [if_pos c1] at e
      obtain ⟨a1, a2⟩ := (r1 r hr3).2.2 k c1
      rw [a2] at e
      have e := (nI_eq (by omega) (by omega)).mp e
      rw [r6 r hr3] at c1
      obtain ⟨i, hi, e1, e2⟩ := q_cnt_at c1
      have h7 := r7 i hi
      rw [e1, e2, e] at h7
      rw [h7]
      exact (r2 i hi).2.2
    · rw [if_neg c1] at e
      rw [ww_eq, nI_toInt (by omega), show (-1 : Int32).toInt = -1 from rfl] at e
      omega
  · intro e
    obtain ⟨i, hi, e1⟩ := r5 t ht e
    have hd := (r2 i hi).2.1
    have h7 := r7 i hi
    have hlt := q_cnt_lt2 (P := fun j => D j = D i) hi rfl
    rw [← r6 (D i) hd] at hlt
    have h4 := (r1 (D i) hd).1
    refine ⟨4 * D i + q_cnt (fun j => D j = D i) i, by omega, (q_on1_at (by omega)).mpr ?_⟩
    unfold q_rv
    rw [if_pos hlt, ((r1 (D i) hd).2.2 _ hlt).2, h7, e1]
set_option maxRecDepth 20000 in
theorem l_stands (h : ww_mx g c b n w m S M) (ht : t < n) : ww_C g wy_L_stands 6 0 0 [.ref (c 0), .int (nI t)] M (ww_ret (some (.int (S 12 t))) M) ww_no := by
  refine ww_ent (by decide +kernel) (Nat.le_of_ble_eq_true rfl) ⟨rfl, rfl, trivial⟩ ?_
  have ih := l_stands_o (v := nI t) h 3 0 (by decide)
  have e : ww_b (q_any (q_on1 S (nI t)) 12) = S 12 t := by
    rw [ww_b_cg (q_stand h ht)]
    rcases (x_G h).2.2.2.2.2.2.1 t with e | e
    · rw [e]; exact ww_b_f (by decide)
    · rw [e]; exact ww_b_t rfl
  rw [e, ww_b_f q_any_0] at ih
  refine ww_iconst (v := 0) dL_stands_0 (by decide) ?_
  refine ww_istore_n (i := 2) (lv2 := [(0, _), (1, _), (2, _)]) dL_stands_1 rfl (Nat.le_of_ble_eq_true rfl) rfl ?_
  refine ww_iconst (v := 0) dL_stands_2 (by decide) ?_
  refine ww_istore_n (i := 3) (lv2 := [(0, _), (1, _), (2, _), (3, _)]) dL_stands_3 rfl (Nat.le_of_ble_eq_true rfl) rfl ?_
  -- at 4, locals [0, 1, 2, 3]
  exact ih
end WWL1
