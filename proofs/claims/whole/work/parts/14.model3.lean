section WWN
variable {g : ww_G} {M : ww_M} {x : Nat} {ar : Nat → Nat} {n w : Nat}
theorem q_lo_t {S : Nat → Nat → Int32} {h : Int32} {i : Nat} (z : q_isw S h i ∧ S 13 i < q_lo S h i) : q_lo S h (i + 1) = S 13 i := q_if_t z
theorem q_lo_f {S : Nat → Nat → Int32} {h : Int32} {i : Nat} (z : ¬ (q_isw S h i ∧ S 13 i < q_lo S h i)) : q_lo S h (i + 1) = q_lo S h i := q_if_f z
theorem q_hi_t {S : Nat → Nat → Int32} {h : Int32} {i : Nat} (z : q_isw S h i ∧ q_hi S h i < S 13 i) : q_hi S h (i + 1) = S 13 i := q_if_t z
theorem q_hi_f {S : Nat → Nat → Int32} {h : Int32} {i : Nat} (z : ¬ (q_isw S h i ∧ q_hi S h i < S 13 i)) : q_hi S h (i + 1) = q_hi S h i := q_if_f z
set_option maxRecDepth 20000 in
set_option maxHeartbeats 4000000 in
theorem m_apartIn (hM : ww_mo x ar M.1 M.2.2.1) (hg : q_gh n (ww_X M (ar 2)) (ww_X M (ar 5))) (hn : ww_I M 321 x = nI n) (h6 : n ≤ 60) (h : Int32) : ww_C g wy_X7_apartIn 1 0 0 [.ref x, .int h] M (ww_ret (some (.int (q_hi (q_S M x ar) h n - q_lo (q_S M x ar) h n))) M) ww_no := by
  refine ww_ent (by decide +kernel) (Nat.le_of_ble_eq_true rfl) ⟨rfl, rfl, trivial⟩ ?_
  have loop : ∀ (m i : Nat), i + m = n → ww_A g wy_X7_apartIn 1 0 0 M 9 [(0, .ref x), (1, .int h), (2, .int (q_lo (q_S M x ar) h i)), (3, .int (q_hi (q_S M x ar) h i)), (4, .int (nI i))] [] (ww_ret (some (.int (q_hi (q_S M x ar) h n - q_lo (q_S M x ar) h n))) M) ww_no := by
    intro m
    induction m with
    | zero =>
      intro i hi
      have e : i = n := by omega
      subst e
      refine ww_iload (i := 4) dX7_apartIn_9 rfl ?_
      refine ww_aload_n (i := 0) dX7_apartIn_11 rfl rfl ?_
      refine ww_getI (f := 321) wf_X7_102 dX7_apartIn_12 rfl rfl hM.1.1 hM.1.2 ?_
      refine ww_icmp_ge_t (tgt := 135) dX7_apartIn_15 (by decide) (by rw [hn]; exact Int32.le_refl _) ?_
      refine ww_iload_n (i := 3) dX7_apartIn_135 rfl rfl ?_
      refine ww_iload_n (i := 2) dX7_apartIn_136 rfl rfl ?_
      refine ww_isub dX7_apartIn_137 ?_
      exact ww_ireturn dX7_apartIn_138 rfl (by first | rfl | exact ww_b_nar) ⟨rfl, rfl⟩
    | succ m ih =>
      intro i hi
      have hlt : ¬ ww_I M 321 x ≤ nI i := by rw [hn]; exact nI_ge (by omega) (by omega)
      have ih' := ih (i + 1) (by omega)
      have fin : ∀ z : Value, ww_A g wy_X7_apartIn 1 0 0 M 9 [(0, .ref x), (1, .int h), (2, .int (q_lo (q_S M x ar) h (i + 1))), (3, .int (q_hi (q_S M x ar) h (i + 1))), (4, .int (nI i + 1)), (5, z)] [] (ww_ret (some (.int (q_hi (q_S M x ar) h n - q_lo (q_S M x ar) h n))) M) ww_no := fun z => by
        rw [nI_1]
        exact ww_subk ih' ⟨rfl, rfl, rfl, rfl, rfl, trivial⟩
      have st1 : q_isw (q_S M x ar) h i → ww_A g wy_X7_apartIn 1 0 0 M 71 [(0, .ref x), (1, .int h), (2, .int (q_lo (q_S M x ar) h i)), (3, .int (q_hi (q_S M x ar) h i)), (4, .int (nI i))] [.int 1] (ww_ret (some (.int (q_hi (q_S M x ar) h n - q_lo (q_S M x ar) h n))) M) ww_no := by
        intro hw
        by_cases h1 : q_S M x ar 13 i < q_lo (q_S M x ar) h i
        · have h1' : ¬ q_lo (q_S M x ar) h i ≤ q_S M x ar 13 i := by rw [ww_le']; rw [ww_lt] at h1; omega
          rw [q_lo_t ⟨hw, h1⟩] at fin
          by_cases h2 : q_hi (q_S M x ar) h i < q_S M x ar 13 i
          · have h2' : ¬ q_S M x ar 13 i ≤ q_hi (q_S M x ar) h i := by rw [ww_le']; rw [ww_lt] at h2; omega
            rw [q_hi_t ⟨hw, h2⟩] at fin
            refine ww_istore (i := 5) (lv2 := [(0, _), (1, _), (2, _), (3, _), (4, _), (5, _)]) dX7_apartIn_71 (Nat.le_of_ble_eq_true rfl) rfl ?_
            refine ww_iload (i := 5) dX7_apartIn_73 rfl ?_
            refine ww_if_eq_f (tgt := 99) dX7_apartIn_75 (by decide) (by decide) ?_
            refine ww_aload_n (i := 0) dX7_apartIn_78 rfl rfl ?_
            refine ww_getR (f := 333) wf_X7_44 dX7_apartIn_79 rfl rfl hM.1.1 hM.1.2 (hM.2.1 13 rfl) ?_
            refine ww_iload (i := 4) dX7_apartIn_82 rfl ?_
            refine ww_mald (k := 13) hM dX7_apartIn_84 rfl rfl rfl (show _ < 60 by omega) ?_
            refine ww_iload_n (i := 2) dX7_apartIn_85 rfl rfl ?_
            refine ww_icmp_ge_f (tgt := 99) dX7_apartIn_86 (by decide) h1' ?_
            refine ww_aload_n (i := 0) dX7_apartIn_89 rfl rfl ?_
            refine ww_getR (f := 333) wf_X7_44 dX7_apartIn_90 rfl rfl hM.1.1 hM.1.2 (hM.2.1 13 rfl) ?_
            refine ww_iload (i := 4) dX7_apartIn_93 rfl ?_
            refine ww_mald (k := 13) hM dX7_apartIn_95 rfl rfl rfl (show _ < 60 by omega) ?_
            refine ww_goto (tgt := 100) dX7_apartIn_96 (by decide) ?_
            refine ww_istore_n (i := 2) (lv2 := [(0, _), (1, _), (2, _), (3, _), (4, _), (5, _)]) dX7_apartIn_100 rfl (Nat.le_of_ble_eq_true rfl) rfl ?_
            refine ww_iload (i := 5) dX7_apartIn_101 rfl ?_
            refine ww_if_eq_f (tgt := 127) dX7_apartIn_103 (by decide) (by decide) ?_
            refine ww_aload_n (i := 0) dX7_apartIn_106 rfl rfl ?_
            refine ww_getR (f := 333) wf_X7_44 dX7_apartIn_107 rfl rfl hM.1.1 hM.1.2 (hM.2.1 13 rfl) ?_
            refine ww_iload (i := 4) dX7_apartIn_110 rfl ?_
            refine ww_mald (k := 13) hM dX7_apartIn_112 rfl rfl rfl (show _ < 60 by omega) ?_
            refine ww_iload_n (i := 3) dX7_apartIn_113 rfl rfl ?_
            refine ww_icmp_le_f (tgt := 127) dX7_apartIn_114 (by decide) h2' ?_
            refine ww_aload_n (i := 0) dX7_apartIn_117 rfl rfl ?_
            refine ww_getR (f := 333) wf_X7_44 dX7_apartIn_118 rfl rfl hM.1.1 hM.1.2 (hM.2.1 13 rfl) ?_
            refine ww_iload (i := 4) dX7_apartIn_121 rfl ?_
            refine ww_mald (k := 13) hM dX7_apartIn_123 rfl rfl rfl (show _ < 60 by omega) ?_
            refine ww_goto (tgt := 128) dX7_apartIn_124 (by decide) ?_
            refine ww_istore_n (i := 3) (lv2 := [(0, _), (1, _), (2, _), (3, _), (4, _), (5, _)]) dX7_apartIn_128 rfl (Nat.le_of_ble_eq_true rfl) rfl ?_
            refine ww_iinc (i := 4) (v := _ + 1) (lv2 := [(0, _), (1, _), (2, _), (3, _), (4, _), (5, _)]) dX7_apartIn_129 rfl (by rfl) (Nat.le_of_ble_eq_true rfl) rfl ?_
            refine ww_goto (tgt := 9) dX7_apartIn_132 (by decide) ?_
            -- at 9, locals [0, 1, 2, 3, 4, 5]
            exact fin _
          · have h2' : q_S M x ar 13 i ≤ q_hi (q_S M x ar) h i := by rw [ww_le']; rw [ww_lt] at h2; omega
            rw [q_hi_f (fun z => h2 z.2)] at fin
            refine ww_istore (i := 5) (lv2 := [(0, _), (1, _), (2, _), (3, _), (4, _), (5, _)]) dX7_apartIn_71 (Nat.le_of_ble_eq_true rfl) rfl ?_
            refine ww_iload (i := 5) dX7_apartIn_73 rfl ?_
            refine ww_if_eq_f (tgt := 99) dX7_apartIn_75 (by decide) (by decide) ?_
            refine ww_aload_n (i := 0) dX7_apartIn_78 rfl rfl ?_
            refine ww_getR (f := 333) wf_X7_44 dX7_apartIn_79 rfl rfl hM.1.1 hM.1.2 (hM.2.1 13 rfl) ?_
            refine ww_iload (i := 4) dX7_apartIn_82 rfl ?_
            refine ww_mald (k := 13) hM dX7_apartIn_84 rfl rfl rfl (show _ < 60 by omega) ?_
            refine ww_iload_n (i := 2) dX7_apartIn_85 rfl rfl ?_
            refine ww_icmp_ge_f (tgt := 99) dX7_apartIn_86 (by decide) h1' ?_
            refine ww_aload_n (i := 0) dX7_apartIn_89 rfl rfl ?_
            refine ww_getR (f := 333) wf_X7_44 dX7_apartIn_90 rfl rfl hM.1.1 hM.1.2 (hM.2.1 13 rfl) ?_
            refine ww_iload (i := 4) dX7_apartIn_93 rfl ?_
            refine ww_mald (k := 13) hM dX7_apartIn_95 rfl rfl rfl (show _ < 60 by omega) ?_
            refine ww_goto (tgt := 100) dX7_apartIn_96 (by decide) ?_
            refine ww_istore_n (i := 2) (lv2 := [(0, _), (1, _), (2, _), (3, _), (4, _), (5, _)]) dX7_apartIn_100 rfl (Nat.le_of_ble_eq_true rfl) rfl ?_
            refine ww_iload (i := 5) dX7_apartIn_101 rfl ?_
            refine ww_if_eq_f (tgt := 127) dX7_apartIn_103 (by decide) (by decide) ?_
            refine ww_aload_n (i := 0) dX7_apartIn_106 rfl rfl ?_
            refine ww_getR (f := 333) wf_X7_44 dX7_apartIn_107 rfl rfl hM.1.1 hM.1.2 (hM.2.1 13 rfl) ?_
            refine ww_iload (i := 4) dX7_apartIn_110 rfl ?_
            refine ww_mald (k := 13) hM dX7_apartIn_112 rfl rfl rfl (show _ < 60 by omega) ?_
            refine ww_iload_n (i := 3) dX7_apartIn_113 rfl rfl ?_
            refine ww_icmp_le_t (tgt := 127) dX7_apartIn_114 (by decide) h2' ?_
            refine ww_iload_n (i := 3) dX7_apartIn_127 rfl rfl ?_
            refine ww_istore_n (i := 3) (lv2 := [(0, _), (1, _), (2, _), (3, _), (4, _), (5, _)]) dX7_apartIn_128 rfl (Nat.le_of_ble_eq_true rfl) rfl ?_
            refine ww_iinc (i := 4) (v := _ + 1) (lv2 := [(0, _), (1, _), (2, _), (3, _), (4, _), (5, _)]) dX7_apartIn_129 rfl (by rfl) (Nat.le_of_ble_eq_true rfl) rfl ?_
            refine ww_goto (tgt := 9) dX7_apartIn_132 (by decide) ?_
            -- at 9, locals [0, 1, 2, 3, 4, 5]
            exact fin _
        · have h1' : q_lo (q_S M x ar) h i ≤ q_S M x ar 13 i := by rw [ww_le']; rw [ww_lt] at h1; omega
          rw [q_lo_f (fun z => h1 z.2)] at fin
          by_cases h2 : q_hi (q_S M x ar) h i < q_S M x ar 13 i
          · have h2' : ¬ q_S M x ar 13 i ≤ q_hi (q_S M x ar) h i := by rw [ww_le']; rw [ww_lt] at h2; omega
            rw [q_hi_t ⟨hw, h2⟩] at fin
            refine ww_istore (i := 5) (lv2 := [(0, _), (1, _), (2, _), (3, _), (4, _), (5, _)]) dX7_apartIn_71 (Nat.le_of_ble_eq_true rfl) rfl ?_
            refine ww_iload (i := 5) dX7_apartIn_73 rfl ?_
            refine ww_if_eq_f (tgt := 99) dX7_apartIn_75 (by decide) (by decide) ?_
            refine ww_aload_n (i := 0) dX7_apartIn_78 rfl rfl ?_
            refine ww_getR (f := 333) wf_X7_44 dX7_apartIn_79 rfl rfl hM.1.1 hM.1.2 (hM.2.1 13 rfl) ?_
            refine ww_iload (i := 4) dX7_apartIn_82 rfl ?_
            refine ww_mald (k := 13) hM dX7_apartIn_84 rfl rfl rfl (show _ < 60 by omega) ?_
            refine ww_iload_n (i := 2) dX7_apartIn_85 rfl rfl ?_
            refine ww_icmp_ge_t (tgt := 99) dX7_apartIn_86 (by decide) h1' ?_
            refine ww_iload_n (i := 2) dX7_apartIn_99 rfl rfl ?_
            refine ww_istore_n (i := 2) (lv2 := [(0, _), (1, _), (2, _), (3, _), (4, _), (5, _)]) dX7_apartIn_100 rfl (Nat.le_of_ble_eq_true rfl) rfl ?_
            refine ww_iload (i := 5) dX7_apartIn_101 rfl ?_
            refine ww_if_eq_f (tgt := 127) dX7_apartIn_103 (by decide) (by decide) ?_
            refine ww_aload_n (i := 0) dX7_apartIn_106 rfl rfl ?_
            refine ww_getR (f := 333) wf_X7_44 dX7_apartIn_107 rfl rfl hM.1.1 hM.1.2 (hM.2.1 13 rfl) ?_
            refine ww_iload (i := 4) dX7_apartIn_110 rfl ?_
            refine ww_mald (k := 13) hM dX7_apartIn_112 rfl rfl rfl (show _ < 60 by omega) ?_
            refine ww_iload_n (i := 3) dX7_apartIn_113 rfl rfl ?_
            refine ww_icmp_le_f (tgt := 127) dX7_apartIn_114 (by decide) h2' ?_
            refine ww_aload_n (i := 0) dX7_apartIn_117 rfl rfl ?_
            refine ww_getR (f := 333) wf_X7_44 dX7_apartIn_118 rfl rfl hM.1.1 hM.1.2 (hM.2.1 13 rfl) ?_
            refine ww_iload (i := 4) dX7_apartIn_121 rfl ?_
            refine ww_mald (k := 13) hM dX7_apartIn_123 rfl rfl rfl (show _ < 60 by omega) ?_
            refine ww_goto (tgt := 128) dX7_apartIn_124 (by decide) ?_
            refine ww_istore_n (i := 3) (lv2 := [(0, _), (1, _), (2, _), (3, _), (4, _), (5, _)]) dX7_apartIn_128 rfl (Nat.le_of_ble_eq_true rfl) rfl ?_
            refine ww_iinc (i := 4) (v := _ + 1) (lv2 := [(0, _), (1, _), (2, _), (3, _), (4, _), (5, _)]) dX7_apartIn_129 rfl (by rfl) (Nat.le_of_ble_eq_true rfl) rfl ?_
            refine ww_goto (tgt := 9) dX7_apartIn_132 (by decide) ?_
            -- at 9, locals [0, 1, 2, 3, 4, 5]
            exact fin _
          · have h2' : q_S M x ar 13 i ≤ q_hi (q_S M x ar) h i := by rw [ww_le']; rw [ww_lt] at h2; omega
            rw [q_hi_f (fun z => h2 z.2)] at fin
            refine ww_istore (i := 5) (lv2 := [(0, _), (1, _), (2, _), (3, _), (4, _), (5, _)]) dX7_apartIn_71 (Nat.le_of_ble_eq_true rfl) rfl ?_
            refine ww_iload (i := 5) dX7_apartIn_73 rfl ?_
            refine ww_if_eq_f (tgt := 99) dX7_apartIn_75 (by decide) (by decide) ?_
            refine ww_aload_n (i := 0) dX7_apartIn_78 rfl rfl ?_
            refine ww_getR (f := 333) wf_X7_44 dX7_apartIn_79 rfl rfl hM.1.1 hM.1.2 (hM.2.1 13 rfl) ?_
            refine ww_iload (i := 4) dX7_apartIn_82 rfl ?_
            refine ww_mald (k := 13) hM dX7_apartIn_84 rfl rfl rfl (show _ < 60 by omega) ?_
            refine ww_iload_n (i := 2) dX7_apartIn_85 rfl rfl ?_
            refine ww_icmp_ge_t (tgt := 99) dX7_apartIn_86 (by decide) h1' ?_
            refine ww_iload_n (i := 2) dX7_apartIn_99 rfl rfl ?_
            refine ww_istore_n (i := 2) (lv2 := [(0, _), (1, _), (2, _), (3, _), (4, _), (5, _)]) dX7_apartIn_100 rfl (Nat.le_of_ble_eq_true rfl) rfl ?_
            refine ww_iload (i := 5) dX7_apartIn_101 rfl ?_
            refine ww_if_eq_f (tgt := 127) dX7_apartIn_103 (by decide) (by decide) ?_
            refine ww_aload_n (i := 0) dX7_apartIn_106 rfl rfl ?_
            refine ww_getR (f := 333) wf_X7_44 dX7_apartIn_107 rfl rfl hM.1.1 hM.1.2 (hM.2.1 13 rfl) ?_
            refine ww_iload (i := 4) dX7_apartIn_110 rfl ?_
            refine ww_mald (k := 13) hM dX7_apartIn_112 rfl rfl rfl (show _ < 60 by omega) ?_
            refine ww_iload_n (i := 3) dX7_apartIn_113 rfl rfl ?_
            refine ww_icmp_le_t (tgt := 127) dX7_apartIn_114 (by decide) h2' ?_
            refine ww_iload_n (i := 3) dX7_apartIn_127 rfl rfl ?_
            refine ww_istore_n (i := 3) (lv2 := [(0, _), (1, _), (2, _), (3, _), (4, _), (5, _)]) dX7_apartIn_128 rfl (Nat.le_of_ble_eq_true rfl) rfl ?_
            refine ww_iinc (i := 4) (v := _ + 1) (lv2 := [(0, _), (1, _), (2, _), (3, _), (4, _), (5, _)]) dX7_apartIn_129 rfl (by rfl) (Nat.le_of_ble_eq_true rfl) rfl ?_
            refine ww_goto (tgt := 9) dX7_apartIn_132 (by decide) ?_
            -- at 9, locals [0, 1, 2, 3, 4, 5]
            exact fin _
      have st0 : ¬ q_isw (q_S M x ar) h i → ww_A g wy_X7_apartIn 1 0 0 M 71 [(0, .ref x), (1, .int h), (2, .int (q_lo (q_S M x ar) h i)), (3, .int (q_hi (q_S M x ar) h i)), (4, .int (nI i))] [.int 0] (ww_ret (some (.int (q_hi (q_S M x ar) h n - q_lo (q_S M x ar) h n))) M) ww_no := by
        intro hw
        rw [q_lo_f (fun z => hw z.1), q_hi_f (fun z => hw z.1)] at fin
        refine ww_istore (i := 5) (lv2 := [(0, _), (1, _), (2, _), (3, _), (4, _), (5, _)]) dX7_apartIn_71 (Nat.le_of_ble_eq_true rfl) rfl ?_
        refine ww_iload (i := 5) dX7_apartIn_73 rfl ?_
        refine ww_if_eq_t (tgt := 99) dX7_apartIn_75 (by decide) (by decide) ?_
        refine ww_iload_n (i := 2) dX7_apartIn_99 rfl rfl ?_
        refine ww_istore_n (i := 2) (lv2 := [(0, _), (1, _), (2, _), (3, _), (4, _), (5, _)]) dX7_apartIn_100 rfl (Nat.le_of_ble_eq_true rfl) rfl ?_
        refine ww_iload (i := 5) dX7_apartIn_101 rfl ?_
        refine ww_if_eq_t (tgt := 127) dX7_apartIn_103 (by decide) (by decide) ?_
        refine ww_iload_n (i := 3) dX7_apartIn_127 rfl rfl ?_
        refine ww_istore_n (i := 3) (lv2 := [(0, _), (1, _), (2, _), (3, _), (4, _), (5, _)]) dX7_apartIn_128 rfl (Nat.le_of_ble_eq_true rfl) rfl ?_
        refine ww_iinc (i := 4) (v := _ + 1) (lv2 := [(0, _), (1, _), (2, _), (3, _), (4, _), (5, _)]) dX7_apartIn_129 rfl (by rfl) (Nat.le_of_ble_eq_true rfl) rfl ?_
        refine ww_goto (tgt := 9) dX7_apartIn_132 (by decide) ?_
        -- at 9, locals [0, 1, 2, 3, 4, 5]
        exact fin _
      by_cases h1 : q_S M x ar 2 i = 3
      · rcases q_gh_cases hg h6 (p := i) (by omega) with h2 | ⟨q, hq, e, -⟩
        · have hw : ¬ q_isw (q_S M x ar) h i := fun z => z.2.1 h2
          refine ww_iload (i := 4) dX7_apartIn_9 rfl ?_
          refine ww_aload_n (i := 0) dX7_apartIn_11 rfl rfl ?_
          refine ww_getI (f := 321) wf_X7_102 dX7_apartIn_12 rfl rfl hM.1.1 hM.1.2 ?_
          refine ww_icmp_ge_f (tgt := 135) dX7_apartIn_15 (by decide) hlt ?_
          refine ww_aload_n (i := 0) dX7_apartIn_18 rfl rfl ?_
          refine ww_getR (f := 322) wf_X7_7 dX7_apartIn_19 rfl rfl hM.1.1 hM.1.2 (hM.2.1 2 rfl) ?_
          refine ww_iload (i := 4) dX7_apartIn_22 rfl ?_
          refine ww_mald (k := 2) hM dX7_apartIn_24 rfl rfl rfl (show _ < 60 by omega) ?_
          refine ww_iconst (v := 3) dX7_apartIn_25 (by decide) ?_
          refine ww_icmp_ne_f (tgt := 70) dX7_apartIn_26 (by decide) h1 ?_
          refine ww_aload_n (i := 0) dX7_apartIn_29 rfl rfl ?_
          refine ww_getR (f := 325) wf_X7_19 dX7_apartIn_30 rfl rfl hM.1.1 hM.1.2 (hM.2.1 5 rfl) ?_
          refine ww_iload (i := 4) dX7_apartIn_33 rfl ?_
          refine ww_mald (k := 5) hM dX7_apartIn_35 rfl rfl rfl (show _ < 60 by omega) ?_
          refine ww_if_lt_t (tgt := 70) dX7_apartIn_36 (by decide) h2 ?_
          refine ww_iconst (v := 0) dX7_apartIn_70 (by decide) ?_
          -- at 71, locals [0, 1, 2, 3, 4]
          exact st0 hw
        · have h2 : ¬ q_S M x ar 5 i < 0 := by show ¬ ww_X M (ar 5) i < 0; rw [e]; exact nI_pos (by omega)
          have e2 : (q_S M x ar 5 i).toNatClampNeg = q := by show (ww_X M (ar 5) i).toNatClampNeg = q; rw [e]; exact nI_clamp (by omega)
          by_cases h3 : q_S M x ar 5 i = h
          · have hw : q_isw (q_S M x ar) h i := ⟨h1, h2, Or.inl h3⟩
            refine ww_iload (i := 4) dX7_apartIn_9 rfl ?_
            refine ww_aload_n (i := 0) dX7_apartIn_11 rfl rfl ?_
            refine ww_getI (f := 321) wf_X7_102 dX7_apartIn_12 rfl rfl hM.1.1 hM.1.2 ?_
            refine ww_icmp_ge_f (tgt := 135) dX7_apartIn_15 (by decide) hlt ?_
            refine ww_aload_n (i := 0) dX7_apartIn_18 rfl rfl ?_
            refine ww_getR (f := 322) wf_X7_7 dX7_apartIn_19 rfl rfl hM.1.1 hM.1.2 (hM.2.1 2 rfl) ?_
            refine ww_iload (i := 4) dX7_apartIn_22 rfl ?_
            refine ww_mald (k := 2) hM dX7_apartIn_24 rfl rfl rfl (show _ < 60 by omega) ?_
            refine ww_iconst (v := 3) dX7_apartIn_25 (by decide) ?_
            refine ww_icmp_ne_f (tgt := 70) dX7_apartIn_26 (by decide) h1 ?_
            refine ww_aload_n (i := 0) dX7_apartIn_29 rfl rfl ?_
            refine ww_getR (f := 325) wf_X7_19 dX7_apartIn_30 rfl rfl hM.1.1 hM.1.2 (hM.2.1 5 rfl) ?_
            refine ww_iload (i := 4) dX7_apartIn_33 rfl ?_
            refine ww_mald (k := 5) hM dX7_apartIn_35 rfl rfl rfl (show _ < 60 by omega) ?_
            refine ww_if_lt_f (tgt := 70) dX7_apartIn_36 (by decide) h2 ?_
            refine ww_aload_n (i := 0) dX7_apartIn_39 rfl rfl ?_
            refine ww_getR (f := 325) wf_X7_19 dX7_apartIn_40 rfl rfl hM.1.1 hM.1.2 (hM.2.1 5 rfl) ?_
            refine ww_iload (i := 4) dX7_apartIn_43 rfl ?_
            refine ww_mald (k := 5) hM dX7_apartIn_45 rfl rfl rfl (show _ < 60 by omega) ?_
            refine ww_iload_n (i := 1) dX7_apartIn_46 rfl rfl ?_
            refine ww_icmp_eq_t (tgt := 66) dX7_apartIn_47 (by decide) h3 ?_
            refine ww_iconst (v := 1) dX7_apartIn_66 (by decide) ?_
            refine ww_goto (tgt := 71) dX7_apartIn_67 (by decide) ?_
            -- at 71, locals [0, 1, 2, 3, 4]
            exact st1 hw
          · by_cases h4 : q_S M x ar 5 q = h
            · have hw : q_isw (q_S M x ar) h i := ⟨h1, h2, Or.inr (by rw [e2]; exact h4)⟩
              refine ww_iload (i := 4) dX7_apartIn_9 rfl ?_
              refine ww_aload_n (i := 0) dX7_apartIn_11 rfl rfl ?_
              refine ww_getI (f := 321) wf_X7_102 dX7_apartIn_12 rfl rfl hM.1.1 hM.1.2 ?_
              refine ww_icmp_ge_f (tgt := 135) dX7_apartIn_15 (by decide) hlt ?_
              refine ww_aload_n (i := 0) dX7_apartIn_18 rfl rfl ?_
              refine ww_getR (f := 322) wf_X7_7 dX7_apartIn_19 rfl rfl hM.1.1 hM.1.2 (hM.2.1 2 rfl) ?_
              refine ww_iload (i := 4) dX7_apartIn_22 rfl ?_
              refine ww_mald (k := 2) hM dX7_apartIn_24 rfl rfl rfl (show _ < 60 by omega) ?_
              refine ww_iconst (v := 3) dX7_apartIn_25 (by decide) ?_
              refine ww_icmp_ne_f (tgt := 70) dX7_apartIn_26 (by decide) h1 ?_
              refine ww_aload_n (i := 0) dX7_apartIn_29 rfl rfl ?_
              refine ww_getR (f := 325) wf_X7_19 dX7_apartIn_30 rfl rfl hM.1.1 hM.1.2 (hM.2.1 5 rfl) ?_
              refine ww_iload (i := 4) dX7_apartIn_33 rfl ?_
              refine ww_mald (k := 5) hM dX7_apartIn_35 rfl rfl rfl (show _ < 60 by omega) ?_
              refine ww_if_lt_f (tgt := 70) dX7_apartIn_36 (by decide) h2 ?_
              refine ww_aload_n (i := 0) dX7_apartIn_39 rfl rfl ?_
              refine ww_getR (f := 325) wf_X7_19 dX7_apartIn_40 rfl rfl hM.1.1 hM.1.2 (hM.2.1 5 rfl) ?_
              refine ww_iload (i := 4) dX7_apartIn_43 rfl ?_
              refine ww_mald (k := 5) hM dX7_apartIn_45 rfl rfl rfl (show _ < 60 by omega) ?_
              refine ww_iload_n (i := 1) dX7_apartIn_46 rfl rfl ?_
              refine ww_icmp_eq_f (tgt := 66) dX7_apartIn_47 (by decide) h3 ?_
              refine ww_aload_n (i := 0) dX7_apartIn_50 rfl rfl ?_
              refine ww_getR (f := 325) wf_X7_19 dX7_apartIn_51 rfl rfl hM.1.1 hM.1.2 (hM.2.1 5 rfl) ?_
              refine ww_aload_n (i := 0) dX7_apartIn_54 rfl rfl ?_
              refine ww_getR (f := 325) wf_X7_19 dX7_apartIn_55 rfl rfl hM.1.1 hM.1.2 (hM.2.1 5 rfl) ?_
              refine ww_iload (i := 4) dX7_apartIn_58 rfl ?_
              refine ww_mald (k := 5) hM dX7_apartIn_60 rfl rfl rfl (show _ < 60 by omega) ?_
              refine ww_mald (k := 5) hM dX7_apartIn_61 rfl rfl e (show _ < 60 by omega) ?_
              refine ww_iload_n (i := 1) dX7_apartIn_62 rfl rfl ?_
              refine ww_icmp_ne_f (tgt := 70) dX7_apartIn_63 (by decide) h4 ?_
              refine ww_iconst (v := 1) dX7_apartIn_66 (by decide) ?_
              refine ww_goto (tgt := 71) dX7_apartIn_67 (by decide) ?_
              -- at 71, locals [0, 1, 2, 3, 4]
              exact st1 hw
            · have hw : ¬ q_isw (q_S M x ar) h i := fun z => z.2.2.elim h3 (fun y => by rw [e2] at y; exact h4 y)
              refine ww_iload (i := 4) dX7_apartIn_9 rfl ?_
              refine ww_aload_n (i := 0) dX7_apartIn_11 rfl rfl ?_
              refine ww_getI (f := 321) wf_X7_102 dX7_apartIn_12 rfl rfl hM.1.1 hM.1.2 ?_
              refine ww_icmp_ge_f (tgt := 135) dX7_apartIn_15 (by decide) hlt ?_
              refine ww_aload_n (i := 0) dX7_apartIn_18 rfl rfl ?_
              refine ww_getR (f := 322) wf_X7_7 dX7_apartIn_19 rfl rfl hM.1.1 hM.1.2 (hM.2.1 2 rfl) ?_
              refine ww_iload (i := 4) dX7_apartIn_22 rfl ?_
              refine ww_mald (k := 2) hM dX7_apartIn_24 rfl rfl rfl (show _ < 60 by omega) ?_
              refine ww_iconst (v := 3) dX7_apartIn_25 (by decide) ?_
              refine ww_icmp_ne_f (tgt := 70) dX7_apartIn_26 (by decide) h1 ?_
              refine ww_aload_n (i := 0) dX7_apartIn_29 rfl rfl ?_
              refine ww_getR (f := 325) wf_X7_19 dX7_apartIn_30 rfl rfl hM.1.1 hM.1.2 (hM.2.1 5 rfl) ?_
              refine ww_iload (i := 4) dX7_apartIn_33 rfl ?_
              refine ww_mald (k := 5) hM dX7_apartIn_35 rfl rfl rfl (show _ < 60 by omega) ?_
              refine ww_if_lt_f (tgt := 70) dX7_apartIn_36 (by decide) h2 ?_
              refine ww_aload_n (i := 0) dX7_apartIn_39 rfl rfl ?_
              refine ww_getR (f := 325) wf_X7_19 dX7_apartIn_40 rfl rfl hM.1.1 hM.1.2 (hM.2.1 5 rfl) ?_
              refine ww_iload (i := 4) dX7_apartIn_43 rfl ?_
              refine ww_mald (k := 5) hM dX7_apartIn_45 rfl rfl rfl (show _ < 60 by omega) ?_
              refine ww_iload_n (i := 1) dX7_apartIn_46 rfl rfl ?_
              refine ww_icmp_eq_f (tgt := 66) dX7_apartIn_47 (by decide) h3 ?_
              refine ww_aload_n (i := 0) dX7_apartIn_50 rfl rfl ?_
              refine ww_getR (f := 325) wf_X7_19 dX7_apartIn_51 rfl rfl hM.1.1 hM.1.2 (hM.2.1 5 rfl) ?_
              refine ww_aload_n (i := 0) dX7_apartIn_54 rfl rfl ?_
              refine ww_getR (f := 325) wf_X7_19 dX7_apartIn_55 rfl rfl hM.1.1 hM.1.2 (hM.2.1 5 rfl) ?_
              refine ww_iload (i := 4) dX7_apartIn_58 rfl ?_
              refine ww_mald (k := 5) hM dX7_apartIn_60 rfl rfl rfl (show _ < 60 by omega) ?_
              refine ww_mald (k := 5) hM dX7_apartIn_61 rfl rfl e (show _ < 60 by omega) ?_
              refine ww_iload_n (i := 1) dX7_apartIn_62 rfl rfl ?_
              refine ww_icmp_ne_t (tgt := 70) dX7_apartIn_63 (by decide) h4 ?_
              refine ww_iconst (v := 0) dX7_apartIn_70 (by decide) ?_
              -- at 71, locals [0, 1, 2, 3, 4]
              exact st0 hw
      · have hw : ¬ q_isw (q_S M x ar) h i := fun z => h1 z.1
        refine ww_iload (i := 4) dX7_apartIn_9 rfl ?_
        refine ww_aload_n (i := 0) dX7_apartIn_11 rfl rfl ?_
        refine ww_getI (f := 321) wf_X7_102 dX7_apartIn_12 rfl rfl hM.1.1 hM.1.2 ?_
        refine ww_icmp_ge_f (tgt := 135) dX7_apartIn_15 (by decide) hlt ?_
        refine ww_aload_n (i := 0) dX7_apartIn_18 rfl rfl ?_
        refine ww_getR (f := 322) wf_X7_7 dX7_apartIn_19 rfl rfl hM.1.1 hM.1.2 (hM.2.1 2 rfl) ?_
        refine ww_iload (i := 4) dX7_apartIn_22 rfl ?_
        refine ww_mald (k := 2) hM dX7_apartIn_24 rfl rfl rfl (show _ < 60 by omega) ?_
        refine ww_iconst (v := 3) dX7_apartIn_25 (by decide) ?_
        refine ww_icmp_ne_t (tgt := 70) dX7_apartIn_26 (by decide) h1 ?_
        refine ww_iconst (v := 0) dX7_apartIn_70 (by decide) ?_
        -- at 71, locals [0, 1, 2, 3, 4]
        exact st0 hw
  refine ww_ldc (v := 1000000) dX7_apartIn_0 wm_1212 ?_
  refine ww_istore_n (i := 2) (lv2 := [(0, _), (1, _), (2, _)]) dX7_apartIn_2 rfl (Nat.le_of_ble_eq_true rfl) rfl ?_
  refine ww_ldc (v := -1000000) dX7_apartIn_3 wm_1213 ?_
  refine ww_istore_n (i := 3) (lv2 := [(0, _), (1, _), (2, _), (3, _)]) dX7_apartIn_5 rfl (Nat.le_of_ble_eq_true rfl) rfl ?_
  refine ww_iconst (v := 0) dX7_apartIn_6 (by decide) ?_
  refine ww_istore (i := 4) (lv2 := [(0, _), (1, _), (2, _), (3, _), (4, _)]) dX7_apartIn_7 (Nat.le_of_ble_eq_true rfl) rfl ?_
  -- at 9, locals [0, 1, 2, 3, 4]
  exact loop n 0 (by omega)
theorem q_kd_of {S : Nat → Nat → Int32} {n p : Nat} (hg : q_gh n (S 2) (S 5)) (hp : p < n) : S 2 p = nI (q_kd S p) ∧ q_kd S p < 5 := by
  obtain ⟨⟨k, hk, e⟩, -⟩ := hg p hp
  have e2 : q_kd S p = k := by unfold q_kd; rw [e]; exact nI_clamp (by omega)
  rw [e2]
  exact ⟨e, hk⟩
set_option maxRecDepth 20000 in
theorem m_isDue (hM : ww_mo x ar M.1 M.2.2.1) (hg : q_gh n (q_S M x ar 2) (q_S M x ar 5)) (h6 : n ≤ 60) {p : Nat} (hp : p < n) : ww_C g wy_X7_isDue 1 0 0 [.ref x, .int (nI p)] M (ww_ret (some (.int (ww_b (q_due (q_S M x ar) p)))) M) ww_no := by
  refine ww_ent (by decide +kernel) (Nat.le_of_ble_eq_true rfl) ⟨rfl, rfl, trivial⟩ ?_
  obtain ⟨e, hk⟩ := q_kd_of hg hp
  by_cases h1 : 0 < q_S M x ar 21 (q_kd (q_S M x ar) p)
  · have h1' : ¬ q_S M x ar 21 (q_kd (q_S M x ar) p) ≤ 0 := by rw [ww_le']; rw [ww_lt] at h1; omega
    by_cases h2 : q_S M x ar 21 (q_kd (q_S M x ar) p) + q_S M x ar 8 p < q_S M x ar 7 p
    · have h2' : ¬ q_S M x ar 7 p ≤ q_S M x ar 21 (q_kd (q_S M x ar) p) + q_S M x ar 8 p := by rw [ww_le']; rw [ww_lt] at h2; omega
      have hq : q_due (q_S M x ar) p := ⟨h1, h2⟩
      rw [ww_b_t hq]
      refine ww_aload_n (i := 0) dX7_isDue_0 rfl rfl ?_
      refine ww_getR (f := 341) wf_X7_68 dX7_isDue_1 rfl rfl hM.1.1 hM.1.2 (hM.2.1 21 rfl) ?_
      refine ww_aload_n (i := 0) dX7_isDue_4 rfl rfl ?_
      refine ww_getR (f := 322) wf_X7_7 dX7_isDue_5 rfl rfl hM.1.1 hM.1.2 (hM.2.1 2 rfl) ?_
      refine ww_iload_n (i := 1) dX7_isDue_8 rfl rfl ?_
      refine ww_mald (k := 2) hM dX7_isDue_9 rfl rfl rfl (show _ < 60 by omega) ?_
      refine ww_mald (k := 21) hM dX7_isDue_10 rfl rfl e (show _ < 5 by omega) ?_
      refine ww_istore_n (i := 2) (lv2 := [(0, _), (1, _), (2, _)]) dX7_isDue_11 rfl (Nat.le_of_ble_eq_true rfl) rfl ?_
      refine ww_iload_n (i := 2) dX7_isDue_12 rfl rfl ?_
      refine ww_if_le_f (tgt := 37) dX7_isDue_13 (by decide) h1' ?_
      refine ww_aload_n (i := 0) dX7_isDue_16 rfl rfl ?_
      refine ww_getR (f := 327) wf_X7_25 dX7_isDue_17 rfl rfl hM.1.1 hM.1.2 (hM.2.1 7 rfl) ?_
      refine ww_iload_n (i := 1) dX7_isDue_20 rfl rfl ?_
      refine ww_mald (k := 7) hM dX7_isDue_21 rfl rfl rfl (show _ < 60 by omega) ?_
      refine ww_iload_n (i := 2) dX7_isDue_22 rfl rfl ?_
      refine ww_aload_n (i := 0) dX7_isDue_23 rfl rfl ?_
      refine ww_getR (f := 328) wf_X7_28 dX7_isDue_24 rfl rfl hM.1.1 hM.1.2 (hM.2.1 8 rfl) ?_
      refine ww_iload_n (i := 1) dX7_isDue_27 rfl rfl ?_
      refine ww_mald (k := 8) hM dX7_isDue_28 rfl rfl rfl (show _ < 60 by omega) ?_
      refine ww_iadd dX7_isDue_29 ?_
      refine ww_icmp_le_f (tgt := 37) dX7_isDue_30 (by decide) h2' ?_
      refine ww_iconst (v := 1) dX7_isDue_33 (by decide) ?_
      refine ww_goto (tgt := 38) dX7_isDue_34 (by decide) ?_
      exact ww_ireturn dX7_isDue_38 rfl (by first | rfl | exact ww_b_nar) ⟨rfl, rfl⟩
    · have h2' : q_S M x ar 7 p ≤ q_S M x ar 21 (q_kd (q_S M x ar) p) + q_S M x ar 8 p := by rw [ww_le']; rw [ww_lt] at h2; omega
      have hq : ¬ q_due (q_S M x ar) p := fun z => h2 z.2
      rw [ww_b_f hq]
      refine ww_aload_n (i := 0) dX7_isDue_0 rfl rfl ?_
      refine ww_getR (f := 341) wf_X7_68 dX7_isDue_1 rfl rfl hM.1.1 hM.1.2 (hM.2.1 21 rfl) ?_
      refine ww_aload_n (i := 0) dX7_isDue_4 rfl rfl ?_
      refine ww_getR (f := 322) wf_X7_7 dX7_isDue_5 rfl rfl hM.1.1 hM.1.2 (hM.2.1 2 rfl) ?_
      refine ww_iload_n (i := 1) dX7_isDue_8 rfl rfl ?_
      refine ww_mald (k := 2) hM dX7_isDue_9 rfl rfl rfl (show _ < 60 by omega) ?_
      refine ww_mald (k := 21) hM dX7_isDue_10 rfl rfl e (show _ < 5 by omega) ?_
      refine ww_istore_n (i := 2) (lv2 := [(0, _), (1, _), (2, _)]) dX7_isDue_11 rfl (Nat.le_of_ble_eq_true rfl) rfl ?_
      refine ww_iload_n (i := 2) dX7_isDue_12 rfl rfl ?_
      refine ww_if_le_f (tgt := 37) dX7_isDue_13 (by decide) h1' ?_
      refine ww_aload_n (i := 0) dX7_isDue_16 rfl rfl ?_
      refine ww_getR (f := 327) wf_X7_25 dX7_isDue_17 rfl rfl hM.1.1 hM.1.2 (hM.2.1 7 rfl) ?_
      refine ww_iload_n (i := 1) dX7_isDue_20 rfl rfl ?_
      refine ww_mald (k := 7) hM dX7_isDue_21 rfl rfl rfl (show _ < 60 by omega) ?_
      refine ww_iload_n (i := 2) dX7_isDue_22 rfl rfl ?_
      refine ww_aload_n (i := 0) dX7_isDue_23 rfl rfl ?_
      refine ww_getR (f := 328) wf_X7_28 dX7_isDue_24 rfl rfl hM.1.1 hM.1.2 (hM.2.1 8 rfl) ?_
      refine ww_iload_n (i := 1) dX7_isDue_27 rfl rfl ?_
      refine ww_mald (k := 8) hM dX7_isDue_28 rfl rfl rfl (show _ < 60 by omega) ?_
      refine ww_iadd dX7_isDue_29 ?_
      refine ww_icmp_le_t (tgt := 37) dX7_isDue_30 (by decide) h2' ?_
      refine ww_iconst (v := 0) dX7_isDue_37 (by decide) ?_
      exact ww_ireturn dX7_isDue_38 rfl (by first | rfl | exact ww_b_nar) ⟨rfl, rfl⟩
  · have h1' : q_S M x ar 21 (q_kd (q_S M x ar) p) ≤ 0 := by rw [ww_le']; rw [ww_lt] at h1; omega
    have hq : ¬ q_due (q_S M x ar) p := fun z => h1 z.1
    rw [ww_b_f hq]
    refine ww_aload_n (i := 0) dX7_isDue_0 rfl rfl ?_
    refine ww_getR (f := 341) wf_X7_68 dX7_isDue_1 rfl rfl hM.1.1 hM.1.2 (hM.2.1 21 rfl) ?_
    refine ww_aload_n (i := 0) dX7_isDue_4 rfl rfl ?_
    refine ww_getR (f := 322) wf_X7_7 dX7_isDue_5 rfl rfl hM.1.1 hM.1.2 (hM.2.1 2 rfl) ?_
    refine ww_iload_n (i := 1) dX7_isDue_8 rfl rfl ?_
    refine ww_mald (k := 2) hM dX7_isDue_9 rfl rfl rfl (show _ < 60 by omega) ?_
    refine ww_mald (k := 21) hM dX7_isDue_10 rfl rfl e (show _ < 5 by omega) ?_
    refine ww_istore_n (i := 2) (lv2 := [(0, _), (1, _), (2, _)]) dX7_isDue_11 rfl (Nat.le_of_ble_eq_true rfl) rfl ?_
    refine ww_iload_n (i := 2) dX7_isDue_12 rfl rfl ?_
    refine ww_if_le_t (tgt := 37) dX7_isDue_13 (by decide) h1' ?_
    refine ww_iconst (v := 0) dX7_isDue_37 (by decide) ?_
    exact ww_ireturn dX7_isDue_38 rfl (by first | rfl | exact ww_b_nar) ⟨rfl, rfl⟩
theorem q_bars_1 {S : Nat → Nat → Int32} {n p : Nat} : q_bars S n p 1 ↔ q_empty S n p := by simp [q_bars]
theorem q_bars_2 {S : Nat → Nat → Int32} {n p : Nat} : q_bars S n p 2 ↔ S 9 p = 1 := by simp [q_bars]
theorem q_bars_3 {S : Nat → Nat → Int32} {n p : Nat} : q_bars S n p 3 ↔ S 10 p = 1 := by simp [q_bars]
theorem q_bars_4 {S : Nat → Nat → Int32} {n p : Nat} : q_bars S n p 4 ↔ q_life S p := by simp [q_bars]
theorem q_bars_5 {S : Nat → Nat → Int32} {n p : Nat} : q_bars S n p 5 ↔ q_worn S p := by simp [q_bars]
theorem q_bars_6 {S : Nat → Nat → Int32} {n p : Nat} : q_bars S n p 6 ↔ q_apart S n p := by simp [q_bars]
theorem q_bars_7 {S : Nat → Nat → Int32} {n p : Nat} : q_bars S n p 7 ↔ q_due S p := by simp [q_bars]
theorem ww_b_of {v : Int32} (h : v = 0 ∨ v = 1) : v = ww_b (v = 1) := by
  rcases h with h | h
  · rw [ww_b_f (by rw [h]; decide)]; exact h
  · rw [ww_b_t h]; exact h
set_option maxRecDepth 20000 in
set_option maxHeartbeats 4000000 in
theorem m_barsBy (hM : ww_mo x ar M.1 M.2.2.1) (hg : q_gh n (q_S M x ar 2) (q_S M x ar 5)) (hn : ww_I M 321 x = nI n) (h6 : n ≤ 60) (b9 : q_bool (q_S M x ar) 9) (b10 : q_bool (q_S M x ar) 10) {p r : Nat} (hp : p < n) (hr1 : 1 ≤ r) (hr7 : r ≤ 7) : ww_C g wy_X7_barsBy 3 0 0 [.ref x, .int (nI p), .int (nI r)] M (ww_ret (some (.int (ww_b (q_bars (q_S M x ar) n p r)))) M) ww_no := by
  refine ww_ent (by decide +kernel) (Nat.le_of_ble_eq_true rfl) ⟨rfl, rfl, rfl, trivial⟩ ?_
  obtain ⟨e, hk⟩ := q_kd_of hg hp
  have hr : r = 1 ∨ r = 2 ∨ r = 3 ∨ r = 4 ∨ r = 5 ∨ r = 6 ∨ r = 7 := by omega
  refine ww_iload_n (i := 2) dX7_barsBy_0 rfl rfl ?_
  rcases hr with rfl | rfl | rfl | rfl | rfl | rfl | rfl
  · rw [show ww_b (q_bars (q_S M x ar) n p 1) = ww_b (q_empty (q_S M x ar) n p) from ww_b_cg q_bars_1]
    refine ww_tableIn (off := 39) (tgt := 40) dX7_barsBy_1 (by decide) (by decide) rfl (by decide) ?_
    refine ww_aload_n (i := 0) dX7_barsBy_40 rfl rfl ?_
    refine ww_iload_n (i := 1) dX7_barsBy_41 rfl rfl ?_
    refine ww_callV (κ := 8) (r := (RX7, TX7, 33)) wk_X7_171 dX7_barsBy_42 (m_hasEmpty hM hn h6 hp) rfl rfl (show ww_is _ _ 8 from hM.1).1 (show ww_is _ _ 8 from hM.1).2 rfl rfl (by omega) (by omega) (by omega) (by first | exact Nat.le_of_ble_eq_true rfl | (simp [ww_rf_cat, Value.category])) rfl (fun E M9 h9 => h9.elim) (fun v9 M9 h9 => ?_)
    obtain ⟨rfl, rfl⟩ := h9
    exact ww_ireturn dX7_barsBy_45 rfl (by first | rfl | exact ww_b_nar) ⟨rfl, rfl⟩
  · rw [show ww_b (q_bars (q_S M x ar) n p 2) = ww_b (q_S M x ar 9 p = 1) from ww_b_cg q_bars_2, ← ww_b_of (b9 p)]
    refine ww_tableIn (off := 45) (tgt := 46) dX7_barsBy_1 (by decide) (by decide) rfl (by decide) ?_
    refine ww_aload_n (i := 0) dX7_barsBy_46 rfl rfl ?_
    refine ww_getR (f := 329) wf_X7_31 dX7_barsBy_47 rfl rfl hM.1.1 hM.1.2 (hM.2.1 9 rfl) ?_
    refine ww_iload_n (i := 1) dX7_barsBy_50 rfl rfl ?_
    refine ww_mzld (k := 9) hM dX7_barsBy_51 rfl rfl rfl (show _ < 60 by omega) ?_
    -- at 52, locals [0, 1, 2]
    refine ww_ireturn dX7_barsBy_52 rfl ?_ ⟨rfl, rfl⟩
    show narrow .boolean (.int (q_S M x ar 9 p)) = .int (q_S M x ar 9 p)
    rw [ww_b_of (b9 p)]; exact ww_b_nar
  · rw [show ww_b (q_bars (q_S M x ar) n p 3) = ww_b (q_S M x ar 10 p = 1) from ww_b_cg q_bars_3, ← ww_b_of (b10 p)]
    refine ww_tableIn (off := 52) (tgt := 53) dX7_barsBy_1 (by decide) (by decide) rfl (by decide) ?_
    refine ww_aload_n (i := 0) dX7_barsBy_53 rfl rfl ?_
    refine ww_getR (f := 330) wf_X7_35 dX7_barsBy_54 rfl rfl hM.1.1 hM.1.2 (hM.2.1 10 rfl) ?_
    refine ww_iload_n (i := 1) dX7_barsBy_57 rfl rfl ?_
    refine ww_mzld (k := 10) hM dX7_barsBy_58 rfl rfl rfl (show _ < 60 by omega) ?_
    -- at 59, locals [0, 1, 2]
    refine ww_ireturn dX7_barsBy_59 rfl ?_ ⟨rfl, rfl⟩
    show narrow .boolean (.int (q_S M x ar 10 p)) = .int (q_S M x ar 10 p)
    rw [ww_b_of (b10 p)]; exact ww_b_nar
  · rw [show ww_b (q_bars (q_S M x ar) n p 4) = ww_b (q_life (q_S M x ar) p) from ww_b_cg q_bars_4]
    refine ww_tableIn (off := 59) (tgt := 60) dX7_barsBy_1 (by decide) (by decide) rfl (by decide) ?_
    by_cases h1 : 0 < q_S M x ar 20 (q_kd (q_S M x ar) p)
    · have h1' : ¬ q_S M x ar 20 (q_kd (q_S M x ar) p) ≤ 0 := by rw [ww_le']; rw [ww_lt] at h1; omega
      by_cases h2 : q_S M x ar 20 (q_kd (q_S M x ar) p) < q_S M x ar 6 p
      · have h2' : ¬ q_S M x ar 6 p ≤ q_S M x ar 20 (q_kd (q_S M x ar) p) := by rw [ww_le']; rw [ww_lt] at h2; omega
        have hq : q_life (q_S M x ar) p := ⟨h1, h2⟩
        rw [ww_b_t hq]
        refine ww_aload_n (i := 0) dX7_barsBy_60 rfl rfl ?_
        refine ww_getR (f := 340) wf_X7_65 dX7_barsBy_61 rfl rfl hM.1.1 hM.1.2 (hM.2.1 20 rfl) ?_
        refine ww_aload_n (i := 0) dX7_barsBy_64 rfl rfl ?_
        refine ww_getR (f := 322) wf_X7_7 dX7_barsBy_65 rfl rfl hM.1.1 hM.1.2 (hM.2.1 2 rfl) ?_
        refine ww_iload_n (i := 1) dX7_barsBy_68 rfl rfl ?_
        refine ww_mald (k := 2) hM dX7_barsBy_69 rfl rfl rfl (show _ < 60 by omega) ?_
        refine ww_mald (k := 20) hM dX7_barsBy_70 rfl rfl e (show _ < 5 by omega) ?_
        refine ww_if_le_f (tgt := 98) dX7_barsBy_71 (by decide) h1' ?_
        refine ww_aload_n (i := 0) dX7_barsBy_74 rfl rfl ?_
        refine ww_getR (f := 326) wf_X7_22 dX7_barsBy_75 rfl rfl hM.1.1 hM.1.2 (hM.2.1 6 rfl) ?_
        refine ww_iload_n (i := 1) dX7_barsBy_78 rfl rfl ?_
        refine ww_mald (k := 6) hM dX7_barsBy_79 rfl rfl rfl (show _ < 60 by omega) ?_
        refine ww_aload_n (i := 0) dX7_barsBy_80 rfl rfl ?_
        refine ww_getR (f := 340) wf_X7_65 dX7_barsBy_81 rfl rfl hM.1.1 hM.1.2 (hM.2.1 20 rfl) ?_
        refine ww_aload_n (i := 0) dX7_barsBy_84 rfl rfl ?_
        refine ww_getR (f := 322) wf_X7_7 dX7_barsBy_85 rfl rfl hM.1.1 hM.1.2 (hM.2.1 2 rfl) ?_
        refine ww_iload_n (i := 1) dX7_barsBy_88 rfl rfl ?_
        refine ww_mald (k := 2) hM dX7_barsBy_89 rfl rfl rfl (show _ < 60 by omega) ?_
        refine ww_mald (k := 20) hM dX7_barsBy_90 rfl rfl e (show _ < 5 by omega) ?_
        refine ww_icmp_le_f (tgt := 98) dX7_barsBy_91 (by decide) h2' ?_
        refine ww_iconst (v := 1) dX7_barsBy_94 (by decide) ?_
        refine ww_goto (tgt := 99) dX7_barsBy_95 (by decide) ?_
        exact ww_ireturn dX7_barsBy_99 rfl (by first | rfl | exact ww_b_nar) ⟨rfl, rfl⟩
      · have h2' : q_S M x ar 6 p ≤ q_S M x ar 20 (q_kd (q_S M x ar) p) := by rw [ww_le']; rw [ww_lt] at h2; omega
        have hq : ¬ q_life (q_S M x ar) p := fun z => h2 z.2
        rw [ww_b_f hq]
        refine ww_aload_n (i := 0) dX7_barsBy_60 rfl rfl ?_
        refine ww_getR (f := 340) wf_X7_65 dX7_barsBy_61 rfl rfl hM.1.1 hM.1.2 (hM.2.1 20 rfl) ?_
        refine ww_aload_n (i := 0) dX7_barsBy_64 rfl rfl ?_
        refine ww_getR (f := 322) wf_X7_7 dX7_barsBy_65 rfl rfl hM.1.1 hM.1.2 (hM.2.1 2 rfl) ?_
        refine ww_iload_n (i := 1) dX7_barsBy_68 rfl rfl ?_
        refine ww_mald (k := 2) hM dX7_barsBy_69 rfl rfl rfl (show _ < 60 by omega) ?_
        refine ww_mald (k := 20) hM dX7_barsBy_70 rfl rfl e (show _ < 5 by omega) ?_
        refine ww_if_le_f (tgt := 98) dX7_barsBy_71 (by decide) h1' ?_
        refine ww_aload_n (i := 0) dX7_barsBy_74 rfl rfl ?_
        refine ww_getR (f := 326) wf_X7_22 dX7_barsBy_75 rfl rfl hM.1.1 hM.1.2 (hM.2.1 6 rfl) ?_
        refine ww_iload_n (i := 1) dX7_barsBy_78 rfl rfl ?_
        refine ww_mald (k := 6) hM dX7_barsBy_79 rfl rfl rfl (show _ < 60 by omega) ?_
        refine ww_aload_n (i := 0) dX7_barsBy_80 rfl rfl ?_
        refine ww_getR (f := 340) wf_X7_65 dX7_barsBy_81 rfl rfl hM.1.1 hM.1.2 (hM.2.1 20 rfl) ?_
        refine ww_aload_n (i := 0) dX7_barsBy_84 rfl rfl ?_
        refine ww_getR (f := 322) wf_X7_7 dX7_barsBy_85 rfl rfl hM.1.1 hM.1.2 (hM.2.1 2 rfl) ?_
        refine ww_iload_n (i := 1) dX7_barsBy_88 rfl rfl ?_
        refine ww_mald (k := 2) hM dX7_barsBy_89 rfl rfl rfl (show _ < 60 by omega) ?_
        refine ww_mald (k := 20) hM dX7_barsBy_90 rfl rfl e (show _ < 5 by omega) ?_
        refine ww_icmp_le_t (tgt := 98) dX7_barsBy_91 (by decide) h2' ?_
        refine ww_iconst (v := 0) dX7_barsBy_98 (by decide) ?_
        exact ww_ireturn dX7_barsBy_99 rfl (by first | rfl | exact ww_b_nar) ⟨rfl, rfl⟩
    · have h1' : q_S M x ar 20 (q_kd (q_S M x ar) p) ≤ 0 := by rw [ww_le']; rw [ww_lt] at h1; omega
      have hq : ¬ q_life (q_S M x ar) p := fun z => h1 z.1
      rw [ww_b_f hq]
      refine ww_aload_n (i := 0) dX7_barsBy_60 rfl rfl ?_
      refine ww_getR (f := 340) wf_X7_65 dX7_barsBy_61 rfl rfl hM.1.1 hM.1.2 (hM.2.1 20 rfl) ?_
      refine ww_aload_n (i := 0) dX7_barsBy_64 rfl rfl ?_
      refine ww_getR (f := 322) wf_X7_7 dX7_barsBy_65 rfl rfl hM.1.1 hM.1.2 (hM.2.1 2 rfl) ?_
      refine ww_iload_n (i := 1) dX7_barsBy_68 rfl rfl ?_
      refine ww_mald (k := 2) hM dX7_barsBy_69 rfl rfl rfl (show _ < 60 by omega) ?_
      refine ww_mald (k := 20) hM dX7_barsBy_70 rfl rfl e (show _ < 5 by omega) ?_
      refine ww_if_le_t (tgt := 98) dX7_barsBy_71 (by decide) h1' ?_
      refine ww_iconst (v := 0) dX7_barsBy_98 (by decide) ?_
      exact ww_ireturn dX7_barsBy_99 rfl (by first | rfl | exact ww_b_nar) ⟨rfl, rfl⟩
  · rw [show ww_b (q_bars (q_S M x ar) n p 5) = ww_b (q_worn (q_S M x ar) p) from ww_b_cg q_bars_5]
    refine ww_tableIn (off := 99) (tgt := 100) dX7_barsBy_1 (by decide) (by decide) rfl (by decide) ?_
    refine ww_aload_n (i := 0) dX7_barsBy_100 rfl rfl ?_
    refine ww_iload_n (i := 1) dX7_barsBy_101 rfl rfl ?_
    refine ww_callV (κ := 8) (r := (RX7, TX7, 33)) wk_X7_174 dX7_barsBy_102 (m_isWorn hM h6 hp) rfl rfl (show ww_is _ _ 8 from hM.1).1 (show ww_is _ _ 8 from hM.1).2 rfl rfl (by omega) (by omega) (by omega) (by first | exact Nat.le_of_ble_eq_true rfl | (simp [ww_rf_cat, Value.category])) rfl (fun E M9 h9 => h9.elim) (fun v9 M9 h9 => ?_)
    obtain ⟨rfl, rfl⟩ := h9
    exact ww_ireturn dX7_barsBy_105 rfl (by first | rfl | exact ww_b_nar) ⟨rfl, rfl⟩
  · rw [show ww_b (q_bars (q_S M x ar) n p 6) = ww_b (q_apart (q_S M x ar) n p) from ww_b_cg q_bars_6]
    refine ww_tableIn (off := 105) (tgt := 106) dX7_barsBy_1 (by decide) (by decide) rfl (by decide) ?_
    generalize hv : q_hi (q_S M x ar) (nI p) n - q_lo (q_S M x ar) (nI p) n = v
    have hap : ww_C g wy_X7_apartIn 1 0 0 [.ref x, .int (nI p)] M (ww_ret (some (.int v)) M) ww_no := by rw [← hv]; exact m_apartIn hM hg hn h6 (nI p)
    have hqa : q_apart (q_S M x ar) n p ↔ (q_S M x ar 2 p = 2 ∧ 20 < v) ∨ (q_S M x ar 2 p = 1 ∧ 60 < v) := by rw [← hv]; exact Iff.rfl
    rw [ww_b_cg hqa]
    by_cases h1 : q_S M x ar 2 p = 2
    · by_cases h2 : 20 < v
      · rw [ww_b_t (Or.inl ⟨h1, h2⟩)]
        refine ww_aload_n (i := 0) dX7_barsBy_106 rfl rfl ?_
        refine ww_getR (f := 322) wf_X7_7 dX7_barsBy_107 rfl rfl hM.1.1 hM.1.2 (hM.2.1 2 rfl) ?_
        refine ww_iload_n (i := 1) dX7_barsBy_110 rfl rfl ?_
        refine ww_mald (k := 2) hM dX7_barsBy_111 rfl rfl rfl (show _ < 60 by omega) ?_
        refine ww_iconst (v := 2) dX7_barsBy_112 (by decide) ?_
        refine ww_icmp_ne_f (tgt := 126) dX7_barsBy_113 (by decide) h1 ?_
        refine ww_aload_n (i := 0) dX7_barsBy_116 rfl rfl ?_
        refine ww_iload_n (i := 1) dX7_barsBy_117 rfl rfl ?_
        refine ww_callV (κ := 8) (r := (RX7, TX7, 33)) wk_X7_177 dX7_barsBy_118 (hap) rfl rfl (show ww_is _ _ 8 from hM.1).1 (show ww_is _ _ 8 from hM.1).2 rfl rfl (by omega) (by omega) (by omega) (by first | exact Nat.le_of_ble_eq_true rfl | (simp [ww_rf_cat, Value.category])) rfl (fun E M9 h9 => h9.elim) (fun v9 M9 h9 => ?_)
        obtain ⟨rfl, rfl⟩ := h9
        refine ww_bipush (v := 20) dX7_barsBy_121 (by decide) ?_
        refine ww_icmp_gt_t (tgt := 146) dX7_barsBy_123 (by decide) h2 ?_
        refine ww_iconst (v := 1) dX7_barsBy_146 (by decide) ?_
        refine ww_goto (tgt := 151) dX7_barsBy_147 (by decide) ?_
        exact ww_ireturn dX7_barsBy_151 rfl (by first | rfl | exact ww_b_nar) ⟨rfl, rfl⟩
      · have h3 : ¬ q_S M x ar 2 p = 1 := by rw [h1]; decide
        rw [ww_b_f (fun z => z.elim (fun y => h2 y.2) (fun y => h3 y.1))]
        refine ww_aload_n (i := 0) dX7_barsBy_106 rfl rfl ?_
        refine ww_getR (f := 322) wf_X7_7 dX7_barsBy_107 rfl rfl hM.1.1 hM.1.2 (hM.2.1 2 rfl) ?_
        refine ww_iload_n (i := 1) dX7_barsBy_110 rfl rfl ?_
        refine ww_mald (k := 2) hM dX7_barsBy_111 rfl rfl rfl (show _ < 60 by omega) ?_
        refine ww_iconst (v := 2) dX7_barsBy_112 (by decide) ?_
        refine ww_icmp_ne_f (tgt := 126) dX7_barsBy_113 (by decide) h1 ?_
        refine ww_aload_n (i := 0) dX7_barsBy_116 rfl rfl ?_
        refine ww_iload_n (i := 1) dX7_barsBy_117 rfl rfl ?_
        refine ww_callV (κ := 8) (r := (RX7, TX7, 33)) wk_X7_177 dX7_barsBy_118 (hap) rfl rfl (show ww_is _ _ 8 from hM.1).1 (show ww_is _ _ 8 from hM.1).2 rfl rfl (by omega) (by omega) (by omega) (by first | exact Nat.le_of_ble_eq_true rfl | (simp [ww_rf_cat, Value.category])) rfl (fun E M9 h9 => h9.elim) (fun v9 M9 h9 => ?_)
        obtain ⟨rfl, rfl⟩ := h9
        refine ww_bipush (v := 20) dX7_barsBy_121 (by decide) ?_
        refine ww_icmp_gt_f (tgt := 146) dX7_barsBy_123 (by decide) h2 ?_
        refine ww_aload_n (i := 0) dX7_barsBy_126 rfl rfl ?_
        refine ww_getR (f := 322) wf_X7_7 dX7_barsBy_127 rfl rfl hM.1.1 hM.1.2 (hM.2.1 2 rfl) ?_
        refine ww_iload_n (i := 1) dX7_barsBy_130 rfl rfl ?_
        refine ww_mald (k := 2) hM dX7_barsBy_131 rfl rfl rfl (show _ < 60 by omega) ?_
        refine ww_iconst (v := 1) dX7_barsBy_132 (by decide) ?_
        refine ww_icmp_ne_t (tgt := 150) dX7_barsBy_133 (by decide) h3 ?_
        refine ww_iconst (v := 0) dX7_barsBy_150 (by decide) ?_
        exact ww_ireturn dX7_barsBy_151 rfl (by first | rfl | exact ww_b_nar) ⟨rfl, rfl⟩
    · by_cases h3 : q_S M x ar 2 p = 1
      · by_cases h2 : 60 < v
        · have h2' : ¬ v ≤ 60 := by rw [ww_le']; rw [ww_lt] at h2; omega
          rw [ww_b_t (Or.inr ⟨h3, h2⟩)]
          refine ww_aload_n (i := 0) dX7_barsBy_106 rfl rfl ?_
          refine ww_getR (f := 322) wf_X7_7 dX7_barsBy_107 rfl rfl hM.1.1 hM.1.2 (hM.2.1 2 rfl) ?_
          refine ww_iload_n (i := 1) dX7_barsBy_110 rfl rfl ?_
          refine ww_mald (k := 2) hM dX7_barsBy_111 rfl rfl rfl (show _ < 60 by omega) ?_
          refine ww_iconst (v := 2) dX7_barsBy_112 (by decide) ?_
          refine ww_icmp_ne_t (tgt := 126) dX7_barsBy_113 (by decide) h1 ?_
          refine ww_aload_n (i := 0) dX7_barsBy_126 rfl rfl ?_
          refine ww_getR (f := 322) wf_X7_7 dX7_barsBy_127 rfl rfl hM.1.1 hM.1.2 (hM.2.1 2 rfl) ?_
          refine ww_iload_n (i := 1) dX7_barsBy_130 rfl rfl ?_
          refine ww_mald (k := 2) hM dX7_barsBy_131 rfl rfl rfl (show _ < 60 by omega) ?_
          refine ww_iconst (v := 1) dX7_barsBy_132 (by decide) ?_
          refine ww_icmp_ne_f (tgt := 150) dX7_barsBy_133 (by decide) h3 ?_
          refine ww_aload_n (i := 0) dX7_barsBy_136 rfl rfl ?_
          refine ww_iload_n (i := 1) dX7_barsBy_137 rfl rfl ?_
          refine ww_callV (κ := 8) (r := (RX7, TX7, 33)) wk_X7_177 dX7_barsBy_138 (hap) rfl rfl (show ww_is _ _ 8 from hM.1).1 (show ww_is _ _ 8 from hM.1).2 rfl rfl (by omega) (by omega) (by omega) (by first | exact Nat.le_of_ble_eq_true rfl | (simp [ww_rf_cat, Value.category])) rfl (fun E M9 h9 => h9.elim) (fun v9 M9 h9 => ?_)
          obtain ⟨rfl, rfl⟩ := h9
          refine ww_bipush (v := 60) dX7_barsBy_141 (by decide) ?_
          refine ww_icmp_le_f (tgt := 150) dX7_barsBy_143 (by decide) h2' ?_
          refine ww_iconst (v := 1) dX7_barsBy_146 (by decide) ?_
          refine ww_goto (tgt := 151) dX7_barsBy_147 (by decide) ?_
          exact ww_ireturn dX7_barsBy_151 rfl (by first | rfl | exact ww_b_nar) ⟨rfl, rfl⟩
        · have h2' : v ≤ 60 := by rw [ww_le']; rw [ww_lt] at h2; omega
          rw [ww_b_f (fun z => z.elim (fun y => h1 y.1) (fun y => h2 y.2))]
          refine ww_aload_n (i := 0) dX7_barsBy_106 rfl rfl ?_
          refine ww_getR (f := 322) wf_X7_7 dX7_barsBy_107 rfl rfl hM.1.1 hM.1.2 (hM.2.1 2 rfl) ?_
          refine ww_iload_n (i := 1) dX7_barsBy_110 rfl rfl ?_
          refine ww_mald (k := 2) hM dX7_barsBy_111 rfl rfl rfl (show _ < 60 by omega) ?_
          refine ww_iconst (v := 2) dX7_barsBy_112 (by decide) ?_
          refine ww_icmp_ne_t (tgt := 126) dX7_barsBy_113 (by decide) h1 ?_
          refine ww_aload_n (i := 0) dX7_barsBy_126 rfl rfl ?_
          refine ww_getR (f := 322) wf_X7_7 dX7_barsBy_127 rfl rfl hM.1.1 hM.1.2 (hM.2.1 2 rfl) ?_
          refine ww_iload_n (i := 1) dX7_barsBy_130 rfl rfl ?_
          refine ww_mald (k := 2) hM dX7_barsBy_131 rfl rfl rfl (show _ < 60 by omega) ?_
          refine ww_iconst (v := 1) dX7_barsBy_132 (by decide) ?_
          refine ww_icmp_ne_f (tgt := 150) dX7_barsBy_133 (by decide) h3 ?_
          refine ww_aload_n (i := 0) dX7_barsBy_136 rfl rfl ?_
          refine ww_iload_n (i := 1) dX7_barsBy_137 rfl rfl ?_
          refine ww_callV (κ := 8) (r := (RX7, TX7, 33)) wk_X7_177 dX7_barsBy_138 (hap) rfl rfl (show ww_is _ _ 8 from hM.1).1 (show ww_is _ _ 8 from hM.1).2 rfl rfl (by omega) (by omega) (by omega) (by first | exact Nat.le_of_ble_eq_true rfl | (simp [ww_rf_cat, Value.category])) rfl (fun E M9 h9 => h9.elim) (fun v9 M9 h9 => ?_)
          obtain ⟨rfl, rfl⟩ := h9
          refine ww_bipush (v := 60) dX7_barsBy_141 (by decide) ?_
          refine ww_icmp_le_t (tgt := 150) dX7_barsBy_143 (by decide) h2' ?_
          refine ww_iconst (v := 0) dX7_barsBy_150 (by decide) ?_
          exact ww_ireturn dX7_barsBy_151 rfl (by first | rfl | exact ww_b_nar) ⟨rfl, rfl⟩
      · rw [ww_b_f (fun z => z.elim (fun y => h1 y.1) (fun y => h3 y.1))]
        refine ww_aload_n (i := 0) dX7_barsBy_106 rfl rfl ?_
        refine ww_getR (f := 322) wf_X7_7 dX7_barsBy_107 rfl rfl hM.1.1 hM.1.2 (hM.2.1 2 rfl) ?_
        refine ww_iload_n (i := 1) dX7_barsBy_110 rfl rfl ?_
        refine ww_mald (k := 2) hM dX7_barsBy_111 rfl rfl rfl (show _ < 60 by omega) ?_
        refine ww_iconst (v := 2) dX7_barsBy_112 (by decide) ?_
        refine ww_icmp_ne_t (tgt := 126) dX7_barsBy_113 (by decide) h1 ?_
        refine ww_aload_n (i := 0) dX7_barsBy_126 rfl rfl ?_
        refine ww_getR (f := 322) wf_X7_7 dX7_barsBy_127 rfl rfl hM.1.1 hM.1.2 (hM.2.1 2 rfl) ?_
        refine ww_iload_n (i := 1) dX7_barsBy_130 rfl rfl ?_
        refine ww_mald (k := 2) hM dX7_barsBy_131 rfl rfl rfl (show _ < 60 by omega) ?_
        refine ww_iconst (v := 1) dX7_barsBy_132 (by decide) ?_
        refine ww_icmp_ne_t (tgt := 150) dX7_barsBy_133 (by decide) h3 ?_
        refine ww_iconst (v := 0) dX7_barsBy_150 (by decide) ?_
        exact ww_ireturn dX7_barsBy_151 rfl (by first | rfl | exact ww_b_nar) ⟨rfl, rfl⟩
  · rw [show ww_b (q_bars (q_S M x ar) n p 7) = ww_b (q_due (q_S M x ar) p) from ww_b_cg q_bars_7]
    refine ww_tableOut (tgt := 152) dX7_barsBy_1 (Or.inr (by decide)) (by decide) ?_
    refine ww_aload_n (i := 0) dX7_barsBy_152 rfl rfl ?_
    refine ww_iload_n (i := 1) dX7_barsBy_153 rfl rfl ?_
    refine ww_callV (κ := 8) (r := (RX7, TX7, 33)) wk_X7_180 dX7_barsBy_154 (m_isDue hM hg h6 hp) rfl rfl (show ww_is _ _ 8 from hM.1).1 (show ww_is _ _ 8 from hM.1).2 rfl rfl (by omega) (by omega) (by omega) (by first | exact Nat.le_of_ble_eq_true rfl | (simp [ww_rf_cat, Value.category])) rfl (fun E M9 h9 => h9.elim) (fun v9 M9 h9 => ?_)
    obtain ⟨rfl, rfl⟩ := h9
    exact ww_ireturn dX7_barsBy_157 rfl (by first | rfl | exact ww_b_nar) ⟨rfl, rfl⟩
/-- the part that is first so, of the tree of t -/
noncomputable def q_low (S : Nat → Nat → Int32) (n t r : Nat) : Option Nat := q_ff (fun p => q_hd (S 5) 5 p = t ∧ q_bars S n p r) n 0
noncomputable def q_bar (S : Nat → Nat → Int32) (n t : Nat) : Nat → Nat → Option (Nat × Nat)
  | 0, _ => none
  | m + 1, r => match q_low S n t r with
    | some p => some (r, p)
    | none => q_bar S n t m (r + 1)
def q_code : Option (Nat × Nat) → Nat
  | none => 0
  | some (r, p) => 100 * r + p
set_option maxRecDepth 20000 in
set_option maxHeartbeats 4000000 in
theorem m_barOf (hM : ww_mo x ar M.1 M.2.2.1) (hg : q_gh n (q_S M x ar 2) (q_S M x ar 5)) (hn : ww_I M 321 x = nI n) (h6 : n ≤ 60) (b9 : q_bool (q_S M x ar) 9) (b10 : q_bool (q_S M x ar) 10) {t : Nat} (ht : t < n) (ht0 : q_S M x ar 5 t < 0) : ww_C g wy_X7_barOf 4 0 0 [.ref x, .int (nI t)] M (ww_ret (some (.int (nI (q_code (q_bar (q_S M x ar) n t 7 1))))) M) ww_no := by
  refine ww_ent (by decide +kernel) (Nat.le_of_ble_eq_true rfl) ⟨rfl, rfl, trivial⟩ ?_
  generalize hRes : ww_ret (some (Value.int (nI (q_code (q_bar (q_S M x ar) n t 7 1))))) M = Res
  have outer : ∀ (k r : Nat), r + k = 8 → 1 ≤ r → q_bar (q_S M x ar) n t 7 1 = q_bar (q_S M x ar) n t k r → ww_A g wy_X7_barOf 4 0 0 M 2 [(0, .ref x), (1, .int (nI t)), (2, .int (nI r))] [] Res ww_no := by
    intro k
    induction k with
    | zero =>
      intro r hr h1 hq
      have e : r = 8 := by omega
      subst e
      subst hRes
      rw [hq]
      refine ww_iload_n (i := 2) dX7_barOf_2 rfl rfl ?_
      refine ww_bipush (v := 8) dX7_barOf_3 (by decide) ?_
      refine ww_icmp_ge_t (tgt := 55) dX7_barOf_5 (by decide) (by decide) ?_
      refine ww_iconst (v := 0) dX7_barOf_55 (by decide) ?_
      exact ww_ireturn dX7_barOf_56 rfl (by first | rfl | exact ww_b_nar) ⟨rfl, rfl⟩
    | succ k ihk =>
      intro r hr h1 hq
      have inner : ∀ (m i : Nat) (w : Option Nat), i + m = n → q_low (q_S M x ar) n t r = q_ff (fun p => q_hd (q_S M x ar 5) 5 p = t ∧ q_bars (q_S M x ar) n p r) m i → ww_A g wy_X7_barOf 4 0 0 M 10 [(0, .ref x), (1, .int (nI t)), (2, .int (nI r)), (3, .int (nI i))] [] Res ww_no := by
        intro m
        induction m with
        | zero =>
          intro i _ hi hl
          have e : i = n := by omega
          subst e
          have hl' : q_low (q_S M x ar) i t r = none := hl
          have hq2 : q_bar (q_S M x ar) i t (k + 1) r = q_bar (q_S M x ar) i t k (r + 1) := by
            show (match q_low (q_S M x ar) i t r with | some p => some (r, p) | none => q_bar (q_S M x ar) i t k (r + 1)) = _
            rw [hl']
          have ih' := ihk (r + 1) (by omega) (by omega) (hq.trans hq2)
          rw [← nI_1] at ih'
          refine ww_iload_n (i := 3) dX7_barOf_10 rfl rfl ?_
          refine ww_aload_n (i := 0) dX7_barOf_11 rfl rfl ?_
          refine ww_getI (f := 321) wf_X7_102 dX7_barOf_12 rfl rfl hM.1.1 hM.1.2 ?_
          refine ww_icmp_ge_t (tgt := 49) dX7_barOf_15 (by decide) (by rw [hn]; exact Int32.le_refl _) ?_
          refine ww_iinc (i := 2) (v := _ + 1) (lv2 := [(0, _), (1, _), (2, _), (3, _)]) dX7_barOf_49 rfl (by rfl) (Nat.le_of_ble_eq_true rfl) rfl ?_
          refine ww_goto (tgt := 2) dX7_barOf_52 (by decide) ?_
          -- at 2, locals [0, 1, 2, 3]
          exact ww_subk ih' ⟨rfl, rfl, rfl, trivial⟩
        | succ m ih =>
          intro i w hi hl
          have hlt : ¬ ww_I M 321 x ≤ nI i := by rw [hn]; exact nI_ge (by omega) (by omega)
          by_cases hp : q_hd (q_S M x ar 5) 5 i = t ∧ q_bars (q_S M x ar) n i r
          · rw [q_ff_t hp] at hl
            have hq2 : q_bar (q_S M x ar) n t (k + 1) r = some (r, i) := by
              show (match q_low (q_S M x ar) n t r with | some p => some (r, p) | none => q_bar (q_S M x ar) n t k (r + 1)) = _
              rw [hl]
            have c1 := m_isIn (g := g) hM hg h6 (p := i) (by omega) ht ht0
            rw [show ww_b (q_hd (ww_X M (ar 5)) 5 i = t) = 1 from ww_b_t hp.1] at c1
            have c2 := m_barsBy (g := g) hM hg hn h6 b9 b10 (p := i) (r := r) (by omega) h1 (by omega)
            rw [ww_b_t hp.2] at c2
            subst hRes
            rw [hq, hq2]
            have hfin : (100 : Int32) * nI r + nI i = nI (q_code (some (r, i))) := by
              show nI 100 * nI r + nI i = nI (100 * r + i)
              rw [pk_mul, nI_add]
            refine ww_iload_n (i := 3) dX7_barOf_10 rfl rfl ?_
            refine ww_aload_n (i := 0) dX7_barOf_11 rfl rfl ?_
            refine ww_getI (f := 321) wf_X7_102 dX7_barOf_12 rfl rfl hM.1.1 hM.1.2 ?_
            refine ww_icmp_ge_f (tgt := 49) dX7_barOf_15 (by decide) hlt ?_
            refine ww_aload_n (i := 0) dX7_barOf_18 rfl rfl ?_
            refine ww_iload_n (i := 3) dX7_barOf_19 rfl rfl ?_
            refine ww_iload_n (i := 1) dX7_barOf_20 rfl rfl ?_
            refine ww_callV (κ := 8) (r := (RX7, TX7, 33)) wk_X7_151 dX7_barOf_21 (c1) rfl rfl (show ww_is _ _ 8 from hM.1).1 (show ww_is _ _ 8 from hM.1).2 rfl rfl (by omega) (by omega) (by omega) (by first | exact Nat.le_of_ble_eq_true rfl | (simp [ww_rf_cat, Value.category])) rfl (fun E M9 h9 => h9.elim) (fun v9 M9 h9 => ?_)
            obtain ⟨rfl, rfl⟩ := h9
            refine ww_if_eq_f (tgt := 43) dX7_barOf_24 (by decide) (by decide) ?_
            refine ww_aload_n (i := 0) dX7_barOf_27 rfl rfl ?_
            refine ww_iload_n (i := 3) dX7_barOf_28 rfl rfl ?_
            refine ww_iload_n (i := 2) dX7_barOf_29 rfl rfl ?_
            refine ww_callV (κ := 8) (r := (RX7, TX7, 33)) wk_X7_183 dX7_barOf_30 (c2) rfl rfl (show ww_is _ _ 8 from hM.1).1 (show ww_is _ _ 8 from hM.1).2 rfl rfl (by omega) (by omega) (by omega) (by first | exact Nat.le_of_ble_eq_true rfl | (simp [ww_rf_cat, Value.category])) rfl (fun E M9 h9 => h9.elim) (fun v9 M9 h9 => ?_)
            obtain ⟨rfl, rfl⟩ := h9
            refine ww_if_eq_f (tgt := 43) dX7_barOf_33 (by decide) (by decide) ?_
            refine ww_bipush (v := 100) dX7_barOf_36 (by decide) ?_
            refine ww_iload_n (i := 2) dX7_barOf_38 rfl rfl ?_
            refine ww_imul dX7_barOf_39 ?_
            refine ww_iload_n (i := 3) dX7_barOf_40 rfl rfl ?_
            refine ww_iadd dX7_barOf_41 ?_
            exact ww_ireturn dX7_barOf_42 rfl (by first | rfl | exact ww_b_nar) ⟨by rw [hfin], rfl⟩
          · rw [q_ff_f hp] at hl
            have ih' := ih (i + 1) w (by omega) hl
            rw [← nI_1] at ih'
            have c1 := m_isIn (g := g) hM hg h6 (p := i) (by omega) ht ht0
            by_cases h5 : q_hd (q_S M x ar 5) 5 i = t
            · rw [show ww_b (q_hd (ww_X M (ar 5)) 5 i = t) = 1 from ww_b_t h5] at c1
              have c2 := m_barsBy (g := g) hM hg hn h6 b9 b10 (p := i) (r := r) (by omega) h1 (by omega)
              rw [ww_b_f (fun z => hp ⟨h5, z⟩)] at c2
              refine ww_iload_n (i := 3) dX7_barOf_10 rfl rfl ?_
              refine ww_aload_n (i := 0) dX7_barOf_11 rfl rfl ?_
              refine ww_getI (f := 321) wf_X7_102 dX7_barOf_12 rfl rfl hM.1.1 hM.1.2 ?_
              refine ww_icmp_ge_f (tgt := 49) dX7_barOf_15 (by decide) hlt ?_
              refine ww_aload_n (i := 0) dX7_barOf_18 rfl rfl ?_
              refine ww_iload_n (i := 3) dX7_barOf_19 rfl rfl ?_
              refine ww_iload_n (i := 1) dX7_barOf_20 rfl rfl ?_
              refine ww_callV (κ := 8) (r := (RX7, TX7, 33)) wk_X7_151 dX7_barOf_21 (c1) rfl rfl (show ww_is _ _ 8 from hM.1).1 (show ww_is _ _ 8 from hM.1).2 rfl rfl (by omega) (by omega) (by omega) (by first | exact Nat.le_of_ble_eq_true rfl | (simp [ww_rf_cat, Value.category])) rfl (fun E M9 h9 => h9.elim) (fun v9 M9 h9 => ?_)
              obtain ⟨rfl, rfl⟩ := h9
              refine ww_if_eq_f (tgt := 43) dX7_barOf_24 (by decide) (by decide) ?_
              refine ww_aload_n (i := 0) dX7_barOf_27 rfl rfl ?_
              refine ww_iload_n (i := 3) dX7_barOf_28 rfl rfl ?_
              refine ww_iload_n (i := 2) dX7_barOf_29 rfl rfl ?_
              refine ww_callV (κ := 8) (r := (RX7, TX7, 33)) wk_X7_183 dX7_barOf_30 (c2) rfl rfl (show ww_is _ _ 8 from hM.1).1 (show ww_is _ _ 8 from hM.1).2 rfl rfl (by omega) (by omega) (by omega) (by first | exact Nat.le_of_ble_eq_true rfl | (simp [ww_rf_cat, Value.category])) rfl (fun E M9 h9 => h9.elim) (fun v9 M9 h9 => ?_)
              obtain ⟨rfl, rfl⟩ := h9
              refine ww_if_eq_t (tgt := 43) dX7_barOf_33 (by decide) (by decide) ?_
              refine ww_iinc (i := 3) (v := _ + 1) (lv2 := [(0, _), (1, _), (2, _), (3, _)]) dX7_barOf_43 rfl (by rfl) (Nat.le_of_ble_eq_true rfl) rfl ?_
              refine ww_goto (tgt := 10) dX7_barOf_46 (by decide) ?_
              -- at 10, locals [0, 1, 2, 3]
              exact ih'
            · rw [show ww_b (q_hd (ww_X M (ar 5)) 5 i = t) = 0 from ww_b_f h5] at c1
              refine ww_iload_n (i := 3) dX7_barOf_10 rfl rfl ?_
              refine ww_aload_n (i := 0) dX7_barOf_11 rfl rfl ?_
              refine ww_getI (f := 321) wf_X7_102 dX7_barOf_12 rfl rfl hM.1.1 hM.1.2 ?_
              refine ww_icmp_ge_f (tgt := 49) dX7_barOf_15 (by decide) hlt ?_
              refine ww_aload_n (i := 0) dX7_barOf_18 rfl rfl ?_
              refine ww_iload_n (i := 3) dX7_barOf_19 rfl rfl ?_
              refine ww_iload_n (i := 1) dX7_barOf_20 rfl rfl ?_
              refine ww_callV (κ := 8) (r := (RX7, TX7, 33)) wk_X7_151 dX7_barOf_21 (c1) rfl rfl (show ww_is _ _ 8 from hM.1).1 (show ww_is _ _ 8 from hM.1).2 rfl rfl (by omega) (by omega) (by omega) (by first | exact Nat.le_of_ble_eq_true rfl | (simp [ww_rf_cat, Value.category])) rfl (fun E M9 h9 => h9.elim) (fun v9 M9 h9 => ?_)
              obtain ⟨rfl, rfl⟩ := h9
              refine ww_if_eq_t (tgt := 43) dX7_barOf_24 (by decide) (by decide) ?_
              refine ww_iinc (i := 3) (v := _ + 1) (lv2 := [(0, _), (1, _), (2, _), (3, _)]) dX7_barOf_43 rfl (by rfl) (Nat.le_of_ble_eq_true rfl) rfl ?_
              refine ww_goto (tgt := 10) dX7_barOf_46 (by decide) ?_
              -- at 10, locals [0, 1, 2, 3]
              exact ih'
      refine ww_iload_n (i := 2) dX7_barOf_2 rfl rfl ?_
      refine ww_bipush (v := 8) dX7_barOf_3 (by decide) ?_
      refine ww_icmp_ge_f (tgt := 55) dX7_barOf_5 (by decide) (nI_ge (a := r) (b := 8) (by omega) (by decide)) ?_
      refine ww_iconst (v := 0) dX7_barOf_8 (by decide) ?_
      refine ww_istore_n (i := 3) (lv2 := [(0, _), (1, _), (2, _), (3, _)]) dX7_barOf_9 rfl (Nat.le_of_ble_eq_true rfl) rfl ?_
      -- at 10, locals [0, 1, 2, 3]
      exact inner n 0 none (by omega) rfl
  refine ww_iconst (v := 1) dX7_barOf_0 (by decide) ?_
  refine ww_istore_n (i := 2) (lv2 := [(0, _), (1, _), (2, _)]) dX7_barOf_1 rfl (Nat.le_of_ble_eq_true rfl) rfl ?_
  -- at 2, locals [0, 1, 2]
  exact outer 7 1 rfl (Nat.le_refl _) rfl
set_option maxRecDepth 20000 in
theorem m_movesOfPart (hM : ww_mo x ar M.1 M.2.2.1) (hw : ww_I M 343 x = nI w) (h4 : w ≤ 4000) (v : Int32) : ww_C g wy_X7_movesOfPart 1 0 0 [.ref x, .int v] M (ww_ret (some (.int (nI (q_cnt (fun k => q_S M x ar 24 k = v) w)))) M) ww_no := by
  refine ww_ent (by decide +kernel) (Nat.le_of_ble_eq_true rfl) ⟨rfl, rfl, trivial⟩ ?_
  generalize hP : (fun k => q_S M x ar 24 k = v) = P
  have loop : ∀ (m i : Nat), i + m = w → ww_A g wy_X7_movesOfPart 1 0 0 M 4 [(0, .ref x), (1, .int v), (2, .int (nI (q_cnt P i))), (3, .int (nI i))] [] (ww_ret (some (.int (nI (q_cnt P w)))) M) ww_no := by
    intro m
    induction m with
    | zero =>
      intro i hi
      have e : i = w := by omega
      subst e
      refine ww_iload_n (i := 3) dX7_movesOfPart_4 rfl rfl ?_
      refine ww_aload_n (i := 0) dX7_movesOfPart_5 rfl rfl ?_
      refine ww_getI (f := 343) wf_X7_118 dX7_movesOfPart_6 rfl rfl hM.1.1 hM.1.2 ?_
      refine ww_icmp_ge_t (tgt := 36) dX7_movesOfPart_9 (by decide) (by rw [hw]; exact Int32.le_refl _) ?_
      refine ww_iload_n (i := 2) dX7_movesOfPart_36 rfl rfl ?_
      exact ww_ireturn dX7_movesOfPart_37 rfl (by first | rfl | exact ww_b_nar) ⟨rfl, rfl⟩
    | succ m ih =>
      intro i hi
      have hlt : ¬ ww_I M 343 x ≤ nI i := by rw [hw]; exact nI_ge (by omega) (by omega)
      have ih' := ih (i + 1) (by omega)
      by_cases h1 : q_S M x ar 24 i = v
      · have hp : P i := by subst hP; exact h1
        rw [q_cnt_s hp, ← nI_1, ← nI_1] at ih'
        refine ww_iload_n (i := 3) dX7_movesOfPart_4 rfl rfl ?_
        refine ww_aload_n (i := 0) dX7_movesOfPart_5 rfl rfl ?_
        refine ww_getI (f := 343) wf_X7_118 dX7_movesOfPart_6 rfl rfl hM.1.1 hM.1.2 ?_
        refine ww_icmp_ge_f (tgt := 36) dX7_movesOfPart_9 (by decide) hlt ?_
        refine ww_iload_n (i := 2) dX7_movesOfPart_12 rfl rfl ?_
        refine ww_aload_n (i := 0) dX7_movesOfPart_13 rfl rfl ?_
        refine ww_getR (f := 344) wf_X7_74 dX7_movesOfPart_14 rfl rfl hM.1.1 hM.1.2 (hM.2.1 24 rfl) ?_
        refine ww_iload_n (i := 3) dX7_movesOfPart_17 rfl rfl ?_
        refine ww_mald (k := 24) hM dX7_movesOfPart_18 rfl rfl rfl (show _ < 4000 by omega) ?_
        refine ww_iload_n (i := 1) dX7_movesOfPart_19 rfl rfl ?_
        refine ww_icmp_ne_f (tgt := 27) dX7_movesOfPart_20 (by decide) h1 ?_
        refine ww_iconst (v := 1) dX7_movesOfPart_23 (by decide) ?_
        refine ww_goto (tgt := 28) dX7_movesOfPart_24 (by decide) ?_
        refine ww_iadd dX7_movesOfPart_28 ?_
        refine ww_istore_n (i := 2) (lv2 := [(0, _), (1, _), (2, _), (3, _)]) dX7_movesOfPart_29 rfl (Nat.le_of_ble_eq_true rfl) rfl ?_
        refine ww_iinc (i := 3) (v := _ + 1) (lv2 := [(0, _), (1, _), (2, _), (3, _)]) dX7_movesOfPart_30 rfl (by rfl) (Nat.le_of_ble_eq_true rfl) rfl ?_
        refine ww_goto (tgt := 4) dX7_movesOfPart_33 (by decide) ?_
        -- at 4, locals [0, 1, 2, 3]
        exact ih'
      · have hp : ¬ P i := by subst hP; exact h1
        rw [q_cnt_n hp, ← nI_1] at ih'
        refine ww_iload_n (i := 3) dX7_movesOfPart_4 rfl rfl ?_
        refine ww_aload_n (i := 0) dX7_movesOfPart_5 rfl rfl ?_
        refine ww_getI (f := 343) wf_X7_118 dX7_movesOfPart_6 rfl rfl hM.1.1 hM.1.2 ?_
        refine ww_icmp_ge_f (tgt := 36) dX7_movesOfPart_9 (by decide) hlt ?_
        refine ww_iload_n (i := 2) dX7_movesOfPart_12 rfl rfl ?_
        refine ww_aload_n (i := 0) dX7_movesOfPart_13 rfl rfl ?_
        refine ww_getR (f := 344) wf_X7_74 dX7_movesOfPart_14 rfl rfl hM.1.1 hM.1.2 (hM.2.1 24 rfl) ?_
        refine ww_iload_n (i := 3) dX7_movesOfPart_17 rfl rfl ?_
        refine ww_mald (k := 24) hM dX7_movesOfPart_18 rfl rfl rfl (show _ < 4000 by omega) ?_
        refine ww_iload_n (i := 1) dX7_movesOfPart_19 rfl rfl ?_
        refine ww_icmp_ne_t (tgt := 27) dX7_movesOfPart_20 (by decide) h1 ?_
        refine ww_iconst (v := 0) dX7_movesOfPart_27 (by decide) ?_
        refine ww_iadd dX7_movesOfPart_28 ?_
        refine ww_istore_n (i := 2) (lv2 := [(0, _), (1, _), (2, _), (3, _)]) dX7_movesOfPart_29 rfl (Nat.le_of_ble_eq_true rfl) rfl ?_
        refine ww_iinc (i := 3) (v := _ + 1) (lv2 := [(0, _), (1, _), (2, _), (3, _)]) dX7_movesOfPart_30 rfl (by rfl) (Nat.le_of_ble_eq_true rfl) rfl ?_
        refine ww_goto (tgt := 4) dX7_movesOfPart_33 (by decide) ?_
        -- at 4, locals [0, 1, 2, 3]
        rw [Int32.add_zero]
        exact ih'
  refine ww_iconst (v := 0) dX7_movesOfPart_0 (by decide) ?_
  refine ww_istore_n (i := 2) (lv2 := [(0, _), (1, _), (2, _)]) dX7_movesOfPart_1 rfl (Nat.le_of_ble_eq_true rfl) rfl ?_
  refine ww_iconst (v := 0) dX7_movesOfPart_2 (by decide) ?_
  refine ww_istore_n (i := 3) (lv2 := [(0, _), (1, _), (2, _), (3, _)]) dX7_movesOfPart_3 rfl (Nat.le_of_ble_eq_true rfl) rfl ?_
  -- at 4, locals [0, 1, 2, 3]
  exact loop w 0 (by omega)
end WWN
