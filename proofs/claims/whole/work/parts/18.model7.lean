/-! ===== the model walked over its content ===== -/
section WWP
variable {g : ww_G} {Y : ww_Yd} {d kc ks : Nat} {M M1 : ww_M} {pc : Nat} {lv : List (Nat × Value)} {st : List Value} {Q : Option Value → ww_M → Prop} {X : String → ww_M → Prop} {x : Nat} {ar : Nat → Nat} {k j : Nat} {i v : Int32} {S1 : Nat → Nat → Int32}
theorem q_us_s {S : Nat → Nat → Int32} {k i : Nat} {v : Int32} : q_us S k v k i = v := if_pos rfl
theorem q_us_n {S : Nat → Nat → Int32} {k k' i : Nat} {v : Int32} (h : k' ≠ k) : q_us S k v k' i = S k' i := if_neg h
theorem ww_pald (hM : ww_mo x ar M.1 M.2.2.1) (hu : ww_up x ar M S1 M1) (hd : decode Y.2.1 pc = .ok (.iaload, 1)) (hk : ww_mr k = true) (h9 : ww_mk k = 9) (hi : i = nI j) (hj : j < ww_ml k) (e : S1 k j = v) (kk : ww_A g Y d kc ks M1 (pc + 1) lv (.int v :: st) Q X) : ww_A g Y d kc ks M1 pc lv (.int i :: .ref (ar k) :: st) Q X := by
  refine ww_mald (ww_up_mo hM hu) hd hk h9 hi hj ?_
  rw [show ww_X M1 (ar k) j = v from ((q_S_a hk).symm.trans (congrFun (congrFun hu.2.2.2.2.2.2 k) j)).trans e]
  exact kk
theorem ww_pzld (hM : ww_mo x ar M.1 M.2.2.1) (hu : ww_up x ar M S1 M1) (hd : decode Y.2.1 pc = .ok (.baload, 1)) (hk : ww_mr k = true) (h9 : ww_mk k = 10) (hi : i = nI j) (hj : j < ww_ml k) (e : S1 k j = v) (kk : ww_A g Y d kc ks M1 (pc + 1) lv (.int v :: st) Q X) : ww_A g Y d kc ks M1 pc lv (.int i :: .ref (ar k) :: st) Q X := by
  refine ww_mzld (ww_up_mo hM hu) hd hk h9 hi hj ?_
  rw [show ww_X M1 (ar k) j = v from ((q_S_a hk).symm.trans (congrFun (congrFun hu.2.2.2.2.2.2 k) j)).trans e]
  exact kk
theorem ww_past (hM : ww_mo x ar M.1 M.2.2.1) (hu : ww_up x ar M S1 M1) (hd : decode Y.2.1 pc = .ok (.iastore, 1)) (hk : ww_mr k = true) (h9 : ww_mk k = 9) (hi : i = nI j) (hj : j < ww_ml k) (kk : ∀ M2, ww_up x ar M (ww_u2 S1 k j v) M2 → ww_A g Y d kc ks M2 (pc + 1) lv st Q X) : ww_A g Y d kc ks M1 pc lv (.int v :: .int i :: .ref (ar k) :: st) Q X :=
  ww_mast (ww_up_mo hM hu) hd hk h9 hi hj (kk _ (ww_up_sX hM hk hu))
theorem ww_pzst (hM : ww_mo x ar M.1 M.2.2.1) (hu : ww_up x ar M S1 M1) (hd : decode Y.2.1 pc = .ok (.bastore, 1)) (hk : ww_mr k = true) (h9 : ww_mk k = 10) (hi : i = nI j) (hj : j < ww_ml k) (hn : vp_nar .boolean v = v) (kk : ∀ M2, ww_up x ar M (ww_u2 S1 k j v) M2 → ww_A g Y d kc ks M2 (pc + 1) lv st Q X) : ww_A g Y d kc ks M1 pc lv (.int v :: .int i :: .ref (ar k) :: st) Q X :=
  ww_mzst (ww_up_mo hM hu) hd hk h9 hi hj hn (kk _ (ww_up_sX hM hk hu))
theorem ww_pgetI {idx : Nat} (hM : ww_mo x ar M.1 M.2.2.1) (hu : ww_up x ar M S1 M1) (hd : decode Y.2.1 pc = .ok (.getfield idx, 3)) (h : ww_fld Y.1.cls idx 8 k) (hr : ww_ir (320 + k) = false) (hk : ww_mr k = false) (e : S1 k 0 = v) (kk : ww_A g Y d kc ks M1 (pc + 3) lv (.int v :: st) Q X) : ww_A g Y d kc ks M1 pc lv (.ref x :: st) Q X := by
  have hM1 := ww_up_mo hM hu
  refine ww_getI (f := 320 + k) h hd rfl hr hM1.1.1 hM1.1.2 ?_
  rw [show ww_I M1 (320 + k) x = v from ((q_S_s (i := 0) (by rw [hk]; decide)).symm.trans (congrFun (congrFun hu.2.2.2.2.2.2 k) 0)).trans e]
  exact kk
theorem ww_pputI {idx : Nat} {ty : FieldType} (hM : ww_mo x ar M.1 M.2.2.1) (hu : ww_up x ar M S1 M1) (hd : decode Y.2.1 pc = .ok (.putfield idx, 3)) (h : ww_fld Y.1.cls idx 8 k) (h' : ww_fst Y.1 8 k ty) (hr : ww_ir (320 + k) = false) (hk : ww_mr k = false) (hn : narrow ty (.int v) = .int v) (hfit : fits ty (.int v) = true) (kk : ∀ M2, ww_up x ar M (q_us S1 k v) M2 → ww_A g Y d kc ks M2 (pc + 3) lv st Q X) : ww_A g Y d kc ks M1 pc lv (.int v :: .ref x :: st) Q X := by
  have hM1 := ww_up_mo hM hu
  exact ww_putI (f := 320 + k) h h' hd rfl hr hM1.1.1 hM1.1.2 hn hfit (kk _ (ww_up_sI hk hu))
end WWP
def q_grow : Nat → Int32 → Int32
  | 0, v => v
  | n + 1, v => q_grow n (v + (1 + v / 10))
/-- a wheelset that turned -/
def q_goW (S : Nat → Nat → Int32) (p : Nat) (d s : Int32) : Nat → Nat → Int32 := ww_u2 (ww_u2 (ww_u2 (ww_u2 (ww_u2 S 6 p (S 6 p + d)) 7 p (S 7 p + d)) 15 p (S 15 p + d * q_fac s)) 13 p (S 13 p - ((S 6 p + d) / 100 - S 6 p / 100))) 14 p (S 14 p - ((S 15 p + d * q_fac s) / 200 - S 15 p / 200))
def q_goK (S : Nat → Nat → Int32) (p : Nat) (d : Int32) : Nat → Nat → Int32 := ww_u2 (ww_u2 S 6 p (S 6 p + d)) 7 p (S 7 p + d)
def q_goN (S : Nat → Nat → Int32) (p : Nat) (d : Int32) : Int32 := if S 18 p = 0 then 0 else (S 6 p + d - S 19 p) / 500 - (S 6 p - S 19 p) / 500
/-- p went d kilometres with s -/
def q_go (S : Nat → Nat → Int32) (p : Nat) (d s : Int32) : Nat → Nat → Int32 := ww_u2 (if S 2 p = 3 then q_goW S p d s else q_goK S p d) 18 p (q_grow (q_goN S p d).toInt.toNat (S 18 p))
theorem ww_u2_u2 {S : Nat → Nat → Int32} {k i : Nat} {v v' : Int32} : ww_u2 (ww_u2 S k i v) k i v' = ww_u2 S k i v' := by
  funext b j
  show (if b = k ∧ j = i then v' else if b = k ∧ j = i then v else S b j) = if b = k ∧ j = i then v' else S b j
  by_cases h : b = k ∧ j = i
  · rw [if_pos h, if_pos h]
  · rw [if_neg h, if_neg h, if_neg h]
theorem ww_u2_id {S : Nat → Nat → Int32} {k i : Nat} {v : Int32} (h : S k i = v) : ww_u2 S k i v = S := by
  funext b j
  show (if b = k ∧ j = i then v else S b j) = S b j
  by_cases hb : b = k ∧ j = i
  · rw [if_pos hb, hb.1, hb.2, h]
  · rw [if_neg hb]
section WWG
variable {g : ww_G} {M : ww_M} {x : Nat} {ar : Nat → Nat} {n w : Nat}
set_option maxRecDepth 20000 in
theorem m_goes_loop (hM : ww_mo x ar M.1 M.2.2.1) {p : Nat} (hp : p < 60) {c : Int32} : ∀ (m j : Nat) (M1 : ww_M) (S1 : Nat → Nat → Int32), ww_up x ar M S1 M1 → j < 2 ^ 30 ∨ j ≤ c.toInt.toNat → c.toInt.toNat - j = m → ww_A g wy_X7_goes 2 0 0 M1 160 [(0, .ref x), (1, .int (nI p)), (5, .int c), (6, .int (nI j))] [] (ww_ru x ar M none (ww_u2 S1 18 p (q_grow m (S1 18 p)))) ww_no
  | 0, j, M1, S1, hu, h0, e => by
    have hc := c.toInt_lt
    have h1 : c ≤ nI j := by rw [ww_le', nI_toInt (by omega)]; omega
    refine ww_iload (i := 6) dX7_goes_160 rfl ?_
    refine ww_iload (i := 5) dX7_goes_162 rfl ?_
    refine ww_icmp_ge_t (tgt := 193) dX7_goes_164 (by decide) h1 ?_
    exact ww_vreturn dX7_goes_193 rfl ⟨rfl, ww_up_cg hu (ww_u2_id rfl).symm⟩
  | m + 1, j, M1, S1, hu, h0, e => by
    have hc := c.toInt_lt
    have h1 : ¬ c ≤ nI j := by rw [ww_le', nI_toInt (by omega)]; omega
    refine ww_iload (i := 6) dX7_goes_160 rfl ?_
    refine ww_iload (i := 5) dX7_goes_162 rfl ?_
    refine ww_icmp_ge_f (tgt := 193) dX7_goes_164 (by decide) h1 ?_
    refine ww_aload_n (i := 0) dX7_goes_167 rfl rfl ?_
    refine ww_getR (f := 338) wf_X7_59 dX7_goes_168 rfl rfl (ww_up_mo hM hu).1.1 (ww_up_mo hM hu).1.2 ((ww_up_mo hM hu).2.1 18 rfl) ?_
    refine ww_iload_n (i := 1) dX7_goes_171 rfl rfl ?_
    refine ww_dup2 dX7_goes_172 (by first | rfl | exact ww_rf_cat _) (by first | rfl | exact ww_rf_cat _) ?_
    refine ww_pald (k := 18) hM hu dX7_goes_173 rfl rfl rfl (show _ < 60 by omega) (rfl) ?_
    refine ww_iconst (v := 1) dX7_goes_174 (by decide) ?_
    refine ww_aload_n (i := 0) dX7_goes_175 rfl rfl ?_
    refine ww_getR (f := 338) wf_X7_59 dX7_goes_176 rfl rfl (ww_up_mo hM hu).1.1 (ww_up_mo hM hu).1.2 ((ww_up_mo hM hu).2.1 18 rfl) ?_
    refine ww_iload_n (i := 1) dX7_goes_179 rfl rfl ?_
    refine ww_pald (k := 18) hM hu dX7_goes_180 rfl rfl rfl (show _ < 60 by omega) (rfl) ?_
    refine ww_bipush (v := 10) dX7_goes_181 (by decide) ?_
    refine ww_idiv dX7_goes_183 (by decide) ?_
    refine ww_iadd dX7_goes_184 ?_
    refine ww_iadd dX7_goes_185 ?_
    refine ww_past (k := 18) hM hu dX7_goes_186 rfl rfl rfl (show _ < 60 by omega) (fun M1 hu => ?_)
    refine ww_iinc (i := 6) (v := _ + 1) (lv2 := [(0, _), (1, _), (5, _), (6, _)]) dX7_goes_187 rfl (by rfl) (Nat.le_of_ble_eq_true rfl) rfl ?_
    refine ww_goto (tgt := 160) dX7_goes_190 (by decide) ?_
    -- at 160, locals [0, 1, 5, 6]
    rw [nI_1]
    refine ww_A_mono (m_goes_loop hM hp m (j + 1) _ _ hu (by omega) (by omega)) (fun v M' h => ⟨h.1, ww_up_cg h.2 ?_⟩) (fun _ _ h => h)
    rw [ww_u2_u2, ww_u2s]
    rfl
set_option maxRecDepth 20000 in
theorem m_goes_b (hM : ww_mo x ar M.1 M.2.2.1) {p : Nat} (hp : p < 60) {o : Int32} (M1 : ww_M) (S1 : Nat → Nat → Int32) (hu : ww_up x ar M S1 M1) : ww_A g wy_X7_goes 2 0 0 M1 111 [(0, .ref x), (1, .int (nI p)), (4, .int o)] [] (ww_ru x ar M none (ww_u2 S1 18 p (q_grow (if S1 18 p = 0 then 0 else (S1 6 p - S1 19 p) / 500 - (o - S1 19 p) / 500 : Int32).toInt.toNat (S1 18 p)))) ww_no := by
  by_cases h1 : S1 18 p = 0
  · rw [if_pos h1]
    refine ww_aload_n (i := 0) dX7_goes_111 rfl rfl ?_
    refine ww_getR (f := 338) wf_X7_59 dX7_goes_112 rfl rfl (ww_up_mo hM hu).1.1 (ww_up_mo hM hu).1.2 ((ww_up_mo hM hu).2.1 18 rfl) ?_
    refine ww_iload_n (i := 1) dX7_goes_115 rfl rfl ?_
    refine ww_pald (k := 18) hM hu dX7_goes_116 rfl rfl rfl (show _ < 60 by omega) (rfl) ?_
    refine ww_if_ne_f (tgt := 124) dX7_goes_117 (by decide) h1 ?_
    refine ww_iconst (v := 0) dX7_goes_120 (by decide) ?_
    refine ww_goto (tgt := 155) dX7_goes_121 (by decide) ?_
    refine ww_istore (i := 5) (lv2 := [(0, _), (1, _), (4, _), (5, _)]) dX7_goes_155 (Nat.le_of_ble_eq_true rfl) rfl ?_
    refine ww_iconst (v := 0) dX7_goes_157 (by decide) ?_
    refine ww_istore (i := 6) (lv2 := [(0, _), (1, _), (4, _), (5, _), (6, _)]) dX7_goes_158 (Nat.le_of_ble_eq_true rfl) rfl ?_
    -- at 160, locals [0, 1, 4, 5, 6]
    have hl := m_goes_loop (g := g) (c := 0) hM hp 0 0 M1 S1 hu (by omega) (by decide)
    rw [nI_0] at hl
    exact ww_subk hl ⟨rfl, rfl, rfl, rfl, trivial⟩
  · rw [if_neg h1]
    refine ww_aload_n (i := 0) dX7_goes_111 rfl rfl ?_
    refine ww_getR (f := 338) wf_X7_59 dX7_goes_112 rfl rfl (ww_up_mo hM hu).1.1 (ww_up_mo hM hu).1.2 ((ww_up_mo hM hu).2.1 18 rfl) ?_
    refine ww_iload_n (i := 1) dX7_goes_115 rfl rfl ?_
    refine ww_pald (k := 18) hM hu dX7_goes_116 rfl rfl rfl (show _ < 60 by omega) (rfl) ?_
    refine ww_if_ne_t (tgt := 124) dX7_goes_117 (by decide) h1 ?_
    refine ww_aload_n (i := 0) dX7_goes_124 rfl rfl ?_
    refine ww_getR (f := 326) wf_X7_22 dX7_goes_125 rfl rfl (ww_up_mo hM hu).1.1 (ww_up_mo hM hu).1.2 ((ww_up_mo hM hu).2.1 6 rfl) ?_
    refine ww_iload_n (i := 1) dX7_goes_128 rfl rfl ?_
    refine ww_pald (k := 6) hM hu dX7_goes_129 rfl rfl rfl (show _ < 60 by omega) (rfl) ?_
    refine ww_aload_n (i := 0) dX7_goes_130 rfl rfl ?_
    refine ww_getR (f := 339) wf_X7_62 dX7_goes_131 rfl rfl (ww_up_mo hM hu).1.1 (ww_up_mo hM hu).1.2 ((ww_up_mo hM hu).2.1 19 rfl) ?_
    refine ww_iload_n (i := 1) dX7_goes_134 rfl rfl ?_
    refine ww_pald (k := 19) hM hu dX7_goes_135 rfl rfl rfl (show _ < 60 by omega) (rfl) ?_
    refine ww_isub dX7_goes_136 ?_
    refine ww_sipush (v := 500) dX7_goes_137 (by decide) ?_
    refine ww_idiv dX7_goes_140 (by decide) ?_
    refine ww_iload (i := 4) dX7_goes_141 rfl ?_
    refine ww_aload_n (i := 0) dX7_goes_143 rfl rfl ?_
    refine ww_getR (f := 339) wf_X7_62 dX7_goes_144 rfl rfl (ww_up_mo hM hu).1.1 (ww_up_mo hM hu).1.2 ((ww_up_mo hM hu).2.1 19 rfl) ?_
    refine ww_iload_n (i := 1) dX7_goes_147 rfl rfl ?_
    refine ww_pald (k := 19) hM hu dX7_goes_148 rfl rfl rfl (show _ < 60 by omega) (rfl) ?_
    refine ww_isub dX7_goes_149 ?_
    refine ww_sipush (v := 500) dX7_goes_150 (by decide) ?_
    refine ww_idiv dX7_goes_153 (by decide) ?_
    refine ww_isub dX7_goes_154 ?_
    refine ww_istore (i := 5) (lv2 := [(0, _), (1, _), (4, _), (5, _)]) dX7_goes_155 (Nat.le_of_ble_eq_true rfl) rfl ?_
    refine ww_iconst (v := 0) dX7_goes_157 (by decide) ?_
    refine ww_istore (i := 6) (lv2 := [(0, _), (1, _), (4, _), (5, _), (6, _)]) dX7_goes_158 (Nat.le_of_ble_eq_true rfl) rfl ?_
    -- at 160, locals [0, 1, 4, 5, 6]
    have hl := m_goes_loop (g := g) (c := (S1 6 p - S1 19 p) / 500 - (o - S1 19 p) / 500) hM hp _ 0 M1 S1 hu (by omega) rfl
    rw [nI_0] at hl
    exact ww_subk hl ⟨rfl, rfl, rfl, rfl, trivial⟩
theorem m_goes_c (hM : ww_mo x ar M.1 M.2.2.1) {p : Nat} (hp : p < 60) {o a b f : Int32} (M1 : ww_M) (S1 : Nat → Nat → Int32) (hu : ww_up x ar M S1 M1) (e18 : S1 18 p = f) (e6 : S1 6 p = a) (e19 : S1 19 p = b) : ww_A g wy_X7_goes 2 0 0 M1 111 [(0, .ref x), (1, .int (nI p)), (4, .int o)] [] (ww_ru x ar M none (ww_u2 S1 18 p (q_grow (if f = 0 then 0 else (a - b) / 500 - (o - b) / 500 : Int32).toInt.toNat f))) ww_no := by
  subst e18 e6 e19
  exact m_goes_b hM hp M1 S1 hu
set_option maxRecDepth 20000 in
set_option maxHeartbeats 2000000 in
theorem m_goes (hM : ww_mo x ar M.1 M.2.2.1) {p : Nat} (hp : p < 60) (d s : Int32) : ww_C g wy_X7_goes 2 0 0 [.ref x, .int (nI p), .int d, .int s] M (ww_ru x ar M none (q_go (q_S M x ar) p d s)) ww_no := by
  refine ww_ent (by decide +kernel) (Nat.le_of_ble_eq_true rfl) ⟨rfl, rfl, rfl, rfl, trivial⟩ ?_
  have hu : ww_up x ar M (q_S M x ar) M := ww_up_rf
  by_cases h1 : q_S M x ar 2 p = 3
  · refine ww_aload_n (i := 0) dX7_goes_0 rfl rfl ?_
    refine ww_getR (f := 326) wf_X7_22 dX7_goes_1 rfl rfl (ww_up_mo hM hu).1.1 (ww_up_mo hM hu).1.2 ((ww_up_mo hM hu).2.1 6 rfl) ?_
    refine ww_iload_n (i := 1) dX7_goes_4 rfl rfl ?_
    refine ww_pald (k := 6) hM hu dX7_goes_5 rfl rfl rfl (show _ < 60 by omega) (rfl) ?_
    refine ww_istore (i := 4) (lv2 := [(0, _), (1, _), (2, _), (3, _), (4, _)]) dX7_goes_6 (Nat.le_of_ble_eq_true rfl) rfl ?_
    refine ww_aload_n (i := 0) dX7_goes_8 rfl rfl ?_
    refine ww_getR (f := 326) wf_X7_22 dX7_goes_9 rfl rfl (ww_up_mo hM hu).1.1 (ww_up_mo hM hu).1.2 ((ww_up_mo hM hu).2.1 6 rfl) ?_
    refine ww_iload_n (i := 1) dX7_goes_12 rfl rfl ?_
    refine ww_dup2 dX7_goes_13 (by first | rfl | exact ww_rf_cat _) (by first | rfl | exact ww_rf_cat _) ?_
    refine ww_pald (k := 6) hM hu dX7_goes_14 rfl rfl rfl (show _ < 60 by omega) (rfl) ?_
    refine ww_iload_n (i := 2) dX7_goes_15 rfl rfl ?_
    refine ww_iadd dX7_goes_16 ?_
    refine ww_past (k := 6) hM hu dX7_goes_17 rfl rfl rfl (show _ < 60 by omega) (fun M1 hu => ?_)
    refine ww_aload_n (i := 0) dX7_goes_18 rfl rfl ?_
    refine ww_getR (f := 327) wf_X7_25 dX7_goes_19 rfl rfl (ww_up_mo hM hu).1.1 (ww_up_mo hM hu).1.2 ((ww_up_mo hM hu).2.1 7 rfl) ?_
    refine ww_iload_n (i := 1) dX7_goes_22 rfl rfl ?_
    refine ww_dup2 dX7_goes_23 (by first | rfl | exact ww_rf_cat _) (by first | rfl | exact ww_rf_cat _) ?_
    refine ww_pald (k := 7) hM hu dX7_goes_24 rfl rfl rfl (show _ < 60 by omega) ((ww_u2n (fun z => absurd z.1 (by decide))).trans (rfl)) ?_
    refine ww_iload_n (i := 2) dX7_goes_25 rfl rfl ?_
    refine ww_iadd dX7_goes_26 ?_
    refine ww_past (k := 7) hM hu dX7_goes_27 rfl rfl rfl (show _ < 60 by omega) (fun M1 hu => ?_)
    refine ww_aload_n (i := 0) dX7_goes_28 rfl rfl ?_
    refine ww_getR (f := 322) wf_X7_7 dX7_goes_29 rfl rfl (ww_up_mo hM hu).1.1 (ww_up_mo hM hu).1.2 ((ww_up_mo hM hu).2.1 2 rfl) ?_
    refine ww_iload_n (i := 1) dX7_goes_32 rfl rfl ?_
    refine ww_pald (k := 2) hM hu dX7_goes_33 rfl rfl rfl (show _ < 60 by omega) ((ww_u2n (fun z => absurd z.1 (by decide))).trans ((ww_u2n (fun z => absurd z.1 (by decide))).trans (rfl))) ?_
    refine ww_iconst (v := 3) dX7_goes_34 (by decide) ?_
    refine ww_icmp_ne_f (tgt := 111) dX7_goes_35 (by decide) h1 ?_
    refine ww_aload_n (i := 0) dX7_goes_38 rfl rfl ?_
    refine ww_getR (f := 335) wf_X7_50 dX7_goes_39 rfl rfl (ww_up_mo hM hu).1.1 (ww_up_mo hM hu).1.2 ((ww_up_mo hM hu).2.1 15 rfl) ?_
    refine ww_iload_n (i := 1) dX7_goes_42 rfl rfl ?_
    refine ww_pald (k := 15) hM hu dX7_goes_43 rfl rfl rfl (show _ < 60 by omega) ((ww_u2n (fun z => absurd z.1 (by decide))).trans ((ww_u2n (fun z => absurd z.1 (by decide))).trans (rfl))) ?_
    refine ww_istore (i := 5) (lv2 := [(0, _), (1, _), (2, _), (3, _), (4, _), (5, _)]) dX7_goes_44 (Nat.le_of_ble_eq_true rfl) rfl ?_
    refine ww_aload_n (i := 0) dX7_goes_46 rfl rfl ?_
    refine ww_getR (f := 335) wf_X7_50 dX7_goes_47 rfl rfl (ww_up_mo hM hu).1.1 (ww_up_mo hM hu).1.2 ((ww_up_mo hM hu).2.1 15 rfl) ?_
    refine ww_iload_n (i := 1) dX7_goes_50 rfl rfl ?_
    refine ww_dup2 dX7_goes_51 (by first | rfl | exact ww_rf_cat _) (by first | rfl | exact ww_rf_cat _) ?_
    refine ww_pald (k := 15) hM hu dX7_goes_52 rfl rfl rfl (show _ < 60 by omega) ((ww_u2n (fun z => absurd z.1 (by decide))).trans ((ww_u2n (fun z => absurd z.1 (by decide))).trans (rfl))) ?_
    refine ww_iload_n (i := 2) dX7_goes_53 rfl rfl ?_
    refine ww_iload_n (i := 3) dX7_goes_54 rfl rfl ?_
    refine ww_callS wk_X7_145 rfl dX7_goes_55 (m_factor s) rfl rfl (by omega) (by omega) (by omega) (by first | exact Nat.le_of_ble_eq_true rfl | (simp [ww_rf_cat, Value.category])) rfl (fun E M9 h9 => h9.elim) (fun v9 M9 h9 => ?_)
    obtain ⟨rfl, rfl⟩ := h9
    refine ww_imul dX7_goes_58 ?_
    refine ww_iadd dX7_goes_59 ?_
    refine ww_past (k := 15) hM hu dX7_goes_60 rfl rfl rfl (show _ < 60 by omega) (fun M1 hu => ?_)
    refine ww_aload_n (i := 0) dX7_goes_61 rfl rfl ?_
    refine ww_getR (f := 333) wf_X7_44 dX7_goes_62 rfl rfl (ww_up_mo hM hu).1.1 (ww_up_mo hM hu).1.2 ((ww_up_mo hM hu).2.1 13 rfl) ?_
    refine ww_iload_n (i := 1) dX7_goes_65 rfl rfl ?_
    refine ww_dup2 dX7_goes_66 (by first | rfl | exact ww_rf_cat _) (by first | rfl | exact ww_rf_cat _) ?_
    refine ww_pald (k := 13) hM hu dX7_goes_67 rfl rfl rfl (show _ < 60 by omega) ((ww_u2n (fun z => absurd z.1 (by decide))).trans ((ww_u2n (fun z => absurd z.1 (by decide))).trans ((ww_u2n (fun z => absurd z.1 (by decide))).trans (rfl)))) ?_
    refine ww_aload_n (i := 0) dX7_goes_68 rfl rfl ?_
    refine ww_getR (f := 326) wf_X7_22 dX7_goes_69 rfl rfl (ww_up_mo hM hu).1.1 (ww_up_mo hM hu).1.2 ((ww_up_mo hM hu).2.1 6 rfl) ?_
    refine ww_iload_n (i := 1) dX7_goes_72 rfl rfl ?_
    refine ww_pald (k := 6) hM hu dX7_goes_73 rfl rfl rfl (show _ < 60 by omega) ((ww_u2n (fun z => absurd z.1 (by decide))).trans ((ww_u2n (fun z => absurd z.1 (by decide))).trans (ww_u2s))) ?_
    refine ww_bipush (v := 100) dX7_goes_74 (by decide) ?_
    refine ww_idiv dX7_goes_76 (by decide) ?_
    refine ww_iload (i := 4) dX7_goes_77 rfl ?_
    refine ww_bipush (v := 100) dX7_goes_79 (by decide) ?_
    refine ww_idiv dX7_goes_81 (by decide) ?_
    refine ww_isub dX7_goes_82 ?_
    refine ww_isub dX7_goes_83 ?_
    refine ww_past (k := 13) hM hu dX7_goes_84 rfl rfl rfl (show _ < 60 by omega) (fun M1 hu => ?_)
    refine ww_aload_n (i := 0) dX7_goes_85 rfl rfl ?_
    refine ww_getR (f := 334) wf_X7_47 dX7_goes_86 rfl rfl (ww_up_mo hM hu).1.1 (ww_up_mo hM hu).1.2 ((ww_up_mo hM hu).2.1 14 rfl) ?_
    refine ww_iload_n (i := 1) dX7_goes_89 rfl rfl ?_
    refine ww_dup2 dX7_goes_90 (by first | rfl | exact ww_rf_cat _) (by first | rfl | exact ww_rf_cat _) ?_
    refine ww_pald (k := 14) hM hu dX7_goes_91 rfl rfl rfl (show _ < 60 by omega) ((ww_u2n (fun z => absurd z.1 (by decide))).trans ((ww_u2n (fun z => absurd z.1 (by decide))).trans ((ww_u2n (fun z => absurd z.1 (by decide))).trans ((ww_u2n (fun z => absurd z.1 (by decide))).trans (rfl))))) ?_
    refine ww_aload_n (i := 0) dX7_goes_92 rfl rfl ?_
    refine ww_getR (f := 335) wf_X7_50 dX7_goes_93 rfl rfl (ww_up_mo hM hu).1.1 (ww_up_mo hM hu).1.2 ((ww_up_mo hM hu).2.1 15 rfl) ?_
    refine ww_iload_n (i := 1) dX7_goes_96 rfl rfl ?_
    refine ww_pald (k := 15) hM hu dX7_goes_97 rfl rfl rfl (show _ < 60 by omega) ((ww_u2n (fun z => absurd z.1 (by decide))).trans (ww_u2s)) ?_
    refine ww_sipush (v := 200) dX7_goes_98 (by decide) ?_
    refine ww_idiv dX7_goes_101 (by decide) ?_
    refine ww_iload (i := 5) dX7_goes_102 rfl ?_
    refine ww_sipush (v := 200) dX7_goes_104 (by decide) ?_
    refine ww_idiv dX7_goes_107 (by decide) ?_
    refine ww_isub dX7_goes_108 ?_
    refine ww_isub dX7_goes_109 ?_
    refine ww_past (k := 14) hM hu dX7_goes_110 rfl rfl rfl (show _ < 60 by omega) (fun M1 hu => ?_)
    -- at 111, locals [0, 1, 2, 3, 4, 5]
    refine ww_subk (ww_A_mono (m_goes_c hM hp _ _ hu rfl ((ww_u2n (fun z => absurd z.1 (by decide))).trans ((ww_u2n (fun z => absurd z.1 (by decide))).trans ((ww_u2n (fun z => absurd z.1 (by decide))).trans ((ww_u2n (fun z => absurd z.1 (by decide))).trans ww_u2s)))) rfl) (fun v M' h => ⟨h.1, ww_up_cg h.2 ?_⟩) (fun _ _ h => h)) ⟨rfl, rfl, rfl, trivial⟩
    · unfold q_go
      rw [if_pos h1]
      rfl
  · refine ww_aload_n (i := 0) dX7_goes_0 rfl rfl ?_
    refine ww_getR (f := 326) wf_X7_22 dX7_goes_1 rfl rfl (ww_up_mo hM hu).1.1 (ww_up_mo hM hu).1.2 ((ww_up_mo hM hu).2.1 6 rfl) ?_
    refine ww_iload_n (i := 1) dX7_goes_4 rfl rfl ?_
    refine ww_pald (k := 6) hM hu dX7_goes_5 rfl rfl rfl (show _ < 60 by omega) (rfl) ?_
    refine ww_istore (i := 4) (lv2 := [(0, _), (1, _), (2, _), (3, _), (4, _)]) dX7_goes_6 (Nat.le_of_ble_eq_true rfl) rfl ?_
    refine ww_aload_n (i := 0) dX7_goes_8 rfl rfl ?_
    refine ww_getR (f := 326) wf_X7_22 dX7_goes_9 rfl rfl (ww_up_mo hM hu).1.1 (ww_up_mo hM hu).1.2 ((ww_up_mo hM hu).2.1 6 rfl) ?_
    refine ww_iload_n (i := 1) dX7_goes_12 rfl rfl ?_
    refine ww_dup2 dX7_goes_13 (by first | rfl | exact ww_rf_cat _) (by first | rfl | exact ww_rf_cat _) ?_
    refine ww_pald (k := 6) hM hu dX7_goes_14 rfl rfl rfl (show _ < 60 by omega) (rfl) ?_
    refine ww_iload_n (i := 2) dX7_goes_15 rfl rfl ?_
    refine ww_iadd dX7_goes_16 ?_
    refine ww_past (k := 6) hM hu dX7_goes_17 rfl rfl rfl (show _ < 60 by omega) (fun M1 hu => ?_)
    refine ww_aload_n (i := 0) dX7_goes_18 rfl rfl ?_
    refine ww_getR (f := 327) wf_X7_25 dX7_goes_19 rfl rfl (ww_up_mo hM hu).1.1 (ww_up_mo hM hu).1.2 ((ww_up_mo hM hu).2.1 7 rfl) ?_
    refine ww_iload_n (i := 1) dX7_goes_22 rfl rfl ?_
    refine ww_dup2 dX7_goes_23 (by first | rfl | exact ww_rf_cat _) (by first | rfl | exact ww_rf_cat _) ?_
    refine ww_pald (k := 7) hM hu dX7_goes_24 rfl rfl rfl (show _ < 60 by omega) ((ww_u2n (fun z => absurd z.1 (by decide))).trans (rfl)) ?_
    refine ww_iload_n (i := 2) dX7_goes_25 rfl rfl ?_
    refine ww_iadd dX7_goes_26 ?_
    refine ww_past (k := 7) hM hu dX7_goes_27 rfl rfl rfl (show _ < 60 by omega) (fun M1 hu => ?_)
    refine ww_aload_n (i := 0) dX7_goes_28 rfl rfl ?_
    refine ww_getR (f := 322) wf_X7_7 dX7_goes_29 rfl rfl (ww_up_mo hM hu).1.1 (ww_up_mo hM hu).1.2 ((ww_up_mo hM hu).2.1 2 rfl) ?_
    refine ww_iload_n (i := 1) dX7_goes_32 rfl rfl ?_
    refine ww_pald (k := 2) hM hu dX7_goes_33 rfl rfl rfl (show _ < 60 by omega) ((ww_u2n (fun z => absurd z.1 (by decide))).trans ((ww_u2n (fun z => absurd z.1 (by decide))).trans (rfl))) ?_
    refine ww_iconst (v := 3) dX7_goes_34 (by decide) ?_
    refine ww_icmp_ne_t (tgt := 111) dX7_goes_35 (by decide) h1 ?_
    -- at 111, locals [0, 1, 2, 3, 4]
    refine ww_subk (ww_A_mono (m_goes_c hM hp _ _ hu rfl ((ww_u2n (fun z => absurd z.1 (by decide))).trans ww_u2s) rfl) (fun v M' h => ⟨h.1, ww_up_cg h.2 ?_⟩) (fun _ _ h => h)) ⟨rfl, rfl, rfl, trivial⟩
    · unfold q_go
      rw [if_neg h1]
      rfl
end WWG
