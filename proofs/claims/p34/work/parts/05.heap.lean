/-! ===== rules of the heap, of calls, throws and returns ===== -/
def ww_fld (own : String) (idx κ k : Nat) : Prop := ∃ (q : vw_C) (ref : String), vwCl[κ]? = some q ∧ k < q.2.2 ∧ q.2.2 = ww_nf κ ∧ Cond.fieldLink own idx ref (q.2.1 k).2.1 (q.2.1 k).2.2.1 ∈ ww_GW ∧ (∀ w ∈ u_ws q.1 q.2.1 q.2.2, w ∈ ww_GW) ∧ (ref = (q.2.1 k).1 ∨ Cond.sameField ref (q.2.1 k).1 (q.2.1 k).2.1 (q.2.1 k).2.2.1 ∈ ww_GW)
/-- what a store into a field asks besides -/
def ww_fst (y : MethodName) (κ k : Nat) (ty : FieldType) : Prop := ∃ (q : vw_C) (ty0 : Nat → FieldType), vwCl[κ]? = some q ∧ (∀ j, j < q.2.2 → parseFieldDescriptor (q.2.1 j).2.2.1 = some (ty0 j)) ∧ (∀ a, a < q.2.2 → ∀ b, b < q.2.2 → a ≠ b → (q.2.1 a).2.1 ≠ (q.2.1 b).2.1) ∧ ((q.2.1 k).2.2.2 = false ∨ ((q.2.1 k).2.2.2 = true ∧ y.name = "<init>" ∧ (q.2.1 k).1 = y.cls)) ∧ parseFieldDescriptor (q.2.1 k).2.2.1 = some ty
theorem ww_cl_len {κ : Nat} {q : vw_C} (h : vwCl[κ]? = some q) : κ < 9 := Nat.lt_of_lt_of_le (List.getElem?_eq_some_iff.mp h).1 (by decide)
theorem ww_E_congr {cy : Nat → ClassId} {M M' : ww_M} {b : Nat} (h0 : M'.1 = M.1) (hX : ww_X M' b = ww_X M b) (hY : ww_Y M' b = ww_Y M b) (hZ : ww_Z M' b = ww_Z M b) (hfs : ∀ κ, ww_fs M' κ b = ww_fs M κ b) : ww_E cy M' b = ww_E cy M b := by
  have hK : ww_K M' = ww_K M := by unfold ww_K; rw [h0]
  have hN : ww_N M' = ww_N M := by unfold ww_N; rw [h0]
  unfold ww_E
  rw [hK, hN, hX, hY, hZ, hfs]
theorem ww_fv_sI_s {M : ww_M} {f a : Nat} {x : Int32} (hr : ww_ir f = false) : ww_fv (ww_sI M f a x) f a = .int x := by
  unfold ww_fv
  rw [if_neg (by rw [hr]; decide)]
  exact congrArg Value.int ww_u2s
theorem ww_fv_sI_n {M : ww_M} {f a f' b : Nat} {x : Int32} (h : ¬ (f' = f ∧ b = a)) : ww_fv (ww_sI M f a x) f' b = ww_fv M f' b := by
  have e : ww_I (ww_sI M f a x) f' b = ww_I M f' b := ww_u2n h
  unfold ww_fv
  rw [e]; rfl
theorem ww_fv_sR_s {M : ww_M} {f a : Nat} {x : Option Nat} (hr : ww_ir f = true) : ww_fv (ww_sR M f a x) f a = va_rf x := by
  unfold ww_fv
  rw [if_pos hr]
  exact congrArg va_rf ww_u2s
theorem ww_fv_sR_n {M : ww_M} {f a f' b : Nat} {x : Option Nat} (h : ¬ (f' = f ∧ b = a)) : ww_fv (ww_sR M f a x) f' b = ww_fv M f' b := by
  have e : ww_R (ww_sR M f a x) f' b = ww_R M f' b := ww_u2n h
  unfold ww_fv
  rw [e]; rfl
section WWH
variable {g : ww_G} {Y : ww_Yd} {d kc ks : Nat} {M : ww_M} {pc : Nat} {lv : List (Nat × Value)} {st : List Value} {Q : Option Value → ww_M → Prop} {X : String → ww_M → Prop}
theorem ww_get {κ k idx f a : Nat} (h : ww_fld Y.1.cls idx κ k) (hd : decode Y.2.1 pc = .ok (.getfield idx, 3)) (hf : 40 * κ + k = f) (ha : a ∈ ww_L M) (hK : ww_K M a = κ) (kk : ww_A g Y d kc ks M (pc + 3) lv (ww_fv M f a :: st) Q X) : ww_A g Y d kc ks M pc lv (.ref a :: st) Q X := by
  intro p l e R s m args below meth c H locs cells slots mc ms ls C B hl hH hS
  obtain ⟨hx, hb, hml, hret, htb, hown, hts, htr, hF, hfr, hlo⟩ := id C
  obtain ⟨q, ref, h1, h2, h3, h4, h5, h6⟩ := h
  obtain ⟨j, hj⟩ := ww_W_get (cy := g.2.2.1) ha
  rw [ww_E_o hK (ww_cl_len h1)] at hj
  subst hf
  refine va_get (C := q.1) (T := q.2.1) (N := q.2.2) (ref := ref) hx hb hts h5 hown hF.1.2 hH.1 j hj h1 k h2 (hts _ h4) (fun x hx' => ?_) (ww_fs_get (by rw [← h3]; exact h2)) hd (kk p l e R s m args below meth c H locs cells slots mc ms ls C B hl hH hS)
  rcases h6 with h6 | h6
  · rw [h6]; exact hx'
  · exact u_same (hts _ h6) x hx'
theorem ww_getI {κ k idx f a : Nat} (h : ww_fld Y.1.cls idx κ k) (hd : decode Y.2.1 pc = .ok (.getfield idx, 3)) (hf : 40 * κ + k = f) (hr : ww_ir f = false) (ha : a ∈ ww_L M) (hK : ww_K M a = κ) (kk : ww_A g Y d kc ks M (pc + 3) lv (.int (ww_I M f a) :: st) Q X) : ww_A g Y d kc ks M pc lv (.ref a :: st) Q X := by
  have e : ww_fv M f a = .int (ww_I M f a) := if_neg (by rw [hr]; decide)
  exact ww_get h hd hf ha hK (by rw [e]; exact kk)
theorem ww_getQ {κ k idx f a : Nat} (h : ww_fld Y.1.cls idx κ k) (hd : decode Y.2.1 pc = .ok (.getfield idx, 3)) (hf : 40 * κ + k = f) (hr : ww_ir f = true) (ha : a ∈ ww_L M) (hK : ww_K M a = κ) (kk : ww_A g Y d kc ks M (pc + 3) lv (va_rf (ww_R M f a) :: st) Q X) : ww_A g Y d kc ks M pc lv (.ref a :: st) Q X := by
  have e : ww_fv M f a = va_rf (ww_R M f a) := if_pos hr
  exact ww_get h hd hf ha hK (by rw [e]; exact kk)
theorem ww_getR {κ k idx f a b : Nat} (h : ww_fld Y.1.cls idx κ k) (hd : decode Y.2.1 pc = .ok (.getfield idx, 3)) (hf : 40 * κ + k = f) (hr : ww_ir f = true) (ha : a ∈ ww_L M) (hK : ww_K M a = κ) (hb : ww_R M f a = some b) (kk : ww_A g Y d kc ks M (pc + 3) lv (.ref b :: st) Q X) : ww_A g Y d kc ks M pc lv (.ref a :: st) Q X :=
  ww_getQ h hd hf hr ha hK (by rw [hb]; exact kk)
theorem ww_put0 {κ k idx a : Nat} {ty : FieldType} {v : Value} {M' : ww_M} (h : ww_fld Y.1.cls idx κ k) (h' : ww_fst Y.1 κ k ty) (hd : decode Y.2.1 pc = .ok (.putfield idx, 3)) (ha : a ∈ ww_L M) (hK : ww_K M a = κ) (hn : narrow ty v = v) (hfit : fits ty v = true)
    (e0 : M'.1 = M.1) (e1 : ww_fv M' (40 * κ + k) a = v) (e2 : ∀ f b, ¬ (f = 40 * κ + k ∧ b = a) → ww_fv M' f b = ww_fv M f b) (e3 : ww_X M' = ww_X M ∧ ww_Y M' = ww_Y M ∧ ww_Z M' = ww_Z M)
    (kk : ww_A g Y d kc ks M' (pc + 3) lv st Q X) : ww_A g Y d kc ks M pc lv (v :: .ref a :: st) Q X := by
  intro p l e R s m args below meth c H locs cells slots mc ms ls C B hl hH hS
  obtain ⟨hx, hb, hml, ⟨hret, hlk, hnm⟩, htb, hown, hts, htr, hF, hfr, hlo⟩ := id C
  obtain ⟨q, ref, h1, h2, h3, h4, h5, h6⟩ := h
  obtain ⟨q', ty0, g1, g2, g3, g4, g5⟩ := h'
  cases h1.symm.trans g1
  have hκ := ww_cl_len h1
  obtain ⟨j, hj⟩ := ww_W_get (cy := g.2.2.1) ha
  have hj' := hj
  rw [ww_E_o hK hκ] at hj'
  have hsame : ∀ x, s.fieldFound? (q.2.1 k).1 (q.2.1 k).2.1 (q.2.1 k).2.2.1 = some x → s.fieldFound? ref (q.2.1 k).2.1 (q.2.1 k).2.2.1 = some x := by
    intro x hx'
    rcases h6 with h6 | h6
    · rw [h6]; exact hx'
    · exact u_same (hts _ h6) x hx'
  have hK' : ww_K M' a = κ := by unfold ww_K; rw [e0]; exact hK
  have hset : (ww_W g.2.2.1 M).set j (a, .inr (κ, (ww_fs M κ a).set k v)) = ww_W g.2.2.1 M' := by
    refine ww_W_set hH.2 ha hj e0 ?_ (fun b hb' => ?_)
    · rw [ww_E_o hK' hκ, ww_fs_set e1 (fun i hi => e2 _ _ (fun z => hi (by omega)))]
    · exact ww_E_congr e0 (by rw [e3.1]) (by rw [e3.2.1]) (by rw [e3.2.2]) (fun κ' => ww_fs_congr fun i => e2 _ _ (fun z => hb' z.2))
  have hlen : k < (ww_fs M κ a).length := by rw [ww_fs_len, ← h3]; exact h2
  have kk' : ∀ (H1 : Heap) (locs1 : List Loc), va_P g.2.1 vwCl ((ww_W g.2.2.1 M).set j (a, .inr (κ, (ww_fs M κ a).set k v))) H1 → va_D (ww_gA g) ((ww_W g.2.2.1 M).set j (a, .inr (κ, (ww_fs M κ a).set k v))) → va_S (ww_gA g) s.heap H1 locs1 → W p l e R s m args below meth c H1 locs1 cells slots (vx_MQ below (ww_Qc g Q) (ww_Xc g X) args s mc ms (ww_gA g)) (F0 m (pc + 3) ls st) := by
    intro H1 locs1 hP1 hD1 hS1
    rw [hset] at hP1 hD1
    exact kk p l e R s m args below meth c H1 locs1 cells slots mc ms ls C B hl ⟨hP1, hD1⟩ hS1
  rcases g4 with g4 | ⟨g4, g6, g7⟩
  · exact va_put (C := q.1) (T := q.2.1) (N := q.2.2) (ref := ref) hx hb hts h5 ty0 g2 g3 hown hF.1.2 hH.1 hH.2 hS j hj' h1 k h2 (hts _ h4) hsame g4 g5 hn hfit hlen hd kk'
  · exact va_putF (C := q.1) (T := q.2.1) (N := q.2.2) (ref := ref) hx hb hts h5 ty0 g2 g3 hown hF.1.2 hH.1 hH.2 hS j hj' h1 k h2 (hts _ h4) hsame g4 (hnm.trans g6) g7 g5 hn hfit hlen hd kk'
theorem ww_putI {κ k idx f a : Nat} {ty : FieldType} {x : Int32} (h : ww_fld Y.1.cls idx κ k) (h' : ww_fst Y.1 κ k ty) (hd : decode Y.2.1 pc = .ok (.putfield idx, 3)) (hf : 40 * κ + k = f) (hr : ww_ir f = false) (ha : a ∈ ww_L M) (hK : ww_K M a = κ) (hn : narrow ty (.int x) = .int x) (hfit : fits ty (.int x) = true)
    (kk : ww_A g Y d kc ks (ww_sI M f a x) (pc + 3) lv st Q X) : ww_A g Y d kc ks M pc lv (.int x :: .ref a :: st) Q X := by
  subst hf
  exact ww_put0 (M' := ww_sI M _ a x) h h' hd ha hK hn hfit rfl (ww_fv_sI_s hr) (fun f b hfb => ww_fv_sI_n hfb) ⟨rfl, rfl, rfl⟩ kk
theorem ww_putQ {κ k idx f a : Nat} {ty : FieldType} {r : Option Nat} {v : Value} (h : ww_fld Y.1.cls idx κ k) (h' : ww_fst Y.1 κ k ty) (hd : decode Y.2.1 pc = .ok (.putfield idx, 3)) (hf : 40 * κ + k = f) (hr : ww_ir f = true) (ha : a ∈ ww_L M) (hK : ww_K M a = κ) (hv : va_rf r = v) (hn : narrow ty v = v) (hfit : fits ty v = true)
    (kk : ww_A g Y d kc ks (ww_sR M f a r) (pc + 3) lv st Q X) : ww_A g Y d kc ks M pc lv (v :: .ref a :: st) Q X := by
  subst hf hv
  exact ww_put0 (M' := ww_sR M _ a r) h h' hd ha hK hn hfit rfl (ww_fv_sR_s hr) (fun f b hfb => ww_fv_sR_n hfb) ⟨rfl, rfl, rfl⟩ kk
/-! arrays -/
theorem ww_iald {a j : Nat} {i : Int32} (hd : decode Y.2.1 pc = .ok (.iaload, 1)) (ha : a ∈ ww_L M) (hK : ww_K M a = 9) (hi : i = nI j) (hj : j < ww_N M a) (hN : ww_N M a < 2 ^ 31) (kk : ww_A g Y d kc ks M (pc + 1) lv (.int (ww_X M a j) :: st) Q X) : ww_A g Y d kc ks M pc lv (.int i :: .ref a :: st) Q X := by
  intro p l e R s m args below meth c H locs cells slots mc ms ls C B hl hH hS
  obtain ⟨hx, hb, hml, hret, htb, hown, hts, htr, hF, hfr, hlo⟩ := id C
  obtain ⟨q, hq⟩ := ww_W_get (cy := g.2.2.1) ha
  rw [ww_E_i hK (by omega) (by omega)] at hq
  subst hi
  have hk := kk p l e R s m args below meth c H locs cells slots mc ms ls C B hl hH hS
  have e1 : (nI j).toNatClampNeg = j := nI_clamp (by omega)
  exact va_iald hx hb hF.1.2 hH.1 q 0 hq rfl (vp_in_nI hj (by omega)) hd (by rw [e1]; exact hk)
theorem ww_aald {a j : Nat} {i : Int32} (hd : decode Y.2.1 pc = .ok (.aaload, 1)) (ha : a ∈ ww_L M) (hK : ww_K M a = 11 ∨ ww_K M a = 12) (hi : i = nI j) (hj : j < ww_N M a) (hN : ww_N M a < 2 ^ 31) (kk : ww_A g Y d kc ks M (pc + 1) lv (va_rf (ww_Y M a j) :: st) Q X) : ww_A g Y d kc ks M pc lv (.int i :: .ref a :: st) Q X := by
  intro p l e R s m args below meth c H locs cells slots mc ms ls C B hl hH hS
  obtain ⟨hx, hb, hml, hret, htb, hown, hts, htr, hF, hfr, hlo⟩ := id C
  obtain ⟨q, hq⟩ := ww_W_get (cy := g.2.2.1) ha
  subst hi
  have hk := kk p l e R s m args below meth c H locs cells slots mc ms ls C B hl hH hS
  have e1 : (nI j).toNatClampNeg = j := nI_clamp (by omega)
  rcases hK with hK | hK
  · rw [ww_E_r hK (by omega) (by omega)] at hq
    exact va_aldq hx hb hF.1.2 hH.1 q 2 hq rfl (vp_in_nI hj (by omega)) hd (by rw [e1]; exact hk)
  · rw [ww_E_r hK (by omega) (by omega)] at hq
    exact va_aldq hx hb hF.1.2 hH.1 q 3 hq rfl (vp_in_nI hj (by omega)) hd (by rw [e1]; exact hk)
theorem ww_upd_X {M : ww_M} {a j : Nat} {x : Int32} : ww_X (ww_sX M a j x) a = upd (ww_X M a) j x := by
  funext i
  show ww_u2 (ww_X M) a j x a i = upd (ww_X M a) j x i
  unfold ww_u2 upd
  by_cases h : i = j
  · rw [if_pos ⟨rfl, h⟩, if_pos h]
  · rw [if_neg (fun z => h z.2), if_neg h]
theorem ww_upd_Xn {M : ww_M} {a j b : Nat} {x : Int32} (h : b ≠ a) : ww_X (ww_sX M a j x) b = ww_X M b := funext fun i => if_neg (fun z => h z.1)
theorem ww_set_X {cy : Nat → ClassId} {A : Nat → Prop} {a j q κ : Nat} {x : Int32} (hD : va_D A (ww_W cy M)) (ha : a ∈ ww_L M) (hK : ww_K M a = κ) (h9 : 9 ≤ κ) (h11 : κ < 11) (hq : (ww_W cy M)[q]? = some (a, ww_E cy M a)) : (ww_W cy M).set q (a, .inl (cy κ, ww_N M a, .inl (upd (ww_X M a) j x))) = ww_W cy (ww_sX M a j x) := by
  refine ww_W_set hD ha hq rfl ?_ (fun b hb => ww_E_congr rfl (ww_upd_Xn hb) rfl rfl (fun _ => rfl))
  rw [ww_E_i (M := ww_sX M a j x) (κ := κ) hK h9 h11, ww_upd_X]
  rfl
theorem ww_iast {a j : Nat} {i x : Int32} (hd : decode Y.2.1 pc = .ok (.iastore, 1)) (ha : a ∈ ww_L M) (hK : ww_K M a = 9) (hi : i = nI j) (hj : j < ww_N M a) (hN : ww_N M a < 2 ^ 31) (kk : ww_A g Y d kc ks (ww_sX M a j x) (pc + 1) lv st Q X) : ww_A g Y d kc ks M pc lv (.int x :: .int i :: .ref a :: st) Q X := by
  intro p l e R s m args below meth c H locs cells slots mc ms ls C B hl hH hS
  obtain ⟨hx, hb, hml, hret, htb, hown, hts, htr, hF, hfr, hlo⟩ := id C
  obtain ⟨q, hq⟩ := ww_W_get (cy := g.2.2.1) ha
  have hq' := hq
  rw [ww_E_i hK (by omega) (by omega)] at hq'
  subst hi
  have e1 : (nI j).toNatClampNeg = j := nI_clamp (by omega)
  refine va_iast hx hb hF.1.2 hH.1 hH.2 hS q 0 hq' rfl (vp_in_nI hj (by omega)) hd (fun H1 locs1 hP1 hD1 hS1 => ?_)
  rw [e1, ww_set_X hH.2 ha hK (by omega) (by omega) hq] at hP1 hD1
  exact kk p l e R s m args below meth c H1 locs1 cells slots mc ms ls C B hl ⟨hP1, hD1⟩ hS1
theorem ww_set_Y {cy : Nat → ClassId} {A : Nat → Prop} {a j q κ : Nat} {x : Option Nat} (hD : va_D A (ww_W cy M)) (ha : a ∈ ww_L M) (hK : ww_K M a = κ) (h9 : 11 ≤ κ) (h11 : κ < 13) (hq : (ww_W cy M)[q]? = some (a, ww_E cy M a)) : (ww_W cy M).set q (a, .inl (cy κ, ww_N M a, .inr (.inr (.inr (.inr (va_up (ww_Y M a) j x)))))) = ww_W cy (ww_sY M a j x) := by
  have eY : ww_Y (ww_sY M a j x) a = va_up (ww_Y M a) j x := by
    funext i
    show ww_u2 (ww_Y M) a j x a i = va_up (ww_Y M a) j x i
    unfold ww_u2 va_up
    by_cases h : i = j
    · rw [if_pos ⟨rfl, h⟩, if_pos h]
    · rw [if_neg (fun z => h z.2), if_neg h]
  refine ww_W_set hD ha hq rfl ?_ (fun b hb => ww_E_congr rfl rfl (funext fun i => if_neg (fun z => hb z.1)) rfl (fun _ => rfl))
  rw [ww_E_r (M := ww_sY M a j x) (κ := κ) hK h9 h11, eY]
  rfl
/-- an object into an Object[] -/
theorem ww_aast {a b j κ : Nat} {i : Int32} {r : vw_C} (hd : decode Y.2.1 pc = .ok (.aastore, 1)) (ha : a ∈ ww_L M) (hK : ww_K M a = 12) (hb2 : b ∈ ww_L M) (hKb : ww_K M b = κ) (hr : vwCl[κ]? = some r) (hca : (r.1, "java/lang/Object") ∈ ww_ca) (hi : i = nI j) (hj : j < ww_N M a) (hN : ww_N M a < 2 ^ 31) (kk : ww_A g Y d kc ks (ww_sY M a j (some b)) (pc + 1) lv st Q X) : ww_A g Y d kc ks M pc lv (.ref b :: .int i :: .ref a :: st) Q X := by
  intro p l e R s m args below meth c H locs cells slots mc ms ls C B hl hH hS
  obtain ⟨hx, hb, hml, hret, htb, hown, hts, htr, hF, hfr, hlo⟩ := id C
  obtain ⟨q, hq⟩ := ww_W_get (cy := g.2.2.1) ha
  obtain ⟨q2, hq2⟩ := ww_W_get (cy := g.2.2.1) hb2
  have hq' := hq
  rw [ww_E_r hK (by omega) (by omega)] at hq'
  rw [ww_E_o hKb (ww_cl_len hr)] at hq2
  subst hi
  have e1 : (nI j).toNatClampNeg = j := nI_clamp (by omega)
  refine va_astqO hx hb hF.1.2 hH.1 hH.2 hS q 3 q2 κ hq' rfl (hF.2.2.2.2.2.1.1 _ hca) hq2 hr (vp_in_nI hj (by omega)) hd (fun H1 locs1 hP1 hD1 hS1 => ?_)
  rw [e1, ww_set_Y hH.2 ha hK (by omega) (by omega) hq] at hP1 hD1
  exact kk p l e R s m args below meth c H1 locs1 cells slots mc ms ls C B hl ⟨hP1, hD1⟩ hS1
/-- a KindLimits into a KindLimits[] -/
theorem ww_aastK {a b j : Nat} {i : Int32} (hd : decode Y.2.1 pc = .ok (.aastore, 1)) (ha : a ∈ ww_L M) (hK : ww_K M a = 11) (hb2 : b ∈ ww_L M) (hKb : ww_K M b = 2) (hi : i = nI j) (hj : j < ww_N M a) (hN : ww_N M a < 2 ^ 31) (kk : ww_A g Y d kc ks (ww_sY M a j (some b)) (pc + 1) lv st Q X) : ww_A g Y d kc ks M pc lv (.ref b :: .int i :: .ref a :: st) Q X := by
  intro p l e R s m args below meth c H locs cells slots mc ms ls C B hl hH hS
  obtain ⟨hx, hb, hml, hret, htb, hown, hts, htr, hF, hfr, hlo⟩ := id C
  obtain ⟨q, hq⟩ := ww_W_get (cy := g.2.2.1) ha
  obtain ⟨q2, hq2⟩ := ww_W_get (cy := g.2.2.1) hb2
  have hq' := hq
  rw [ww_E_r hK (by omega) (by omega)] at hq'
  rw [ww_E_o hKb (by omega)] at hq2
  subst hi
  have e1 : (nI j).toNatClampNeg = j := nI_clamp (by omega)
  refine va_astq (r := (RX1, TX1, 3)) hx hb hF.1.2 hH.1 hH.2 hS q 2 q2 2 hq' rfl hq2 rfl (vp_in_nI hj (by omega)) hd (fun H1 locs1 hP1 hD1 hS1 => ?_)
  rw [e1, ww_set_Y hH.2 ha hK (by omega) (by omega) hq] at hP1 hD1
  exact kk p l e R s m args below meth c H1 locs1 cells slots mc ms ls C B hl ⟨hP1, hD1⟩ hS1
/-- null into an Object[] -/
theorem ww_aastN {a j : Nat} {i : Int32} (hd : decode Y.2.1 pc = .ok (.aastore, 1)) (ha : a ∈ ww_L M) (hK : ww_K M a = 12) (hi : i = nI j) (hj : j < ww_N M a) (hN : ww_N M a < 2 ^ 31) (kk : ww_A g Y d kc ks (ww_sY M a j none) (pc + 1) lv st Q X) : ww_A g Y d kc ks M pc lv (.null :: .int i :: .ref a :: st) Q X := by
  intro p l e R s m args below meth c H locs cells slots mc ms ls C B hl hH hS
  obtain ⟨hx, hb, hml, hret, htb, hown, hts, htr, hF, hfr, hlo⟩ := id C
  obtain ⟨q, hq⟩ := ww_W_get (cy := g.2.2.1) ha
  have hq' := hq
  rw [ww_E_r hK (by omega) (by omega)] at hq'
  subst hi
  have e1 : (nI j).toNatClampNeg = j := nI_clamp (by omega)
  refine va_astqN hx hb hF.1.2 hH.1 hH.2 hS q 3 hq' rfl (vp_in_nI hj (by omega)) hd (fun H1 locs1 hP1 hD1 hS1 => ?_)
  rw [e1, ww_set_Y hH.2 ha hK (by omega) (by omega) hq] at hP1 hD1
  exact kk p l e R s m args below meth c H1 locs1 cells slots mc ms ls C B hl ⟨hP1, hD1⟩ hS1
theorem ww_alen {a : Nat} (hd : decode Y.2.1 pc = .ok (.arraylength, 1)) (ha : a ∈ ww_L M) (hK : 9 ≤ ww_K M a) (hK2 : ww_K M a < 14) (kk : ww_A g Y d kc ks M (pc + 1) lv (.int (nI (ww_N M a)) :: st) Q X) : ww_A g Y d kc ks M pc lv (.ref a :: st) Q X := by
  intro p l e R s m args below meth c H locs cells slots mc ms ls C B hl hH hS
  obtain ⟨hx, hb, hml, hret, htb, hown, hts, htr, hF, hfr, hlo⟩ := id C
  obtain ⟨q, hq⟩ := ww_W_get (cy := g.2.2.1) ha
  have hk := kk p l e R s m args below meth c H locs cells slots mc ms ls C B hl hH hS
  generalize hKa : ww_K M a = κ at hK hK2
  by_cases h1 : κ < 11
  · rw [ww_E_i hKa hK h1] at hq
    have h3 : κ = 9 ∨ κ = 10 := by omega
    rcases h3 with rfl | rfl
    · exact va_alen hx hb hF.1.2 hH.1 q 0 hq rfl rfl hd hk
    · exact va_alen hx hb hF.1.2 hH.1 q 1 hq rfl rfl hd hk
  · by_cases h2 : κ < 13
    · rw [ww_E_r hKa (by omega) h2] at hq
      have h3 : κ = 11 ∨ κ = 12 := by omega
      rcases h3 with rfl | rfl
      · exact va_alen hx hb hF.1.2 hH.1 q 2 hq rfl rfl hd hk
      · exact va_alen hx hb hF.1.2 hH.1 q 3 hq rfl rfl hd hk
    · have h3 : κ = 13 := by omega
      subst h3
      rw [ww_E_l hKa] at hq
      exact va_alen hx hb hF.1.2 hH.1 q 4 hq rfl rfl hd hk
/-- the length of ArrayList's empty array -/
theorem ww_alenE (hd : decode Y.2.1 pc = .ok (.arraylength, 1)) (kk : ww_A g Y d kc ks M (pc + 1) lv (.int 0 :: st) Q X) : ww_A g Y d kc ks M pc lv (.ref (ww_ge g) :: st) Q X := by
  intro p l e R s m args below meth c H locs cells slots mc ms ls C B hl hH hS
  obtain ⟨hx, hb, hml, hret, htb, hown, hts, htr, hF, hfr, hlo⟩ := id C
  have hk := kk p l e R s m args below meth c H locs cells slots mc ms ls C B hl hH hS
  obtain ⟨cell, c1, c2, -, -, c3, -, -⟩ := hF.2.1.2.kept (fun q h1 h2 => hS.2.1 q h1 h2)
  exact W.alen hx hb c1 c2 (c3.trans (by decide)) rfl rfl hd hk
/-- the law's script -/
theorem ww_sld {j : Nat} {i : Int32} (hd : decode Y.2.1 pc = .ok (.iaload, 1)) (hi : i = nI j) (hj : j < ww_gl g) (hN : ww_gl g < 2 ^ 31) (kk : ww_A g Y d kc ks M (pc + 1) lv (.int (ww_gx g j) :: st) Q X) : ww_A g Y d kc ks M pc lv (.int i :: .ref (ww_gb g) :: st) Q X := by
  intro p l e R s m args below meth c H locs cells slots mc ms ls C B hl hH hS
  obtain ⟨hx, hb, hml, hret, htb, hown, hts, htr, hF, hfr, hlo⟩ := id C
  subst hi
  have hk := kk p l e R s m args below meth c H locs cells slots mc ms ls C B hl hH hS
  have e1 : (nI j).toNatClampNeg = j := nI_clamp (by omega)
  exact va_sld hx hb hF.2.2.2.1.1 hF.2.2.2.1.2.2 hF.2.2.2.1.2.1 hS (vp_in_nI hj (by omega)) hd (by rw [e1]; exact hk)
theorem ww_slen (hd : decode Y.2.1 pc = .ok (.arraylength, 1)) (kk : ww_A g Y d kc ks M (pc + 1) lv (.int (nI (ww_gl g)) :: st) Q X) : ww_A g Y d kc ks M pc lv (.ref (ww_gb g) :: st) Q X := by
  intro p l e R s m args below meth c H locs cells slots mc ms ls C B hl hH hS
  obtain ⟨hx, hb, hml, hret, htb, hown, hts, htr, hF, hfr, hlo⟩ := id C
  have hk := kk p l e R s m args below meth c H locs cells slots mc ms ls C B hl hH hS
  exact va_slen hx hb hF.2.2.2.1.1 hF.2.2.2.1.2.2 hF.2.2.2.1.2.1 hS hd hk
end WWH
