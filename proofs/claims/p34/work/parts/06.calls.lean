section WWC
variable {g : ww_G} {Y : ww_Yd} {d kc ks : Nat} {M : ww_M} {pc : Nat} {lv : List (Nat × Value)} {st : List Value} {Q : Option Value → ww_M → Prop} {X : String → ww_M → Prop}
/-! new things -/
def ww_new (own : String) (idx κ : Nat) : Prop := ∃ (q : vw_C) (ty : Nat → FieldType), vwCl[κ]? = some q ∧ q.2.2 = ww_nf κ ∧ (∀ j, j < q.2.2 → parseFieldDescriptor (q.2.1 j).2.2.1 = some (ty j)) ∧ (∀ j, j < q.2.2 → defaultValue (ty j) = (if ww_ir (40 * κ + j) = true then .null else .int 0)) ∧ (∀ w ∈ u_ws q.1 q.2.1 q.2.2, w ∈ ww_GW) ∧ Cond.classLink own idx q.1 ∈ ww_GW ∧ Cond.instantiable q.1 q.2.2 ∈ ww_GW ∧ Cond.initialized q.1 ∈ ww_GW
theorem ww_fv_nw {q κ n f : Nat} : ww_fv (ww_nw M q κ n) f q = (if ww_ir f = true then .null else .int 0) := by
  have e1 : ww_I (ww_nw M q κ n) f q = 0 := if_pos rfl
  have e2 : ww_R (ww_nw M q κ n) f q = none := if_pos rfl
  unfold ww_fv
  rw [e1, e2]
  rfl
theorem ww_K_nw {q κ n : Nat} : ww_K (ww_nw M q κ n) q = κ := if_pos rfl
theorem ww_N_nw {q κ n : Nat} : ww_N (ww_nw M q κ n) q = n := if_pos rfl
theorem ww_fresh {A : Nat → Prop} {cy : Nat → ClassId} {q : Nat} {e : va_E} (hD : va_D A (ww_W cy M ++ [(q, e)])) : q ∉ ww_L M := by
  intro hq
  obtain ⟨j, hj⟩ := ww_W_get (cy := cy) hq
  have hl := (List.getElem?_eq_some_iff.mp hj).1
  have h1 : (ww_W cy M ++ [(q, e)])[j]? = some (q, ww_E cy M q) := by rw [List.getElem?_append_left hl]; exact hj
  have h2 : (ww_W cy M ++ [(q, e)])[(ww_W cy M).length]? = some (q, e) := by
    rw [List.getElem?_append_right (Nat.le_refl _), Nat.sub_self]; rfl
  have := hD.1 _ _ _ _ h1 h2 rfl
  omega
theorem ww_gA_up {g : ww_G} {n : Nat} (h : g.1 ≤ n) : ∀ q, n ≤ q → ww_gA g q := fun q hq => Nat.le_trans h hq
theorem ww_newO {κ idx : Nat} (h : ww_new Y.1.cls idx κ) (hd : decode Y.2.1 pc = .ok (.new idx, 3)) (hc : 1 ≤ kc) (hs : ww_nf κ ≤ ks)
    (kk : ∀ q, q ∉ ww_L M → ww_A g Y d (kc - 1) (ks - ww_nf κ) (ww_nw M q κ 0) (pc + 3) lv (.ref q :: st) Q X) : ww_A g Y d kc ks M pc lv st Q X := by
  intro p l e R s m args below meth c H locs cells slots mc ms ls C B hl hH hS
  obtain ⟨hx, hb, hml, hret, htb, hown, hts, htr, hF, hfr, hlo⟩ := id C
  obtain ⟨r, ty, h1, h2, h3, h4, h5, h6, h7, h8⟩ := h
  have hκ := ww_cl_len h1
  refine va_new (C := r.1) (T := r.2.1) (N := r.2.2) (fs := (List.range (ww_nf κ)).map (fun j => if ww_ir (40 * κ + j) = true then Value.null else .int 0)) hx hb hts h5 ty h3 hown (hts _ h6) (hts _ h7) (hts _ h8) hF.1.2 hH.1 hH.2 hS (ww_gA_up hF.1.1) h1 (fun j hj => ?_) (by omega) (by omega) hd (fun q H1 hP1 hD1 hS1 => ?_)
  · rw [h4 j hj]
    unfold vp_V
    rw [List.getD_eq_getElem?_getD, List.getElem?_map, List.getElem?_range (by rw [← h2]; exact hj)]
    rfl
  · have hq := ww_fresh hD1
    have e1 : ww_E g.2.2.1 (ww_nw M q κ 0) q = .inr (κ, (List.range (ww_nf κ)).map (fun j => if ww_ir (40 * κ + j) = true then Value.null else .int 0)) := by
      rw [ww_E_o ww_K_nw hκ]
      unfold ww_fs
      congr 2
      exact List.map_congr_left (fun j _ => ww_fv_nw)
    rw [ww_W_push hq e1] at hP1 hD1
    rw [h2]
    exact kk q hq p l e R s m args below meth c H1 locs (cells + 1) (slots + ww_nf κ) mc ms ls C ⟨by omega, by omega, B.2.2.1, B.2.2.2⟩ hl ⟨hP1, hD1⟩ hS1
theorem ww_newA {at' : ArrayType} {ty : FieldType} {κ n : Nat} {i : Int32} (hd : decode Y.2.1 pc = .ok (.newarray at', 2)) (hty : newarray.typeOf at' = ty) (hw : Cond.arrayClass ty ∈ ww_GW) (hκ : (κ = 9 ∧ ty = .int)) (hi : i = nI n) (hn : n < 65536) (hc : 1 ≤ kc) (hs : n ≤ ks)
    (kk : ∀ q, q ∉ ww_L M → ww_A g Y d (kc - 1) (ks - n) (ww_nw M q κ n) (pc + 2) lv (.ref q :: st) Q X) : ww_A g Y d kc ks M pc lv (.int i :: st) Q X := by
  intro p l e R s m args below meth c H locs cells slots mc ms ls C B hl hH hS
  obtain ⟨hx, hb, hml, hret, htb, hown, hts, htr, hF, hfr, hlo⟩ := id C
  subst hi
  have key : ∀ (t0 : Nat), (ww_ty g)[t0]? = some (g.2.2.1 κ, ty) → va_RA s (g.2.2.1 κ) ty := fun t0 h => (hF.1.2.2 t0 _ h).2
  have e9 : ∀ (q : Nat) (cA : ClassId) (H1 : Heap), g.2.2.1 κ = cA → 9 ≤ κ → κ < 11 → va_P g.2.1 vwCl (ww_W g.2.2.1 M ++ [(q, .inl (cA, (n, .inl (fun _ => (0 : Int32)))))]) H1 → va_D (ww_gA g) (ww_W g.2.2.1 M ++ [(q, .inl (cA, (n, .inl (fun _ => (0 : Int32)))))]) → va_S (ww_gA g) s.heap H1 locs →
      W p l e R s m args below meth c H1 locs (cells + 1) (slots + n) (vx_MQ below (ww_Qc g Q) (ww_Xc g X) args s mc ms (ww_gA g)) (F0 m (pc + 2) ls (.ref q :: st)) := by
    intro q cA H1 hcy h9 h11 hP1 hD1 hS1
    have hq := ww_fresh hD1
    have e1 : ww_E g.2.2.1 (ww_nw M q κ n) q = .inl (cA, (n, .inl (fun _ => (0 : Int32)))) := by
      rw [ww_E_i ww_K_nw h9 h11, ww_N_nw, hcy]
      have eX : ww_X (ww_nw M q κ n) q = fun _ => (0 : Int32) := funext fun i => if_pos rfl
      rw [eX]
    rw [ww_W_push hq e1] at hP1 hD1
    exact kk q hq p l e R s m args below meth c H1 locs (cells + 1) (slots + n) mc ms ls C ⟨by omega, by omega, B.2.2.1, B.2.2.2⟩ hl ⟨hP1, hD1⟩ hS1
  obtain ⟨rfl, rfl⟩ := hκ
  · refine va_newa (ty := .int) (a0 := (n, .inl (fun _ => (0 : Int32)))) hx hb (by rw [hty]; exact hts _ hw) hty hF.1.2 hH.1 hH.2 hS (ww_gA_up hF.1.1) (fun _ => rfl) (nI_pos (by omega)) (nI_clamp (by omega)) (by show n * 4 ≤ 536870912; omega) (by omega) (by omega) hd (fun q cA H1 hK1 hP1 hD1 hS1 => ?_)
    have h1 : s.vm.findClass ("[" ++ (FieldType.int).toString) = some (g.2.2.1 9) := key 0 rfl
    have h2 : s.vm.findClass ("[" ++ (FieldType.int).toString) = some cA := (hK1.2 5 (cA, .int) rfl).2
    exact e9 q cA H1 (Option.some.inj (h1.symm.trans h2)) (by omega) (by omega) hP1 hD1 hS1
theorem ww_newQ {κ idx n : Nat} {C0 : String} {i : Int32} (hd : decode Y.2.1 pc = .ok (.anewarray idx, 3)) (hκ : (κ = 11 ∧ C0 = "WheelWorks$KindLimits") ∨ (κ = 12 ∧ C0 = "java/lang/Object")) (hw : Cond.classLink Y.1.cls idx C0 ∈ ww_GW) (hi : i = nI n) (hn : n < 65536) (hc : 1 ≤ kc) (hs : n ≤ ks)
    (kk : ∀ q, q ∉ ww_L M → ww_A g Y d (kc - 1) (ks - n) (ww_nw M q κ n) (pc + 3) lv (.ref q :: st) Q X) : ww_A g Y d kc ks M pc lv (.int i :: st) Q X := by
  intro p l e R s m args below meth c H locs cells slots mc ms ls C B hl hH hS
  obtain ⟨hx, hb, hml, hret, htb, hown, hts, htr, hF, hfr, hlo⟩ := id C
  subst hi
  have hAO : va_AO C0 s := by
    rcases hκ with ⟨-, rfl⟩ | ⟨-, rfl⟩
    · exact hF.2.2.2.2.2.2.2.2
    · exact hF.2.2.2.2.2.2.2.1
  refine va_newq hx hb hown (hts _ hw) hAO hF.1.2 hH.1 hH.2 hS (ww_gA_up hF.1.1) (nI_pos (by omega)) (nI_clamp (by omega)) (by omega) (by omega) (by omega) hd (fun q cA H1 hK1 hP1 hD1 hS1 => ?_)
  have h2 : s.vm.findClass ("[" ++ (FieldType.object C0).toString) = some cA := by
    obtain ⟨-, -, -, -, -, h⟩ := (hK1.2 5 (cA, .object C0) rfl).2
    exact h
  have hcy : g.2.2.1 κ = cA := by
    rcases hκ with ⟨rfl, rfl⟩ | ⟨rfl, rfl⟩
    · obtain ⟨-, -, -, -, -, h⟩ := (hF.1.2.2 2 (g.2.2.1 11, .object "WheelWorks$KindLimits") rfl).2
      exact Option.some.inj (h.symm.trans h2)
    · obtain ⟨-, -, -, -, -, h⟩ := (hF.1.2.2 3 (g.2.2.1 12, .object "java/lang/Object") rfl).2
      exact Option.some.inj (h.symm.trans h2)
  have h11 : 11 ≤ κ ∧ κ < 13 := by omega
  have hq := ww_fresh hD1
  have e1 : ww_E g.2.2.1 (ww_nw M q κ n) q = .inl (cA, (n, .inr (.inr (.inr (.inr (fun _ => none)))))) := by
    rw [ww_E_r ww_K_nw h11.1 h11.2, ww_N_nw, hcy]
    have eX : ww_Y (ww_nw M q κ n) q = fun _ => none := funext fun i => if_pos rfl
    rw [eX]
  rw [ww_W_push hq e1] at hP1 hD1
  exact kk q hq p l e R s m args below meth c H1 locs (cells + 1) (slots + n) mc ms ls C ⟨by omega, by omega, B.2.2.1, B.2.2.2⟩ hl ⟨hP1, hD1⟩ hS1
/-! returns -/
theorem ww_ireturn {ty : FieldType} {v : Int32} (hd : decode Y.2.1 pc = .ok (.ireturn, 1)) (hr : Y.2.2.2.1 = some ty) (hn : narrow ty (.int v) = .int v) (hQ : Q (some (.int v)) M) : ww_A g Y d kc ks M pc lv [.int v] Q X := by
  intro p l e R s m args below meth c H locs cells slots mc ms ls C B hl hH hS
  obtain ⟨hx, hb, hml, ⟨hret, hlk, hnm⟩, htb, hown, hts, htr, hF, hfr, hlo⟩ := id C
  exact vx_ret (W.widen (k := mc) (n := ms) (by omega) (by omega) (W.zret hx hb (hret.trans hr) hn (fun t ht _ => ⟨⟨_, M, rfl, hQ, by rw [ht]; exact hH⟩, hS.F ht⟩) hS.2.2 hd hlk))
theorem ww_vreturn (hd : decode Y.2.1 pc = .ok (.return_, 1)) (hr : Y.2.2.2.1 = none) (hQ : Q none M) : ww_A g Y d kc ks M pc lv [] Q X := by
  intro p l e R s m args below meth c H locs cells slots mc ms ls C B hl hH hS
  obtain ⟨hx, hb, hml, ⟨hret, hlk, hnm⟩, htb, hown, hts, htr, hF, hfr, hlo⟩ := id C
  exact vx_ret (W.widen (k := mc) (n := ms) (by omega) (by omega) (W.vret hx hb (hret.trans hr) (fun t ht _ => ⟨⟨_, M, rfl, hQ, by rw [ht]; exact hH⟩, hS.F ht⟩) hS.2.2 hd hlk))
theorem ww_areturn {ty : FieldType} {v : Value} {r : Option Nat} (hd : decode Y.2.1 pc = .ok (.areturn, 1)) (hr : Y.2.2.2.1 = some ty) (hrt : (∃ n, ty = .object n) ∨ ∃ t, ty = .array t) (hv : va_rf r = v) (hQ : Q (some v) M) : ww_A g Y d kc ks M pc lv [v] Q X := by
  intro p l e R s m args below meth c H locs cells slots mc ms ls C B hl hH hS
  obtain ⟨hx, hb, hml, ⟨hret, hlk, hnm⟩, htb, hown, hts, htr, hF, hfr, hlo⟩ := id C
  exact vx_ret (W.widen (k := mc) (n := ms) (by omega) (by omega) (W.aret hx hb (hret.trans hr) hrt (by rw [← hv]; exact ww_rf_ref r) (fun t ht _ => ⟨⟨_, M, rfl, hQ, by rw [ht]; exact hH⟩, hS.F ht⟩) hS.2.2 hd hlk))
/-! throws -/
def ww_thr (own : String) (ik is ic : Nat) (cls text : String) (names : List String) : Prop := Bundle.fit cls = true ∧ (∀ n ∈ names, Bundle.fit n = true) ∧ Cond.classLink own ik cls ∈ ww_GW ∧ Cond.initialized cls ∈ ww_GW ∧ (own, is, text) ∈ ww_str ∧ (∀ w ∈ vx_atS own ic cls names, w ∈ ww_GW ∨ (∃ q ∈ ww_ca, w = .castable q.1 q.2) ∨ (∃ x ∈ ww_de, w = .declares x)) ∧ names.length = 2
theorem ww_thr_ot {own : String} {ik is ic : Nat} {cls text : String} {names : List String} (h : ww_thr own ik is ic cls text names) : ∀ w ∈ Cond.classLink own ik cls :: Cond.initialized cls :: vx_atS own ic cls names, vx_ot w = true := by
  obtain ⟨-, -, h1, h2, -, h3, -⟩ := h
  have gw : ∀ w, w ∈ ww_GW → vx_ot w = true := fun w hw => by unfold vx_ot; rw [(List.mem_filter.mp hw).2, Bool.or_true]
  intro w hw
  rcases List.mem_cons.mp hw with rfl | hw
  · exact gw _ h1
  · rcases List.mem_cons.mp hw with rfl | hw
    · exact gw _ h2
    · rcases h3 w hw with h | ⟨q, -, rfl⟩ | ⟨x, -, rfl⟩
      · exact gw _ h
      · rfl
      · rfl
theorem ww_thr_at {own : String} {ik is ic : Nat} {cls text : String} {names : List String} {s : State} {args : Array Value} {H : Heap} (h : ww_thr own ik is ic cls text names) (hts : ∀ w ∈ ww_GW, w.before args s = true) (hF : ww_F g s H) : ∀ w ∈ vx_atS own ic cls names, w.before args s = true := by
  intro w hw
  rcases h.2.2.2.2.2.1 w hw with h | ⟨q, hq, rfl⟩ | ⟨x, hx, rfl⟩
  · exact hts _ h
  · exact va_Nw.use rfl (hF.2.2.2.2.2.1.1 q hq)
  · exact va_Nw.use rfl (hF.2.2.2.2.2.1.2.1 x hx)
theorem ww_throw {ik is ic : Nat} {cls text : String} {names : List String} (h : ww_thr Y.1.cls ik is ic cls text names) (d0 : decode Y.2.1 pc = .ok (.new ik, 3)) (d3 : decode Y.2.1 (pc + 3) = .ok (.dup, 1)) (d4 : decode Y.2.1 (pc + 4) = .ok (.ldc is, 2)) (d6 : decode Y.2.1 (pc + 6) = .ok (.invokespecial ic, 3)) (d9 : decode Y.2.1 (pc + 9) = .ok (.athrow, 1))
    (h0 : Y.2.2.2.2 = []) (hd : 6 ≤ d) (hc : 1 ≤ kc) (hs : 6 ≤ ks) (hw : (st.map fun v => v.category).sum ≤ 8) (hX : X cls M) : ww_A g Y d kc ks M pc lv st Q X := by
  intro p l e R s m args below meth c H locs cells slots mc ms ls C B hl hH hS
  obtain ⟨hx, hb, hml, ⟨hret, hlk, hnm⟩, htb, hown, hts, htr, hF, hfr, hlo⟩ := id C
  obtain ⟨a1, a2, a3, a4, a5, a6, a7⟩ := id h
  obtain ⟨sa, hsa⟩ := hF.2.2.2.2.1 _ a5
  refine vx_throwS hx hb htr hown a1 a2 (hts _ a3) (hts _ a4) hsa (ww_thr_at h hts hF) (ww_thr_ot h) hF.2.2.1.1 hF.2.2.1.2 hS (hl.1.1.trans hml.symm) d0 d3 d4 d6 d9 (fun z hz => ?_) (by omega) (by omega) (by omega) (by omega) hlk (fun t ht h1 h2 => ?_) hS.2.2 (by omega) (by omega)
  · rw [htb, h0] at hz
    cases hz
  · refine ⟨⟨M, hX, hH.1.kept (fun k q hk => h2 q.1 (hH.1 k q hk).lt), hH.2⟩, Nat.le_trans hS.1 h1, fun q hq hA => ?_⟩
    rw [h2 q (Nat.lt_of_lt_of_le hq hS.1)]
    exact hS.2.1 q hq hA
theorem ww_throwW {ik is ic : Nat} {cls text : String} {names : List String} (h : ww_thr Y.1.cls ik is ic cls text names) (d0 : decode Y.2.1 pc = .ok (.new ik, 3)) (d3 : decode Y.2.1 (pc + 3) = .ok (.dup, 1)) (d4 : decode Y.2.1 (pc + 4) = .ok (.ldc_w is, 3)) (d6 : decode Y.2.1 (pc + 7) = .ok (.invokespecial ic, 3)) (d9 : decode Y.2.1 (pc + 10) = .ok (.athrow, 1))
    (h0 : Y.2.2.2.2 = []) (hd : 6 ≤ d) (hc : 1 ≤ kc) (hs : 6 ≤ ks) (hw : (st.map fun v => v.category).sum ≤ 8) (hX : X cls M) : ww_A g Y d kc ks M pc lv st Q X := by
  intro p l e R s m args below meth c H locs cells slots mc ms ls C B hl hH hS
  obtain ⟨hx, hb, hml, ⟨hret, hlk, hnm⟩, htb, hown, hts, htr, hF, hfr, hlo⟩ := id C
  obtain ⟨a1, a2, a3, a4, a5, a6, a7⟩ := id h
  obtain ⟨sa, hsa⟩ := hF.2.2.2.2.1 _ a5
  refine vx_throwSW hx hb htr hown a1 a2 (hts _ a3) (hts _ a4) hsa (ww_thr_at h hts hF) (ww_thr_ot h) hF.2.2.1.1 hF.2.2.1.2 hS (hl.1.1.trans hml.symm) d0 d3 d4 d6 d9 (fun z hz => ?_) (by omega) (by omega) (by omega) (by omega) hlk (fun t ht h1 h2 => ?_) hS.2.2 (by omega) (by omega)
  · rw [htb, h0] at hz
    cases hz
  · refine ⟨⟨M, hX, hH.1.kept (fun k q hk => h2 q.1 (hH.1 k q hk).lt), hH.2⟩, Nat.le_trans hS.1 h1, fun q hq hA => ?_⟩
    rw [h2 q (Nat.lt_of_lt_of_le hq hS.1)]
    exact hS.2.1 q hq hA
/-! casts, statics, Object's constructor, class objects, arraycopy -/
theorem ww_cast {κ idx a : Nat} {r : vw_C} {nm : String} (hd : decode Y.2.1 pc = .ok (.checkcast idx, 3)) (ha : a ∈ ww_L M) (hK : ww_K M a = κ) (hr : vwCl[κ]? = some r) (hw : Cond.classLink Y.1.cls idx r.1 ∈ ww_GW) (kk : ww_A g Y d kc ks M (pc + 3) lv (.ref a :: st) Q X) : ww_A g Y d kc ks M pc lv (.ref a :: st) Q X := by
  intro p l e R s m args below meth c H locs cells slots mc ms ls C B hl hH hS
  obtain ⟨hx, hb, hml, hret, htb, hown, hts, htr, hF, hfr, hlo⟩ := id C
  obtain ⟨q, hq⟩ := ww_W_get (cy := g.2.2.1) ha
  rw [ww_E_o hK (ww_cl_len hr)] at hq
  exact va_castS (nm := r.1) (cC := g.2.1.1 κ) hx hb hown (hts _ hw) (hF.1.2.1 κ r hr).2 (va_recv hF.1.2 hH.1 hr hq) hd (kk p l e R s m args below meth c H locs cells slots mc ms ls C B hl hH hS)
theorem ww_castN {idx : Nat} (hd : decode Y.2.1 pc = .ok (.checkcast idx, 3)) (kk : ww_A g Y d kc ks M (pc + 3) lv (.null :: st) Q X) : ww_A g Y d kc ks M pc lv (.null :: st) Q X := by
  intro p l e R s m args below meth c H locs cells slots mc ms ls C B hl hH hS
  exact lv_castN C.1 C.2.1 hd (kk p l e R s m args below meth c H locs cells slots mc ms ls C B hl hH hS)
theorem ww_getE {idx : Nat} (hd : decode Y.2.1 pc = .ok (.getstatic idx, 3)) (hw : Cond.fieldLink Y.1.cls idx RJx4a65c "DEFAULTCAPACITY_EMPTY_ELEMENTDATA" "[Ljava/lang/Object;" ∈ ww_GW) (kk : ww_A g Y d kc ks M (pc + 3) lv (.ref (ww_ge g) :: st) Q X) : ww_A g Y d kc ks M pc lv st Q X := by
  intro p l e R s m args below meth c H locs cells slots mc ms ls C B hl hH hS
  obtain ⟨hx, hb, hml, hret, htb, hown, hts, htr, hF, hfr, hlo⟩ := id C
  exact va_gets hx hb hF.2.1.1 hS hown (hts _ hw) (fun _ h => h) hd (kk p l e R s m args below meth c H locs cells slots mc ms ls C B hl hH hS)
theorem ww_objInit {idx a : Nat} (hd : decode Y.2.1 pc = .ok (.invokespecial idx, 3)) (hw : Cond.methodLink Y.1.cls idx Lib.objectInit ∈ ww_GW) (hw2 : Cond.instanceMethod Lib.objectInit ∈ ww_GW) (hw3 : Cond.code Lib.objectInit ⟨#[0xb1]⟩ 1 none ∈ ww_GW) (hd1 : 1 ≤ d) (hst : (st.map fun v => v.category).sum ≤ 8) (kk : ww_A g Y d kc ks M (pc + 3) lv st Q X) : ww_A g Y d kc ks M pc lv (.ref a :: st) Q X := by
  intro p l e R s m args below meth c H locs cells slots mc ms ls C B hl hH hS
  obtain ⟨hx, hb, hml, hret, htb, hown, hts, htr, hF, hfr, hlo⟩ := id C
  have h0 : 2 * (F0 m pc ls (.ref a :: st)).monitorRoom + (st.map fun v => v.category).sum ≤ 8 := lv_room hst
  exact W.objInit hx hb hown (hts _ hw) (hts _ hw2) (hts _ hw3) (g := F0 m pc ls (.ref a :: st)) rfl (hl.1.1.trans hml.symm) rfl hd (by omega) (by omega) (kk p l e R s m args below meth c H locs cells slots mc ms ls C B hl hH hS)
theorem ww_ldcM {idx : Nat} (hd : decode Y.2.1 pc = .ok (.ldc idx, 2)) (hw : Cond.classLink Y.1.cls idx "[Ljava/lang/Object;" ∈ ww_GW) (kk : ww_A g Y d kc ks M (pc + 2) lv (.ref (ww_gm g) :: st) Q X) : ww_A g Y d kc ks M pc lv st Q X := by
  intro p l e R s m args below meth c H locs cells slots mc ms ls C B hl hH hS
  obtain ⟨hx, hb, hml, hret, htb, hown, hts, htr, hF, hfr, hlo⟩ := id C
  exact va_ldcM hx hb hown (hts _ hw) hF.2.2.2.2.2.2.1 hd (kk p l e R s m args below meth c H locs cells slots mc ms ls C B hl hH hS)
theorem ww_arr_cell {κ a : Nat} {C0 : String} {s : State} {H : Heap} (hF : va_K g.2.1 vwCl (ww_ty g) s) (hH : ww_H g M H) (ha : a ∈ ww_L M) (hK : ww_K M a = 12) : ∃ cell : Cell, H[a]? = some cell ∧ cell.vm.isStatics = false ∧ s.vm.findClass "[Ljava/lang/Object;" = some cell.cls := by
  obtain ⟨q, hq⟩ := ww_W_get (cy := g.2.2.1) ha
  rw [ww_E_r hK (by omega) (by omega)] at hq
  have h := hH.1 _ _ hq
  obtain ⟨-, -, -, -, -, h4⟩ := (hF.2 3 (g.2.2.1 12, .object "java/lang/Object") rfl).2
  exact ⟨_, h, rfl, h4⟩
theorem ww_getC {idx a : Nat} (hd : decode Y.2.1 pc = .ok (.invokevirtual idx, 3)) (ha : a ∈ ww_L M) (hK : ww_K M a = 12) (hw : Cond.methodLink Y.1.cls idx ⟨"java/lang/Object", "getClass", "()Ljava/lang/Class;"⟩ ∈ ww_GW) (hw1 : (⟨"java/lang/Object", "getClass", "()Ljava/lang/Class;"⟩ : MethodName) ∈ ww_de) (hw2 : Cond.selects "[Ljava/lang/Object;" ⟨"java/lang/Object", "getClass", "()Ljava/lang/Class;"⟩ ⟨"java/lang/Object", "getClass", "()Ljava/lang/Class;"⟩ ∈ ww_GW) (hw3 : Cond.instanceMethod ⟨"java/lang/Object", "getClass", "()Ljava/lang/Class;"⟩ ∈ ww_GW) (hw4 : Cond.native ⟨"java/lang/Object", "getClass", "()Ljava/lang/Class;"⟩ ∈ ww_GW) (hd1 : 1 ≤ d) (hst : (st.map fun v => v.category).sum ≤ 8)
    (kk : ww_A g Y d kc ks M (pc + 3) lv (.ref (ww_gm g) :: st) Q X) : ww_A g Y d kc ks M pc lv (.ref a :: st) Q X := by
  intro p l e R s m args below meth c H locs cells slots mc ms ls C B hl hH hS
  obtain ⟨hx, hb, hml, hret, htb, hown, hts, htr, hF, hfr, hlo⟩ := id C
  exact va_getC hx hb (hml.trans hl.1.1.symm) hown (hts _ hw) (va_Nw.use rfl (hF.2.2.2.2.2.1.2.1 _ hw1)) (hts _ hw2) (hts _ hw3) (hts _ hw4) hF.2.2.2.2.2.2.1 (ww_arr_cell (κ := 12) (C0 := "") hF.1.2 hH ha hK) (by omega) (by omega) hd (kk p l e R s m args below meth c H locs cells slots mc ms ls C B hl hH hS)
theorem ww_copy {idx a b κ n0 n1 n2 : Nat} {r : vw_C} {sp dp n : Int32} (hd : decode Y.2.1 pc = .ok (.invokestatic idx, 3)) (hw : Cond.methodLink Y.1.cls idx arraycopyName ∈ ww_GW) (hw1 : Cond.native arraycopyName ∈ ww_GW) (hw2 : Cond.static arraycopyName ∈ ww_GW) (hw3 : Cond.initialized "java/lang/System" ∈ ww_GW)
    (ha : a ∈ ww_L M) (hK : ww_K M a = 12) (hb2 : b ∈ ww_L M) (hKb : ww_K M b = 12) (e0 : sp = nI n0) (e1 : dp = nI n1) (e2 : n = nI n2) (l0 : n0 + n2 ≤ ww_N M a) (l1 : n1 + n2 ≤ ww_N M b) (l2 : ww_N M a < 2 ^ 31) (l3 : ww_N M b < 2 ^ 31)
    (hr : vwCl[κ]? = some r) (hca : (r.1, "java/lang/Object") ∈ ww_ca) (hel : ∀ i, i < n2 → ∀ y, ww_Y M a (n0 + i) = some y → y ∈ ww_L M ∧ ww_K M y = κ) (hd1 : 1 ≤ d) (hst : (st.map fun v => v.category).sum ≤ 8)
    (kk : ww_A g Y d kc ks (ww_cY M b (va_cpy (ww_Y M a) (ww_Y M b) n0 n1 n2)) (pc + 3) lv st Q X) : ww_A g Y d kc ks M pc lv (.int n :: .int dp :: .ref b :: .int sp :: .ref a :: st) Q X := by
  intro p l e R s m args below meth c H locs cells slots mc ms ls C B hl hH hS
  obtain ⟨hx, hb, hml, hret, htb, hown, hts, htr, hF, hfr, hlo⟩ := id C
  obtain ⟨q, hq⟩ := ww_W_get (cy := g.2.2.1) ha
  obtain ⟨q2, hq2⟩ := ww_W_get (cy := g.2.2.1) hb2
  have hq2' := hq2
  rw [ww_E_r hK (by omega) (by omega)] at hq
  rw [ww_E_r hKb (by omega) (by omega)] at hq2'
  subst e0 e1 e2
  have c0 : (nI n0).toNatClampNeg = n0 := nI_clamp (by omega)
  have c1 : (nI n1).toNatClampNeg = n1 := nI_clamp (by omega)
  have c2 : (nI n2).toNatClampNeg = n2 := nI_clamp (by omega)
  have hnw : nativeFrameWords "java/lang/System" "arraycopy" 5 ≤ 60 := by decide +kernel
  refine va_copyM hx hb (hml.trans hl.1.1.symm) hown (hts _ hw) (hts _ hw1) (hts _ hw2) (hts _ hw3) hF.1.2 hH.1 hH.2 hS q q2 3 3 hq hq2' rfl rfl (nI_pos (by omega)) (nI_pos (by omega)) (nI_pos (by omega)) (by rw [c0, c2]; exact l0) (by rw [c1, c2]; exact l1) (fun i hi y hy => ?_) (by omega) (by omega) hd (fun H1 locs1 hP1 hD1 hS1 => ?_)
  · rw [c2] at hi
    rw [c0] at hy
    obtain ⟨hyL, hyK⟩ := hel i hi y hy
    obtain ⟨q3, hq3⟩ := ww_W_get (cy := g.2.2.1) hyL
    rw [ww_E_o hyK (ww_cl_len hr)] at hq3
    refine va_rAny hF.1.2 hH.1 hq3 hr (fun comp c0 h1 h2 => ?_)
    obtain ⟨c3, c4, h3, h4, h5⟩ := Cond.castable_spec (va_Nw.use (A := #[]) rfl (hF.2.2.2.2.2.1.1 _ hca))
    cases h3.symm.trans h2
    cases h4.symm.trans h1
    exact h5
  · rw [c0, c1, c2] at hP1 hD1
    have hset : (ww_W g.2.2.1 M).set q2 (b, .inl (g.2.2.1 12, ww_N M b, .inr (.inr (.inr (.inr (va_cpy (ww_Y M a) (ww_Y M b) n0 n1 n2)))))) = ww_W g.2.2.1 (ww_cY M b (va_cpy (ww_Y M a) (ww_Y M b) n0 n1 n2)) := by
      refine ww_W_set hH.2 hb2 hq2 rfl ?_ (fun z hz => ww_E_congr rfl rfl (if_neg hz) rfl (fun _ => rfl))
      rw [ww_E_r (M := ww_cY M b _) (κ := 12) hKb (by omega) (by omega)]
      have eY : ww_Y (ww_cY M b (va_cpy (ww_Y M a) (ww_Y M b) n0 n1 n2)) b = va_cpy (ww_Y M a) (ww_Y M b) n0 n1 n2 := if_pos rfl
      rw [eY]
      rfl
    rw [hset] at hP1 hD1
    exact kk p l e R s m args below meth c H1 locs1 cells slots mc ms ls C B hl ⟨hP1, hD1⟩ hS1
end WWC
