section WWI
variable {g : ww_G} {Y : ww_Yd} {d kc ks : Nat} {M : ww_M} {pc : Nat} {lv : List (Nat × Value)} {st : List Value} {Q : Option Value → ww_M → Prop} {X : String → ww_M → Prop}
/-- the words of a callee's own -/
def ww_cal (Y' : ww_Yd) (n : Nat) : Prop := ww_hd Y' ∈ ww_GW ∧ Cond.initialized Y'.1.cls ∈ ww_GW ∧ (Y'.1.cls ≠ "java/lang/invoke/MethodHandle" ∧ Y'.1.cls ≠ "java/lang/invoke/VarHandle") ∧ (parseMethodDescriptor Y'.1.desc).map (fun d => d.parameters.length) = some n ∧ Y'.2.2.1 ≤ 60
def ww_vir (own : String) (idx : Nat) (Y' : ww_Yd) (n : Nat) : Prop := ww_cal Y' n ∧ Y'.2.2.2.2 = [] ∧ Cond.methodLink own idx Y'.1 ∈ ww_GW ∧ Cond.instanceMethod Y'.1 ∈ ww_GW ∧ Cond.selects Y'.1.cls Y'.1 Y'.1 ∈ ww_GW
def ww_sta (own : String) (idx : Nat) (Y' : ww_Yd) (n : Nat) : Prop := ww_cal Y' n ∧ Cond.methodLink own idx Y'.1 ∈ ww_GW ∧ Cond.static Y'.1 ∈ ww_GW
def ww_ini (own : String) (idx : Nat) (Y' : ww_Yd) (n : Nat) : Prop := ww_cal Y' n ∧ Y'.2.2.2.2 = [] ∧ Cond.methodLink own idx Y'.1 ∈ ww_GW ∧ Cond.instanceMethod Y'.1 ∈ ww_GW ∧ Y'.1.name = "<init>"
def ww_inn (own : String) (idx : Nat) (Y' : ww_Yd) (n : Nat) : Prop := ww_cal Y' n ∧ Y'.2.2.2.2 = [] ∧ (∃ h, (own, idx, Y'.1, h) ∈ ww_ne) ∧ Cond.instanceMethod Y'.1 ∈ ww_GW ∧ Y'.1.name = "<init>"
theorem ww_hd0 {Y' : ww_Yd} (h : Y'.2.2.2.2 = []) : ww_hd Y' = .code Y'.1 Y'.2.1 Y'.2.2.1 Y'.2.2.2.1 := by unfold ww_hd; rw [h]
theorem ww_hd1 {Y' : ww_Yd} {z : Nat × Nat × Nat × Nat} {t : List (Nat × Nat × Nat × Nat)} (h : Y'.2.2.2.2 = z :: t) : ww_hd Y' = .codeWith Y'.1 Y'.2.1 Y'.2.2.1 Y'.2.2.2.1 (z :: t) := by unfold ww_hd; rw [h]
theorem ww_pay {Y' : ww_Yd} {n : Nat} {s : State} {args : Array Value} (h : ww_cal Y' n) (hts : ∀ w ∈ ww_GW, w.before args s = true) : ∀ w ∈ ww_hd Y' :: ww_GW, ∀ (a' : Array Value) (U : State), s.WarmedH U.vm → w.before a' U = true := by
  intro w hw a' U hW
  have hw' : w ∈ ww_GW := by
    rcases List.mem_cons.mp hw with rfl | hw
    · exact h.1
    · exact hw
  exact ww_word hW hw' (hts _ hw')
theorem ww_desc {Y' : ww_Yd} {n : Nat} (h : (parseMethodDescriptor Y'.1.desc).map (fun d => d.parameters.length) = some n) : ∀ sig, parseMethodDescriptor Y'.1.desc = some sig → n = sig.parameters.length := by
  intro sig h2
  rw [h2] at h
  exact (Option.some.inj h).symm
/-- what a thing of the pool's is, as a call's receiver -/
theorem ww_recv {g : ww_G} {M : ww_M} {κ a : Nat} {r : vw_C} {s : State} {H : Heap} (hF : va_K g.2.1 vwCl (ww_ty g) s) (hH : ww_H g M H) (ha : a ∈ ww_L M) (hK : ww_K M a = κ) (hr : vwCl[κ]? = some r) : ∃ cell : Cell, H[a]? = some cell ∧ cell.vm.isStatics = false ∧ s.vm.findClass r.1 = some cell.cls := by
  obtain ⟨q, hq⟩ := ww_W_get (cy := g.2.2.1) ha
  rw [ww_E_o hK (ww_cl_len hr)] at hq
  exact va_recv hF hH.1 hr hq
theorem ww_blindP {g : ww_G} {s : State} {H : Heap} {locs : List Loc} {M : ww_M} {av : List Value} (hF : ww_F g s s.heap) (hH : ww_H g M H) (hS : va_S (ww_gA g) s.heap H locs) : ∀ U : State, U.heap = H → s.WarmedH U.vm → ww_Pc g av M av.toArray U := by
  intro U hU hW
  subst hU
  exact ⟨rfl, ww_F_to hW hF hS.1 hS.2.1, hH⟩
/-- behind a call: it returned, or threw what isn't caught here -/
theorem ww_behind {p : Program} {l : Launch} {e : Env} {R : Room} {s : State} {m : MethodId} {args : Array Value} {below : List Frame} {meth : Method} {c : Code} {H : Heap} {locs : List Loc} {cells slots mc ms mc' ms' : Nat} {ls : Array Slot} {a : Array Value} {st0 rest : List Value} {Q' : Option Value → ww_M → Prop} {X' : String → ww_M → Prop}
    (C : ww_Cx g Y d p l R s m args meth c) (B : cells + kc ≤ mc ∧ slots + ks ≤ ms ∧ mc ≤ R.cells ∧ ms ≤ R.slots) (hl : ww_lv ls Y.2.2.1 lv) (hS : va_S (ww_gA g) s.heap H locs) (h0 : Y.2.2.2.2 = []) (hkc : mc' ≤ kc) (hks : ms' ≤ ks)
    (hr : vx_Run p l e R s m args below meth c H locs cells slots mc' ms' (F0 m pc ls st0) rest (ww_Qc g Q' a) (ww_Xc g X') (ww_gA g))
    (hx : ∀ E M', X' E M' → X E M') (hk : ∀ v M', Q' v M' → ww_A g Y d (kc - mc') (ks - ms') M' (pc + 3) lv (v.toList ++ rest) Q X) :
    W p l e R s m args below meth c H locs cells slots (vx_MQ below (ww_Qc g Q) (ww_Xc g X) args s mc ms (ww_gA g)) (F0 m pc ls st0) := by
  intro T hT X0
  rcases hr T hT X0 with ⟨v, st₀, t, T', L, hh, X1, hL, e1, e2, ⟨⟨v', M', hv, hQ, hH'⟩, hF'⟩, st⟩ | ⟨q, st₀, t, T', L, E, ce, hh, X1, hL, e1, e2, ⟨⟨M', hX, hH'⟩, hF'⟩, hce, hcv, hcl, st⟩
  · cases hv
    obtain ⟨k1, k2, k3⟩ := vx_keep hh e1 hS (fun _ _ h => h) (fun _ h => h) hL hF'
    obtain ⟨t2, a1, b1⟩ := hk v M' hQ p l e R s m args below meth c T'.heap (locs ++ L) (cells + mc') (slots + ms') mc ms ls C ⟨by omega, by omega, B.2.2.1, B.2.2.2⟩ hl (by rw [e1]; exact hH') k3 T' rfl X1
    exact ⟨t2, st t2 a1, b1⟩
  · obtain ⟨k1, k2, k3⟩ := vx_keep hh e1 hS (fun _ _ h => h) (fun _ h => h) hL hF'
    obtain ⟨hxx, hb, hml, ⟨hret, hlk, hnm⟩, htb, hown, hts, htr, hF, hfr, hlo⟩ := id C
    have hout : ∀ x ∈ c.exceptionTable.toList, covers x pc = false := fun z hz => by rw [htb, h0] at hz; cases hz
    obtain ⟨t2, a1, b1⟩ := vx_out (Qc := ww_Qc g Q) (XC := ww_Xc g X) (H := T'.heap) (locs := locs ++ L) (cells := cells + mc') (slots := slots + ms') (free := ww_gA g) (mc := mc) (ms := ms) (ls := ls) (rest := rest) hout hlk (by rw [e1]; exact hce) hcv hcl (fun t' ht' _ => ⟨⟨M', hx E M' hX, by rw [ht', e1]; exact hH'⟩, k3.F ht'⟩) k3.2.2 (by omega) (by omega) T' rfl X1
    exact ⟨t2, st.trans a1, b1⟩
theorem ww_callV {Y' : ww_Yd} {idx n b κ d' mc' ms' : Nat} {As rest : List Value} {r : vw_C} {Q' : Option Value → ww_M → Prop} {X' : String → ww_M → Prop} (hw : ww_vir Y.1.cls idx Y' n) (hd : decode Y.2.1 pc = .ok (.invokevirtual idx, 3)) (hM : ww_C g Y' d' mc' ms' (.ref b :: As) M Q' X') (hn : As.length = n) (hst : st = As.reverse ++ .ref b :: rest)
    (hb2 : b ∈ ww_L M) (hK : ww_K M b = κ) (hr : vwCl[κ]? = some r) (hrc : r.1 = Y'.1.cls) (hdd : d' + 1 ≤ d) (hkc : mc' ≤ kc) (hks : ms' ≤ ks) (hW : (rest.map fun v => v.category).sum ≤ 8) (h0 : Y.2.2.2.2 = [])
    (hx : ∀ E M', X' E M' → X E M') (hk : ∀ v M', Q' v M' → ww_A g Y d (kc - mc') (ks - ms') M' (pc + 3) lv (v.toList ++ rest) Q X) : ww_A g Y d kc ks M pc lv st Q X := by
  intro p l e R s m args below meth c H locs cells slots mc ms ls C B hl hH hS
  obtain ⟨hxx, hb, hml, ⟨hret, hlk, hnm⟩, htb, hown, hts, htr, hF, hfr, hlo⟩ := id C
  obtain ⟨hc, hh0, w1, w2, w3⟩ := hw
  obtain ⟨c1, c2, c3, c4, c5⟩ := id hc
  have hcw : Cond.code Y'.1 Y'.2.1 Y'.2.2.1 Y'.2.2.2.1 ∈ ww_hd Y' :: ww_GW := by rw [← ww_hd0 hh0]; exact List.mem_cons_self
  have hcc : (Cond.code Y'.1 Y'.2.1 Y'.2.2.1 Y'.2.2.2.1).before args s = true := by rw [← ww_hd0 hh0]; exact hts _ c1
  have hrecv := ww_recv hF.1.2 hH hb2 hK hr
  rw [hrc] at hrecv
  subst hst
  exact ww_behind C B hl hS h0 hkc hks (vx_runV (As := As) (rest := rest) (own := Y.1.cls) (Ts := ww_GW) ⟨hxx, hb, hml, hown, hts⟩ (hM l htr)
    ⟨⟨rfl, rfl, Nat.le_trans hdd hfr, by show 8 + (Y'.2.2.1 + 11) + 100 * d' ≤ R.locals; omega, ww_pay hc hts, hcw, hcc, hts _ c2, c3, ww_desc c4, hts _ w1⟩, hts _ w2, hts _ w3⟩
    ⟨ww_blind, hrecv, ww_blindP hF hH hS⟩ rfl hn hl.1.1 rfl (lv_room hW) hd ⟨by omega, by omega⟩) hx hk
theorem ww_callS {Y' : ww_Yd} {idx n d' mc' ms' : Nat} {As rest : List Value} {Q' : Option Value → ww_M → Prop} {X' : String → ww_M → Prop} (hw : ww_sta Y.1.cls idx Y' n) (hh0 : Y'.2.2.2.2 = []) (hd : decode Y.2.1 pc = .ok (.invokestatic idx, 3)) (hM : ww_C g Y' d' mc' ms' As M Q' X') (hn : As.length = n) (hst : st = As.reverse ++ rest)
    (hdd : d' + 1 ≤ d) (hkc : mc' ≤ kc) (hks : ms' ≤ ks) (hW : (rest.map fun v => v.category).sum ≤ 8) (h0 : Y.2.2.2.2 = [])
    (hx : ∀ E M', X' E M' → X E M') (hk : ∀ v M', Q' v M' → ww_A g Y d (kc - mc') (ks - ms') M' (pc + 3) lv (v.toList ++ rest) Q X) : ww_A g Y d kc ks M pc lv st Q X := by
  intro p l e R s m args below meth c H locs cells slots mc ms ls C B hl hH hS
  obtain ⟨hxx, hb, hml, ⟨hret, hlk, hnm⟩, htb, hown, hts, htr, hF, hfr, hlo⟩ := id C
  obtain ⟨hc, w1, w2⟩ := hw
  obtain ⟨c1, c2, c3, c4, c5⟩ := id hc
  have hcw : Cond.code Y'.1 Y'.2.1 Y'.2.2.1 Y'.2.2.2.1 ∈ ww_hd Y' :: ww_GW := by rw [← ww_hd0 hh0]; exact List.mem_cons_self
  have hcc : (Cond.code Y'.1 Y'.2.1 Y'.2.2.1 Y'.2.2.2.1).before args s = true := by rw [← ww_hd0 hh0]; exact hts _ c1
  subst hst
  exact ww_behind C B hl hS h0 hkc hks (vx_runS (As := As) (rest := rest) (own := Y.1.cls) (Ts := ww_GW) ⟨hxx, hb, hml, hown, hts⟩ (hM l htr)
    ⟨⟨rfl, rfl, Nat.le_trans hdd hfr, by show 8 + (Y'.2.2.1 + 11) + 100 * d' ≤ R.locals; omega, ww_pay hc hts, hcw, hcc, hts _ c2, c3, ww_desc c4, hts _ w1⟩, hts _ w2⟩
    ⟨ww_blind, ww_blindP hF hH hS⟩ rfl hn hl.1.1 rfl (lv_room hW) hd ⟨by omega, by omega⟩) hx hk
/-- a static method with handlers of its own -/
theorem ww_callSH {Y' : ww_Yd} {idx n d' mc' ms' : Nat} {As rest : List Value} {z : Nat × Nat × Nat × Nat} {t : List (Nat × Nat × Nat × Nat)} {Q' : Option Value → ww_M → Prop} {X' : String → ww_M → Prop} (hw : ww_sta Y.1.cls idx Y' n) (hh0 : Y'.2.2.2.2 = z :: t) (hd : decode Y.2.1 pc = .ok (.invokestatic idx, 3)) (hM : ww_C g Y' d' mc' ms' As M Q' X') (hn : As.length = n) (hst : st = As.reverse ++ rest)
    (hdd : d' + 1 ≤ d) (hkc : mc' ≤ kc) (hks : ms' ≤ ks) (hW : (rest.map fun v => v.category).sum ≤ 8) (h0 : Y.2.2.2.2 = [])
    (hx : ∀ E M', X' E M' → X E M') (hk : ∀ v M', Q' v M' → ww_A g Y d (kc - mc') (ks - ms') M' (pc + 3) lv (v.toList ++ rest) Q X) : ww_A g Y d kc ks M pc lv st Q X := by
  intro p l e R s m args below meth c H locs cells slots mc ms ls C B hl hH hS
  obtain ⟨hxx, hb, hml, ⟨hret, hlk, hnm⟩, htb, hown, hts, htr, hF, hfr, hlo⟩ := id C
  obtain ⟨hc, w1, w2⟩ := hw
  obtain ⟨c1, c2, c3, c4, c5⟩ := id hc
  have hcw : Cond.codeWith Y'.1 Y'.2.1 Y'.2.2.1 Y'.2.2.2.1 (z :: t) ∈ ww_hd Y' :: ww_GW := by rw [← ww_hd1 hh0]; exact List.mem_cons_self
  have hcc : (Cond.codeWith Y'.1 Y'.2.1 Y'.2.2.1 Y'.2.2.2.1 (z :: t)).before args s = true := by rw [← ww_hd1 hh0]; exact hts _ c1
  subst hst
  exact ww_behind C B hl hS h0 hkc hks (vx_runSX (hh := z :: t) (As := As) (rest := rest) (own := Y.1.cls) (Ts := ww_GW) ⟨hxx, hb, hml, hown, hts⟩ (hM l htr)
    ⟨⟨rfl, rfl, Nat.le_trans hdd hfr, by show 8 + (Y'.2.2.1 + 11) + 100 * d' ≤ R.locals; omega, ww_pay hc hts, hcw⟩, hcc, hts _ c2, c3, ww_desc c4, hts _ w1, hts _ w2⟩
    ⟨ww_blind, ww_blindP hF hH hS⟩ rfl hn hl.1.1 rfl (lv_room hW) hd ⟨by omega, by omega⟩) hx hk
theorem ww_metV {l : Launch} {y : MethodName} {ws : List Cond} {rm : Room} {Pc : Array Value → State → Prop} {Q' : Option Value → ww_M → Prop} {mc' ms' : Nat} (h : vx_Met l y ws rm Pc (ww_Qc g Q') (ww_Xc g (fun _ _ => False)) mc' ms' (ww_gA g)) : Met l y ws rm Pc (ww_Qc g Q') mc' ms' (ww_gA g) := by
  intro p e h1 h2 h3 s m args below h4 h5 h6 h7
  obtain ⟨n, o, a1, a2, a3, a4⟩ := h p e h1 h2 h3 s m args below h4 h5 h6 h7
  refine ⟨n, o, a1, a2, a3, ?_⟩
  rcases a4 with a4 | ⟨q, -, E, ce, L, ⟨⟨M', hf, -⟩, -⟩, -⟩
  · exact a4
  · exact hf.elim
/-- behind a constructor that can't throw -/
theorem ww_behindI {p : Program} {l : Launch} {e : Env} {R : Room} {s : State} {m : MethodId} {args : Array Value} {below : List Frame} {meth : Method} {c : Code} {H : Heap} {locs : List Loc} {cells slots mc ms mc' ms' : Nat} {ls : Array Slot} {a : Array Value} {st0 rest : List Value} {Q' : Option Value → ww_M → Prop}
    (C : ww_Cx g Y d p l R s m args meth c) (B : cells + kc ≤ mc ∧ slots + ks ≤ ms ∧ mc ≤ R.cells ∧ ms ≤ R.slots) (hl : ww_lv ls Y.2.2.1 lv) (hS : va_S (ww_gA g) s.heap H locs) (hkc : mc' ≤ kc) (hks : ms' ≤ ks)
    (hr : va_Run p l e R s m args below meth c H locs cells slots mc' ms' (F0 m pc ls st0) rest (ww_Qc g Q' a) (ww_gA g))
    (hk : ∀ v M', Q' v M' → ww_A g Y d (kc - mc') (ks - ms') M' (pc + 3) lv (v.toList ++ rest) Q X) :
    W p l e R s m args below meth c H locs cells slots (vx_MQ below (ww_Qc g Q) (ww_Xc g X) args s mc ms (ww_gA g)) (F0 m pc ls st0) := by
  intro T hT X0
  obtain ⟨v, st₀, t, T', L, hh, X1, hL, e1, e2, ⟨⟨v', M', hv, hQ, hH'⟩, hF'⟩, st⟩ := hr T hT X0
  cases hv
  obtain ⟨k1, k2, k3⟩ := vx_keep hh e1 hS (fun _ _ h => h) (fun _ h => h) hL hF'
  obtain ⟨t2, a1, b1⟩ := hk v M' hQ p l e R s m args below meth c T'.heap (locs ++ L) (cells + mc') (slots + ms') mc ms ls C ⟨by omega, by omega, B.2.2.1, B.2.2.2⟩ hl (by rw [e1]; exact hH') k3 T' rfl X1
  exact ⟨t2, st t2 a1, b1⟩
theorem ww_callI {Y' : ww_Yd} {idx n b d' mc' ms' : Nat} {As rest : List Value} {Q' : Option Value → ww_M → Prop} (hw : ww_ini Y.1.cls idx Y' n) (hv : Y'.2.2.2.1 = none) (hd : decode Y.2.1 pc = .ok (.invokespecial idx, 3)) (hM : ww_C g Y' d' mc' ms' (.ref b :: As) M Q' (fun _ _ => False)) (hn : As.length = n) (hst : st = As.reverse ++ .ref b :: rest)
    (hdd : d' + 1 ≤ d) (hkc : mc' ≤ kc) (hks : ms' ≤ ks) (hW : (rest.map fun v => v.category).sum ≤ 8)
    (hk : ∀ v M', Q' v M' → ww_A g Y d (kc - mc') (ks - ms') M' (pc + 3) lv (v.toList ++ rest) Q X) : ww_A g Y d kc ks M pc lv st Q X := by
  intro p l e R s m args below meth c H locs cells slots mc ms ls C B hl hH hS
  obtain ⟨hxx, hb, hml, ⟨hret, hlk, hnm⟩, htb, hown, hts, htr, hF, hfr, hlo⟩ := id C
  obtain ⟨hc, hh0, w1, w2, w3⟩ := hw
  obtain ⟨c1, c2, c3, c4, c5⟩ := id hc
  have hcw : Cond.code Y'.1 Y'.2.1 Y'.2.2.1 none ∈ ww_hd Y' :: ww_GW := by rw [← hv, ← ww_hd0 hh0]; exact List.mem_cons_self
  have hcc : (Cond.code Y'.1 Y'.2.1 Y'.2.2.1 none).before args s = true := by rw [← hv, ← ww_hd0 hh0]; exact hts _ c1
  subst hst
  exact ww_behindI C B hl hS hkc hks (va_runI (As := As) (rest := rest) (own := Y.1.cls) (Ts := ww_GW) ⟨hxx, hb, hml, hown, hts⟩ (ww_metV (hM l htr))
    ⟨⟨rfl, rfl, Nat.le_trans hdd hfr, by show 8 + (Y'.2.2.1 + 11) + 100 * d' ≤ R.locals; omega, ww_pay hc hts, hcw, hcc, hts _ c2, c3, ww_desc c4, hts _ w1⟩, w3, hts _ w2⟩
    ⟨ww_blind, ww_blindP hF hH hS⟩ rfl hn hl.1.1 rfl (lv_room hW) hd ⟨by omega, by omega⟩) hk
end WWI
