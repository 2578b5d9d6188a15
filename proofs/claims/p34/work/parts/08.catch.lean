section WWX
variable {g : ww_G} {Y : ww_Yd} {d kc ks : Nat} {M : ww_M} {pc : Nat} {lv : List (Nat × Value)} {st : List Value} {Q : Option Value → ww_M → Prop} {X : String → ww_M → Prop}
theorem ww_callIN {Y' : ww_Yd} {idx n b d' mc' ms' : Nat} {As rest : List Value} {Q' : Option Value → ww_M → Prop} (hw : ww_inn Y.1.cls idx Y' n) (hv : Y'.2.2.2.1 = none) (hd : decode Y.2.1 pc = .ok (.invokespecial idx, 3)) (hM : ww_C g Y' d' mc' ms' (.ref b :: As) M Q' (fun _ _ => False)) (hn : As.length = n) (hst : st = As.reverse ++ .ref b :: rest)
    (hdd : d' + 1 ≤ d) (hkc : mc' ≤ kc) (hks : ms' ≤ ks) (hW : (rest.map fun v => v.category).sum ≤ 8)
    (hk : ∀ v M', Q' v M' → ww_A g Y d (kc - mc') (ks - ms') M' (pc + 3) lv (v.toList ++ rest) Q X) : ww_A g Y d kc ks M pc lv st Q X := by
  intro p l e R s m args below meth c H locs cells slots mc ms ls C B hl hH hS
  obtain ⟨hxx, hb, hml, ⟨hret, hlk, hnm⟩, htb, hown, hts, htr, hF, hfr, hlo⟩ := id C
  obtain ⟨hc, hh0, ⟨host, w1⟩, w2, w3⟩ := hw
  obtain ⟨c1, c2, c3, c4, c5⟩ := id hc
  have hcw : Cond.code Y'.1 Y'.2.1 Y'.2.2.1 none ∈ ww_hd Y' :: ww_GW := by rw [← hv, ← ww_hd0 hh0]; exact List.mem_cons_self
  have hcc : (Cond.code Y'.1 Y'.2.1 Y'.2.2.1 none).before args s = true := by rw [← hv, ← ww_hd0 hh0]; exact hts _ c1
  subst hst
  exact ww_behindI C B hl hS hkc hks (va_runIN (As := As) (rest := rest) (own := Y.1.cls) (Ts := ww_GW) ⟨hxx, hb, hml, hown, hts⟩ (ww_metV (hM l htr))
    ⟨⟨⟨rfl, rfl, Nat.le_trans hdd hfr, by show 8 + (Y'.2.2.1 + 11) + 100 * d' ≤ R.locals; omega, ww_pay hc hts, hcw⟩, hcc, hts _ c2, c3, ww_desc c4, va_Nw.use rfl (hF.2.2.2.2.2.1.2.2.1 _ w1)⟩, w3, hts _ w2⟩
    ⟨ww_blind, ww_blindP hF hH hS⟩ rfl hn hl.1.1 rfl (lv_room hW) hd ⟨by omega, by omega⟩) hk
/-- which handler takes E at pc -/
def ww_han (Y : ww_Yd) (pc : Nat) (E : String) (tgt : Nat) : Prop := ∃ (pre : List (Nat × Nat × Nat × Nat)) (x : Nat × Nat × Nat × Nat) (suf : List (Nat × Nat × Nat × Nat)) (name : String), Y.2.2.2.2 = pre ++ x :: suf ∧ (∀ z ∈ pre, z.2.2.2 ≠ 0 ∧ ∃ nm, Cond.classLink Y.1.cls z.2.2.2 nm ∈ ww_GW ∧ (E, nm) ∈ ww_nc) ∧ (x.1 ≤ pc ∧ pc < x.2.1) ∧ x.2.2.2 ≠ 0 ∧ Cond.classLink Y.1.cls x.2.2.2 name ∈ ww_GW ∧ (E, name) ∈ ww_ca ∧ x.2.2.1 = tgt
theorem ww_callVX {Y' : ww_Yd} {idx n b κ d' mc' ms' : Nat} {As rest : List Value} {r : vw_C} {Q' : Option Value → ww_M → Prop} {X' : String → ww_M → Prop} (hw : ww_vir Y.1.cls idx Y' n) (hd : decode Y.2.1 pc = .ok (.invokevirtual idx, 3)) (hM : ww_C g Y' d' mc' ms' (.ref b :: As) M Q' X') (hn : As.length = n) (hst : st = As.reverse ++ .ref b :: rest)
    (hb2 : b ∈ ww_L M) (hK : ww_K M b = κ) (hr : vwCl[κ]? = some r) (hrc : r.1 = Y'.1.cls) (hdd : d' + 1 ≤ d) (hkc : mc' ≤ kc) (hks : ms' ≤ ks) (hW : (rest.map fun v => v.category).sum ≤ 8)
    (hx : ∀ E M', X' E M' → ∃ tgt, ww_han Y pc E tgt ∧ ∀ q, ww_A g Y d (kc - mc') (ks - ms') M' tgt lv [.ref q] Q X) (hk : ∀ v M', Q' v M' → ww_A g Y d (kc - mc') (ks - ms') M' (pc + 3) lv (v.toList ++ rest) Q X) : ww_A g Y d kc ks M pc lv st Q X := by
  intro p l e R s m args below meth c H locs cells slots mc ms ls C B hl hH hS
  obtain ⟨hxx, hb, hml, ⟨hret, hlk, hnm⟩, htb, hown, hts, htr, hF, hfr, hlo⟩ := id C
  obtain ⟨hc, hh0, w1, w2, w3⟩ := hw
  obtain ⟨c1, c2, c3, c4, c5⟩ := id hc
  have hcw : Cond.code Y'.1 Y'.2.1 Y'.2.2.1 Y'.2.2.2.1 ∈ ww_hd Y' :: ww_GW := by rw [← ww_hd0 hh0]; exact List.mem_cons_self
  have hcc : (Cond.code Y'.1 Y'.2.1 Y'.2.2.1 Y'.2.2.2.1).before args s = true := by rw [← ww_hd0 hh0]; exact hts _ c1
  have hrecv := ww_recv hF.1.2 hH hb2 hK hr
  rw [hrc] at hrecv
  subst hst
  have hr1 := vx_runV (As := As) (rest := rest) (own := Y.1.cls) (Ts := ww_GW) (p := p) (e := e) (below := below) (meth := meth) (locs := locs) (cells := cells) (slots := slots) (g := F0 m pc ls (As.reverse ++ .ref b :: rest)) ⟨hxx, hb, hml, hown, hts⟩ (hM l htr)
    ⟨⟨rfl, rfl, Nat.le_trans hdd hfr, by show 8 + (Y'.2.2.1 + 11) + 100 * d' ≤ R.locals; omega, ww_pay hc hts, hcw, hcc, hts _ c2, c3, ww_desc c4, hts _ w1⟩, hts _ w2, hts _ w3⟩
    ⟨ww_blind, hrecv, ww_blindP hF hH hS⟩ rfl hn hl.1.1 rfl (lv_room hW) hd ⟨by omega, by omega⟩
  intro T hT X0
  rcases hr1 T hT X0 with ⟨v, st₀, t, T', L, hh, X1, hL, e1, e2, ⟨⟨v', M', hv, hQ, hH'⟩, hF'⟩, st⟩ | ⟨q, st₀, t, T', L, E, ce, hh, X1, hL, e1, e2, ⟨⟨M', hX, hH'⟩, hF'⟩, hce, hcv, hcl, st⟩
  · cases hv
    obtain ⟨k1, k2, k3⟩ := vx_keep hh e1 hS (fun _ _ h => h) (fun _ h => h) hL hF'
    obtain ⟨t2, a1, b1⟩ := hk v M' hQ p l e R s m args below meth c T'.heap (locs ++ L) (cells + mc') (slots + ms') mc ms ls C ⟨by omega, by omega, B.2.2.1, B.2.2.2⟩ hl (by rw [e1]; exact hH') k3 T' rfl X1
    exact ⟨t2, st t2 a1, b1⟩
  · obtain ⟨k1, k2, k3⟩ := vx_keep hh e1 hS (fun _ _ h => h) (fun _ h => h) hL hF'
    obtain ⟨tgt, ⟨pre, x, suf, name, f1, f2, f3, f4, f5, f6, rfl⟩, f7⟩ := hx E M' hX
    have hsplit : c.exceptionTable.toList = tableOf pre ++ tableOf [x] ++ tableOf suf := by
      rw [htb, f1]
      simp [tableOf]
    have hk2 := f7 q p l e R s m args below meth c T'.heap (locs ++ L) (cells + mc') (slots + ms') mc ms ls C ⟨by omega, by omega, B.2.2.1, B.2.2.2⟩ hl (by rw [e1]; exact hH') k3
    have hcatch := vx_catch (p := p) (l := l) (e := e) (R := R) (below := below) (meth := meth) (H := T'.heap) (locs := locs ++ L) (cells := cells + mc') (slots := slots + ms') (Q := vx_MQ below (ww_Qc g Q) (ww_Xc g X) args s mc ms (ww_gA g)) (own := Y.1.cls) (name := name) (E := E) (ce := ce) (q := q) (pc := pc) (ls := ls) (rest := rest) hown (tableOf pre) { startPc := x.1, endPc := x.2.1, handlerPc := x.2.2.1, catchType := x.2.2.2 } (tableOf suf) (by rw [hsplit]; simp [tableOf]) (fun z hz => ?_) ?_ f4 (hts _ f5) (va_Nw.use rfl (hF.2.2.2.2.2.1.1 _ f6)) (by rw [e1]; exact hce) hcv hcl hk2
    · obtain ⟨t2, a1, b1⟩ := hcatch T' rfl X1
      exact ⟨t2, st.trans a1, b1⟩
    · obtain ⟨z0, hz0, hz1⟩ := List.mem_map.mp hz
      obtain ⟨g1, nm, g2, g3⟩ := f2 z0 hz0
      subst hz1
      exact Or.inr ⟨g1, nm, hts _ g2, hF.2.2.2.2.2.1.2.2.2 _ g3⟩
    · simp [covers, f3.1, f3.2]
end WWX
