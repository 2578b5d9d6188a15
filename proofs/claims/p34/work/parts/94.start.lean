/-! ===== the start ===== -/
theorem ww_known {own : String} {idx κ : Nat} {s : State} {args : Array Value} (h : ww_new own idx κ) (hts : ∀ w ∈ ww_GW, w.before args s = true) : ∃ (cC : ClassId) (iS : Nat → Nat), ∀ q, vwCl[κ]? = some q → u_Kn s q.1 q.2.1 q.2.2 cC iS := by
  obtain ⟨q, ty, h1, h2, h3, h4, h5, h6, h7, h8⟩ := h
  obtain ⟨cC, iS, k⟩ := u_known (n := q.2.2) hts h5 (hts _ h7)
  refine ⟨cC, iS, fun q' hq => ?_⟩
  cases Option.some.inj (h1.symm.trans hq)
  exact k
theorem ww_knowns {s : State} {args : Array Value} (hts : ∀ w ∈ ww_GW, w.before args s = true) : ∀ κ : Nat, ∃ (cC : ClassId) (iS : Nat → Nat), ∀ q, vwCl[κ]? = some q → u_Kn s q.1 q.2.1 q.2.2 cC iS := fun κ => by
  by_cases h : κ < 8
  · have h9 : κ = 0 ∨ κ = 1 ∨ κ = 2 ∨ κ = 3 ∨ κ = 4 ∨ κ = 5 ∨ κ = 6 ∨ κ = 7 := by omega
    rcases h9 with rfl | rfl | rfl | rfl | rfl | rfl | rfl | rfl
    · exact ww_known wn_X6_7 hts
    · exact ww_known wn_X2_22 hts
    · exact ww_known wn_X6_16 hts
    · exact ww_known wn_X6_22 hts
    · exact ww_known wn_X6_61 hts
    · exact ww_known wn_X3_31 hts
    · exact ww_known wn_X6_29 hts
    · exact ww_known wn_L_9 hts
  · refine ⟨0, fun _ => 0, fun q hq => ?_⟩
    have := (List.getElem?_eq_some_iff.mp hq).1
    exact absurd (show κ < 8 from this) h
theorem ww_arrI {s : State} {args : Array Value} (h : (Cond.arrayClass .int).before args s = true) : ∃ cA : ClassId, ArrOfT s cA .int ∧ va_RA s cA .int := by
  obtain ⟨cA, kA, comp, h1, h2, h3⟩ := Cond.arrayClass_spec h
  exact ⟨cA, fun n z => ⟨fun k h => (by cases h), kA, h2, comp, h3⟩, h1⟩
theorem ww_arrO {C : String} {s : State} {args : Array Value} (h : (Cond.arrayOver (.object C)).before args s = true) : ∃ cA : ClassId, ArrOfT s cA (.object C) ∧ va_RA s cA (.object C) := by
  obtain ⟨comp, cA, kA, hcomp, hidx, hkA, hkind, hname⟩ := Cond.arrayOver_spec h
  exact ⟨cA, fun n z => ⟨fun k h => (by cases h), kA, hkA, comp, hkind⟩, kA, comp, hkA, hkind, hcomp, hname⟩
theorem ww_strR : ∀ q ∈ ww_str, Cond.stringRef q.1 q.2.1 q.2.2 ∈ lw_tbl := by decide +kernel
theorem ww_strE : ∀ q ∈ ww_str, Cond.exactly (.string q.1 q.2.1) "java/lang/String" ∈ flatC (Jvm.Cond.and given_1 narrow_1) := by decide +kernel
theorem ww_caM : ∀ q ∈ ww_ca, Cond.castable q.1 q.2 ∈ lw_tbl := by decide +kernel
theorem ww_deM : ∀ x ∈ ww_de, Cond.declares x ∈ lw_tbl := by decide +kernel
theorem ww_neM : ∀ q ∈ ww_ne, Cond.methodLinkNest q.1 q.2.1 q.2.2.1 q.2.2.2 ∈ lw_tbl := by decide +kernel
theorem ww_ncM : ∀ q ∈ ww_nc, Cond.not (.castable q.1 q.2) ∈ flatC (Jvm.Cond.and given_1 narrow_1) := by decide +kernel
theorem ww_F_of {s : State} {b L : Nat} {xs : Nat → Int32} (hts : ∀ w ∈ lw_tbl, w.before #[Value.ref b] s = true) (hX : va_X b L xs s s.heap) (hbl : b < s.heap.size) (hgv : (Jvm.Cond.and given_1 narrow_1).before #[Value.ref b] s = true) : ∃ g : ww_G, g.1 = s.heap.size ∧ ww_gb g = b ∧ ww_gl g = L ∧ ww_F g s s.heap := by
  have hs := flat_of_before _ hgv
  have hGW : ∀ w ∈ ww_GW, w.before #[Value.ref b] s = true := fun w hw => hts w (List.mem_filter.mp hw).1
  have hA : ∀ a : Nat, a < s.heap.size → ¬ (fun q : Nat => s.heap.size ≤ q) a := fun a h => Nat.not_le.mpr h
  have hkn := ww_knowns hGW
  obtain ⟨c9, i9⟩ := ww_arrI (hGW _ wm_99)
  have hO := hts (.arrayOver (.object "java/lang/Object")) (by decide +kernel)
  have hKl := hts (.arrayOver (.object "WheelWorks$KindLimits")) (by decide +kernel)
  obtain ⟨c12, i12⟩ := ww_arrO hO
  obtain ⟨c11, i11⟩ := ww_arrO hKl
  obtain ⟨mi, hmi⟩ := va_Mi.of (C := "[Ljava/lang/Object;") (hs _ (by decide +kernel))
  obtain ⟨ge, hge, hT⟩ := va_Tof (tm := .static RJx4a65c "DEFAULTCAPACITY_EMPTY_ELEMENTDATA" "[Ljava/lang/Object;") (ty := .object "java/lang/Object") (N := 0) (f := fun _ => .null) (A := fun q : Nat => s.heap.size ≤ q) (by decide) (hs _ (by decide +kernel)) (va_eqt (z := 0) (hs _ (by decide +kernel))) (fun j hj => absurd hj (Nat.not_lt_zero j)) hA
  have hZ := va_Zref (A := fun q : Nat => s.heap.size ≤ q) (hts (.laysStatic RJx4a65c "DEFAULTCAPACITY_EMPTY_ELEMENTDATA" "[Ljava/lang/Object;") (by decide +kernel)) (hts (.initialized RJx4a65c) (by decide +kernel)) hge hA
  have hU := vx_Zqof (C := Bundle.tN) (n := "UNASSIGNED_STACK") (d := Bundle.steD) (A := fun q : Nat => s.heap.size ≤ q) (hts _ (by decide +kernel)) (hts _ (by decide +kernel)) (hs _ (by decide +kernel)) hA
  have hP := vx_Zqof (C := Bundle.tN) (n := "SUPPRESSED_SENTINEL") (d := Bundle.listD) (A := fun q : Nat => s.heap.size ≤ q) (hts _ (by decide +kernel)) (hts _ (by decide +kernel)) (hs _ (by decide +kernel)) hA
  refine ⟨(s.heap.size, (fun κ => Classical.choose (hkn κ), fun κ => Classical.choose (Classical.choose_spec (hkn κ))), (fun κ => if κ = 11 then c11 else if κ = 12 then c12 else c9), ge, b, L, xs, mi), rfl, rfl, rfl, ⟨Nat.le_refl _, fun κ q hq => Classical.choose_spec (Classical.choose_spec (hkn κ)) q hq, fun k q hk => ?_⟩, ⟨hZ, hT⟩, ⟨hU, hP⟩, ⟨hX, hA b hbl, hbl⟩, fun q hq => ?_, ⟨fun q hq => va_Nw.of rfl (hts _ (ww_caM q hq)), fun x hx => va_Nw.of rfl (hts _ (ww_deM x hx)), fun q hq => va_Nw.of rfl (hts _ (ww_neM q hq)), fun q hq => va_Nc.of (hs _ (ww_ncM q hq))⟩, hmi, va_AO.of hO, va_AO.of hKl⟩
  · match k, hk with
    | 0, hk => cases hk; exact i9
    | 1, hk => cases hk; exact i9
    | 2, hk => cases hk; exact i11
    | 3, hk => cases hk; exact i12
    | 4, hk => cases hk; exact i9
    | k + 5, hk => cases hk
  · obtain ⟨a, c, cell, k, h1, -⟩ := Cond.exactly_spec (hs _ (ww_strE q hq))
    exact ⟨a, vk_R.of (hts _ (ww_strR q hq)) h1⟩
def ww_M0 : ww_M := (([], fun _ => 0, fun _ => 0), fun _ _ => 0, fun _ _ => none, fun _ _ => 0, fun _ _ => none, fun _ _ => 0)
theorem ww_H0 {g : ww_G} {H : Heap} : ww_H g ww_M0 H := ⟨fun k q h => (by cases h), ⟨fun i j p q h => (by cases h), fun k q h => (by cases h)⟩⟩
theorem whole_start {p : Program} {e : Env} {s : State} {m : MethodId} {below : List Frame} {meth : Method} {c : Code} (l : Launch) (hflags : l.flags = flags0) {b L : Nat} {xs : Nat → Int32} (hL : L ≤ 260) (C0 : lw_At p s m meth c b L xs) (hn : meth.name = x.name) (htb : c.exceptionTable.toList = []) : W p l e room_1 s m #[Value.ref b] below meth c s.heap [] 0 0 (lw_Z below #[Value.ref b] s) (entryFrame m ([Value.ref b] : List Value).toArray 16) := by
  obtain ⟨hx, hb, hr, hml, hown, hts, hX, hbl, hlocks, hgv⟩ := id C0
  obtain ⟨g, g1, rfl, rfl, hF⟩ := ww_F_of hts hX hbl hgv
  have hGW : ∀ w ∈ ww_GW, w.before #[Value.ref (ww_gb g)] s = true := fun w hw => hts w (List.mem_filter.mp hw).1
  have hst : l.stackTraces = false := by
    unfold Launch.stackTraces
    rw [hflags]
    decide +kernel
  have key := law_go (g := g) (M := ww_M0) (Q := fun v _ => v = some (.int 1)) (X := ww_no) hL (fun _ => rfl)
  have hl := lv_entry ([.ref (ww_gb g)] : List Value) (n := 16) (Nat.le_of_ble_eq_true rfl)
  rw [lg_entry_eq]
  generalize (lg_sl ([.ref (ww_gb g)] : List Value) ++ List.replicate (16 - (lg_sl ([.ref (ww_gb g)] : List Value)).length) Slot.unset).toArray = ls at hl ⊢
  have K := key p l e room_1 s m #[Value.ref (ww_gb g)] below meth c s.heap [] 0 0 600104 7301314 ls ⟨hx, hb, hml, ⟨hr, hlocks, hn⟩, htb, hown, hGW, hst, hF, by decide, by decide⟩ ⟨by decide, by decide, by decide, by decide⟩ ⟨hl, fun q hq => by
    cases hq with
    | head => rfl
    | tail _ h => cases h⟩ ww_H0 va_S.rf
  intro T hT X0
  obtain ⟨t, a1, o, b1, b2, b3⟩ := K T hT X0
  refine ⟨t, a1, o, b1, b2, ?_⟩
  rcases b3 with ⟨⟨⟨v, M', e1, e2, -⟩, -⟩, Ls, hfe, hfr⟩ | ⟨q, e0, E, ce, Ls, ⟨⟨M', e2, -⟩, -⟩, -⟩
  · subst e2
    refine ⟨e1, hfe.1, hfe.2.1, ?_⟩
    exact State.sameButNew.drop_fresh (L := []) (J := Ls) hfe.2.2 (fun z hz => by
      have h : g.1 ≤ z.base := hfr z hz
      rw [g1] at h
      exact h)
  · exact e2.elim
