/-! ===== one call on both sides ===== -/
section WWJ1
variable {g : ww_G} {M M1 : ww_M} {mo ol : Nat} {ar : Nat → Nat} {c ea P W kl f z D : Nat → Nat} {E E' : Nat → Nat → Int32} {n n' u u' w w' m m' b : Nat} {S S1 S2 : Nat → Nat → Int32} {z' D' : Nat → Nat}
/-- the law's call by L, then the model's by Y: same code, same answer, and both sides hold S2 -/
def ww_sp (g : ww_G) (mo : Nat) (ar : Nat → Nat) (ol : Nat) (c : Nat → Nat) (b : Nat) (S : Nat → Nat → Int32) (M : ww_M) (L Y : ww_Yd) (as lx : List Value) (vo : Int32 → Option Value) (Zc : Prop) (Bc : Int32 → Prop) : Prop :=
  ∃ (code r r2 : Int32) (S2 : Nat → Nat → Int32) (dm : Nat), dm ≤ 6 ∧ ww_C g L 15 10 1100 (.ref (c 0) :: lx) M (fun v M2 => v = some (.int code) ∧ ww_mc g c (b + 1) S2 M2 ∧ ww_mm mo ar ol c S M2 ∧ (Zc → code = 0 → ww_Z M2 ol 0 = r.toInt64)) ww_no ∧ (∀ M1 : ww_M, ww_mo mo ar M1.1 M1.2.2.1 → q_S M1 mo ar = S → ww_C g Y dm 0 0 (.ref mo :: as) M1 (ww_ru mo ar M1 (vo r2) S2) ww_no) ∧ S2 0 0 = code ∧ (code = 0 → r2 = r ∧ Bc r)
/-- what a call of the class leaves -/
def ww_rr (g : ww_G) (c : Nat → Nat) (b : Nat) (M : ww_M) (S2 : Nat → Nat → Int32) : ww_M → Prop := fun M1 => ww_mc g c (b + 1) S2 M1 ∧ ww_ck c M M1
theorem ww_sp_R (hm : ww_mm mo ar ol c S M) : ∀ M1, ww_rr g c b M S2 M1 → ww_is M1.1 ol 13 ∧ ww_N M1 ol = 1 := fun M1 h => (ww_mm_ck hm h.2).2.2
theorem q_pr (p : Int32) : q_noP n p ∨ ∃ j : Nat, j < n ∧ p = nI j := by
  by_cases h : 0 ≤ p.toInt ∧ p.toInt < (n : Int)
  · refine Or.inr ⟨p.toInt.toNat, by omega, ?_⟩
    have := p.toInt_lt
    rw [ww_eq, nI_toInt (by omega)]
    omega
  · exact Or.inl h
theorem ww_us_0 {v : Int32} : ∀ k, ww_us k = true → q_us S 0 v k = S k := fun k hk => funext fun i => if_neg (fun e => by rw [e] at hk; exact absurd hk (by decide))
theorem ww_mc_0 (hr : ww_rc g M c ea P W kl f z D E n u w m S) (H : q_all S E z D n u w m b) {v : Int32} : ww_mc g c (b + 1) (q_us S 0 v) M := ⟨ea, P, W, kl, f, z, D, E, n, u, w, m, ww_rc_us hr ww_us_0, q_all_b (q_all_0 H)⟩
theorem ww_sp_t (hr : ww_rc g M c ea P W kl f z D E n u w m S) (H : q_all S E z D n u w m b) (hm : ww_mm mo ar ol c S M) {code : Int32} (hne : code ≠ 0) {L Y : ww_Yd} {as lx : List Value} {vo : Int32 → Option Value} {Zc : Prop} {Bc : Int32 → Prop} {dm : Nat} (hd : dm ≤ 6) {r2 : Int32} (h1 : ww_C g L 15 10 1100 (.ref (c 0) :: lx) M (ww_ret (some (.int code)) M) ww_no) (h2 : ∀ M1 : ww_M, ww_mo mo ar M1.1 M1.2.2.1 → q_S M1 mo ar = S → ww_C g Y dm 0 0 (.ref mo :: as) M1 (ww_ru mo ar M1 (vo r2) (q_us S 0 code)) ww_no) : ww_sp g mo ar ol c b S M L Y as lx vo Zc Bc := by
  refine ⟨code, r2, r2, q_us S 0 code, dm, hd, ww_C_mono h1 (fun v M' h => ?_) (fun _ _ h => h), h2, if_pos rfl, fun e => absurd e hne⟩
  obtain ⟨rfl, rfl⟩ := h
  exact ⟨rfl, ww_mc_0 hr H, hm, fun _ e => absurd e hne⟩
theorem ww_Z_set {M : ww_M} {a i : Nat} {v : Int64} : ww_Z (ww_sZ M a i v) a i = v := ww_u2s
/-- what came well -/
theorem ww_sp_0 (hm : ww_mm mo ar ol c S M) {L Y : ww_Yd} {as lx : List Value} {dm : Nat} (hd : dm ≤ 6) {r : Int32} (h1 : ww_C g L 15 10 1100 (.ref (c 0) :: lx) M (ww_lo0 ol r (ww_rr g c b M S2)) ww_no) (h2 : ∀ M1 : ww_M, ww_mo mo ar M1.1 M1.2.2.1 → q_S M1 mo ar = S → ww_C g Y dm 0 0 (.ref mo :: as) M1 (ww_ru mo ar M1 (some (.int r)) S2) ww_no) (h0 : S2 0 0 = 0) {Bc : Int32 → Prop} (hB : Bc r) : ww_sp g mo ar ol c b S M L Y as lx (fun v => some (.int v)) True Bc := by
  refine ⟨0, r, r, S2, dm, hd, ww_C_see h1 (fun v M' h => ?_), h2, h0, fun _ => ⟨rfl, hB⟩⟩
  obtain ⟨rfl, M1, ⟨k1, k2⟩, rfl⟩ := h
  obtain ⟨⟨⟨a1, a2⟩, a3, a4⟩, hK, ho⟩ := ww_mm_ck hm k2
  have hc2 : ww_mc g c (b + 1) S2 (ww_sZ M1 ol 0 r.toInt64) := by
    obtain ⟨ea, P, W, kl, f, z, D, E, n, u, w, m, q1, q2⟩ := k1
    refine ⟨ea, P, W, kl, f, z, D, E, n, u, w, m, ww_rc_ft q1 ww_ft_sZ (fun _ z => z.elim) (fun y hy e => ?_) q1.2.2.2.2.2.2, q2⟩
    have e2 : ww_K M1 ol = 13 := ho.1.2
    rw [e, e2]
    decide
  refine ⟨ww_fx M (ww_sZ M1 ol 0 r.toInt64) mo, ⟨rfl, ww_mc_fx hc2 hK, ⟨⟨a1, a2⟩, ho, a4⟩, fun _ _ => ww_Z_set⟩, fun H h => ww_fx_H hK h⟩
theorem ww_sp_v (hm : ww_mm mo ar ol c S M) {L Y : ww_Yd} {as lx : List Value} {dm : Nat} (hd : dm ≤ 6) (h1 : ww_C g L 15 10 1100 (.ref (c 0) :: lx) M (ww_rR (some (.int 0)) (ww_rr g c b M S2)) ww_no) (h2 : ∀ M1 : ww_M, ww_mo mo ar M1.1 M1.2.2.1 → q_S M1 mo ar = S → ww_C g Y dm 0 0 (.ref mo :: as) M1 (ww_ru mo ar M1 none S2) ww_no) (h0 : S2 0 0 = 0) : ww_sp g mo ar ol c b S M L Y as lx (fun _ => none) False (fun _ => True) := by
  refine ⟨0, 0, 0, S2, dm, hd, ww_C_see h1 (fun v M' h => ?_), h2, h0, fun _ => ⟨rfl, trivial⟩⟩
  obtain ⟨rfl, k1, k2⟩ := h
  obtain ⟨⟨⟨a1, a2⟩, a3, a4⟩, hK, ho⟩ := ww_mm_ck hm k2
  exact ⟨ww_fx M M' mo, ⟨rfl, ww_mc_fx k1 hK, ⟨⟨a1, a2⟩, ho, a4⟩, fun z => z.elim⟩, fun H h => ww_fx_H hK h⟩
/-! the class's ends in one form -/
variable {Y : ww_Yd} {d mc ms : Nat} {av : List Value} {v0 : Option Value}
theorem ww_R_cq (hr : ww_rc g M c ea P W kl f z D E n u w m S) (h : ww_C g Y d mc ms av M (ww_cq g M v0 (c 0) (c 1) (ea 0) n P W kl S1) ww_no) (h2 : S1 2 = S 2) (h27 : S1 27 = S 27) (hq : q_all S1 E z D n u w m (b + 1)) : ww_C g Y d mc ms av M (ww_rR v0 (ww_rr g c b M S1)) ww_no := ww_C_mono (ww_C_cq hr h h2 h27) (fun v M' k => ⟨k.1, ⟨ea, P, W, kl, f, z, D, E, n, u, w, m, k.2.1, hq⟩, k.2.2⟩) (fun _ _ h => h)
theorem ww_R_ret (hr : ww_rc g M c ea P W kl f z D E n u w m S) (H : q_all S E z D n u w m b) (h : ww_C g Y d mc ms av M (ww_ret v0 M) ww_no) : ww_C g Y d mc ms av M (ww_rR v0 (ww_rr g c b M (q_us S 0 0))) ww_no := ww_C_mono h (fun v M' k => by
  obtain ⟨rfl, rfl⟩ := k
  exact ⟨rfl, ww_mc_0 hr H, ww_ck_rf⟩) (fun _ _ h => h)
theorem ww_R_l (h : ww_C g Y d mc ms av M (ww_lQ g M c P W kl z D E n u w m v0 S1) ww_no) (hq : q_all S1 E z D n u w m (b + 1)) : ww_C g Y d mc ms av M (ww_rR v0 (ww_rr g c b M S1)) ww_no := ww_C_mono h (fun v M' k => by
  obtain ⟨e, ea', f', h1, h2⟩ := k
  exact ⟨e, ⟨ea', P, W, kl, f', z, D, E, n, u, w, m, h1, hq⟩, h2⟩) (fun _ _ h => h)
theorem ww_R_w (h : ww_C g Y d mc ms av M (ww_wQ g M c P W kl f z D E n u w m v0 S1) ww_no) (hq : q_all S1 E z D n u w m (b + 1)) : ww_C g Y d mc ms av M (ww_rR v0 (ww_rr g c b M S1)) ww_no := ww_C_mono h (fun v M' k => by
  obtain ⟨e, ea', h1, h2⟩ := k
  exact ⟨e, ⟨ea', P, W, kl, f, z, D, E, n, u, w, m, h1, hq⟩, h2⟩) (fun _ _ h => h)
theorem ww_R_n (h : ww_C g Y d mc ms av M (ww_nQ g M c kl f z D E n u w m v0 S1) ww_no) (hq : q_all S1 E z D n u w m (b + 1)) : ww_C g Y d mc ms av M (ww_rR v0 (ww_rr g c b M S1)) ww_no := ww_C_mono h (fun v M' k => by
  obtain ⟨e, ea', P', W', h1, h2⟩ := k
  exact ⟨e, ⟨ea', P', W', kl, f, z, D, E, n, u, w, m, h1, hq⟩, h2⟩) (fun _ _ h => h)
theorem ww_R_pk (h : ww_C g Y d mc ms av M (ww_pkQ g M c P W kl f z D E n u w v0 S1) ww_no) (us : ∀ k, ww_us k = true → S2 k = S1 k) (hq : q_all S2 E z D n u 0 w (b + 1)) : ww_C g Y d mc ms av M (ww_rR v0 (ww_rr g c b M S2)) ww_no := ww_C_mono h (fun v M' k => by
  obtain ⟨e, ea', h1, h2⟩ := k
  exact ⟨e, ⟨ea', P, W, kl, f, z, D, E, n, u, 0, w, ww_rc_us h1 us, hq⟩, h2⟩) (fun _ _ h => h)
theorem ww_R_cx (hr : ww_rc g M c ea P W kl f z D E n u w m S) (H : q_all S E z D n u w m b) (h : ww_C g Y d mc ms av M (ww_cxQ M (c 8) v0) ww_no) : ww_C g Y d mc ms av M (ww_rR v0 (ww_rr g c b M (q_us S 0 0))) ww_no := ww_C_mono h (fun v M' k => by
  obtain ⟨e, F, rfl⟩ := k
  exact ⟨e, ww_mc_0 (ww_rc_cX8 hr).1 H, (ww_rc_cX8 hr).2⟩) (fun _ _ h => h)
theorem ww_R_o {i : Nat} {v1 : Int32} (h : ww_C g Y d mc ms av M (ww_outQ g M c ea P W kl f z D E n u w m i S) ww_no) (e1 : nI (q_cnt (fun j => i ≤ j ∧ D (j + 1) = D i) (m - 1)) = v1) (us : ∀ k, ww_us k = true → S2 k = ww_u2 S 12 (z i) 0 k) (hq : q_all S2 E (q_del z i) (q_del D i) n u w (m - 1) (b + 1)) : ww_C g Y d mc ms av M (ww_rR (some (.int v1)) (ww_rr g c b M S2)) ww_no := ww_C_mono h (fun v M' k => by
  obtain ⟨e, h1, h2⟩ := k
  exact ⟨e.trans (by rw [e1]), ⟨ea, P, W, kl, f, q_del z i, q_del D i, E, n, u, w, m - 1, ww_rc_us h1 us, hq⟩, h2⟩) (fun _ _ h => h)
end WWJ1
