/-! ===== a few lemmas of the content ===== -/
section WWX0
variable {g : ww_G} {M M1 : ww_M} {c ea P W kl f z D : Nat → Nat} {E : Nat → Nat → Int32} {n u w m b : Nat} {S S1 S2 : Nat → Nat → Int32}
theorem ww_us_0 {v : Int32} : ∀ k, ww_us k = true → q_us S 0 v k = S k := fun k hk => funext fun i => if_neg (fun e => by rw [e] at hk; exact absurd hk (by decide))
theorem q_34 (hG : q_G S n) {p : Nat} (hp : p < n) : 3 ≤ S 2 p ↔ S 2 p = 3 ∨ S 2 p = 4 := by
  have h := q_gh_kd hG.2.2.1 hp
  have e3 : (3 : Int32).toInt = 3 := rfl
  have e4 : (4 : Int32).toInt = 4 := rfl
  rw [ww_le', ww_eq, ww_eq]
  omega
theorem q_all_k (H : q_all S E z D n u w m b) (hb : b < 512) : ∃ k, S 23 0 = nI k ∧ q_iJ E u (S 5) (S 6) (S 24) (S 25) n k ∧ k < 4000 ∧ u < 512 := by
  obtain ⟨-, -, -, -, -, -, -, -, -, ⟨k, h1, h2⟩, hu⟩ := H
  have hk : k ≤ u := by rw [h2.2.2.2.1]; exact q_cnt_le _ u
  exact ⟨k, h1, h2, by omega, by omega⟩

theorem q_iR_fj (H : q_all S E z D n u w m b) (hr : ww_rc g M c ea P W kl f z D E n u w m S) {r k : Nat} (h3 : r < 3) : q_on (fun i => ww_I M 160 (P (z i))) (q_fj (fun i => ww_I M 176 (P (z i)) = nI r) (nI k) m 0 0) = q_on (fun i => nI (z i)) (q_fj (fun i => D i = r) (nI k) m 0 0) := by
  obtain ⟨-, -, ⟨-, r2, -⟩, -⟩ := H
  rw [q_fj_cg (R := fun i => D i = r) (fun i _ hi => by
    have hi : i < m := by omega
    rw [hr.2.2.1.2.2.1 i hi]
    have hd := (r2 i hi).2.1
    exact ⟨fun e => by
      have e := congrArg Int32.toInt e
      rw [nI_toInt (by omega), nI_toInt (by omega)] at e
      omega, fun e => by rw [e]⟩)]
  cases hq : q_fj (fun i => D i = r) (nI k) m 0 0 with
  | none => rfl
  | some j =>
    have hj : j < m := by have := (q_fj_some hq).2.1; omega
    exact (hr.1.2.1.1.1 (z j) (r2 j hj).1).1.2.1

theorem q_night_us {d : Nat → Nat} : ∀ k, ww_us k = true → q_us (q_ns (q_plans (q_us S 0 0) w) d w) 26 0 k = q_st S w k := fun k hk => by
  by_cases h : k = 12
  · rw [h]; exact q_night_12
  · rw [q_st_k h]
    refine q_night_k ?_
    refine ⟨?_, h, ?_, ?_, ?_, ?_, ?_⟩ <;> intro e <;> rw [e] at hk <;> exact absurd hk (by decide)
theorem q_all_zero {E : Nat → Nat → Int32} {z D : Nat → Nat} (hz : ∀ k i, k < 40 → S k i = 0) : q_all S E z D 0 0 0 0 0 := by
  have hc : ∀ r, q_rn S r = 0 := fun r => by unfold q_rn; rw [hz 31 r (by decide)]; rfl
  refine ⟨⟨hz 1 0 (by decide), by decide, fun p h => by omega, fun i => Or.inl (hz 9 i (by decide)), fun i => Or.inl (hz 10 i (by decide)), fun i => Or.inl (hz 11 i (by decide)), fun i => Or.inl (hz 12 i (by decide)), fun i => Or.inl (hz 17 i (by decide))⟩, ⟨⟨hz 26 0 (by decide), by decide, fun i h => by omega⟩, fun i j h => by omega, fun i j h => by omega, fun i h => by omega⟩, ⟨⟨by decide, fun r hr => ⟨by rw [hc r]; decide, by rw [hc r]; exact hz 31 r (by decide), fun k hk => by rw [hc r] at hk; omega⟩⟩, fun i h => by omega, fun i j h => by omega, fun i j h => by omega, fun p h => by omega, fun r hr => hc r, fun i h => by omega⟩, fun i h => by omega, fun i h => by omega, fun t h => by omega, fun p h => by omega, fun i h => by omega, fun i _ _ => ⟨hz 6 i (by decide), hz 7 i (by decide), hz 8 i (by decide), hz 9 i (by decide), hz 10 i (by decide), hz 11 i (by decide), hz 12 i (by decide), hz 15 i (by decide), hz 17 i (by decide), hz 18 i (by decide), hz 19 i (by decide), hz 28 i (by decide)⟩, ⟨0, hz 23 0 (by decide), fun i h => by omega, ⟨fun p h => by omega, fun p _ => rfl⟩, ⟨fun p h => by omega, fun p _ _ => rfl⟩, rfl, fun i h => by omega⟩, Nat.le_refl _⟩
end WWX0
/-! ===== the works in one word, and its calls, none of which throws here ===== -/
/-- the works hold S: n parts, w that wait, m that stand, good after b operations -/
def ww_mx (g : ww_G) (c : Nat → Nat) (b n w m : Nat) (S : Nat → Nat → Int32) (M : ww_M) : Prop := ∃ (ea P W kl f z D : Nat → Nat) (E : Nat → Nat → Int32) (u : Nat), ww_rc g M c ea P W kl f z D E n u w m S ∧ q_all S E z D n u w m b
/-- the end of an operation -/
def ww_ox (g : ww_G) (c : Nat → Nat) (b n w m : Nat) (v0 : Option Value) (S : Nat → Nat → Int32) : Option Value → ww_M → Prop := fun v M' => v = v0 ∧ ww_mx g c b n w m S M'
/-- the moves that the content holds -/
def q_k (S : Nat → Nat → Int32) : Nat := (S 23 0).toNatClampNeg
theorem q_fbar_7 {S : Nat → Nat → Int32} {n t : Nat} : q_fbar S n t 7 1 ≤ 7 := q_fbar_le7
section WWX1
variable {g : ww_G} {M : ww_M} {c ea P W kl f z D : Nat → Nat} {E : Nat → Nat → Int32} {b n u w m p t : Nat} {S S1 S2 : Nat → Nat → Int32} {v : Int32} {Y : ww_Yd} {d mc ms : Nat} {av : List Value} {v0 : Option Value}
theorem x_is (h : ww_mx g c b n w m S M) : ww_is M.1 (c 0) 7 := by
  obtain ⟨ea, P, W, kl, f, z, D, E, u, hr, H⟩ := h
  exact hr.1.1.1
theorem x_G (h : ww_mx g c b n w m S M) : q_G S n := by
  obtain ⟨ea, P, W, kl, f, z, D, E, u, hr, H⟩ := h
  exact H.1
theorem x_W (h : ww_mx g c b n w m S M) : q_W S n w := by
  obtain ⟨ea, P, W, kl, f, z, D, E, u, hr, H⟩ := h
  exact H.2.1.1
theorem x_E (h : ww_mx g c b n w m S M) (hp : p < n) (hk : S 2 p = 3) : (219 ≤ (S 14 p).toInt ∧ (S 14 p).toInt ≤ 300) ∧ (S 13 p).toInt ≤ 9000 ∧ 8300 ≤ (S 13 p).toInt - 2 * (300 - (S 14 p).toInt) := by
  obtain ⟨ea, P, W, kl, f, z, D, E, u, hr, H⟩ := h
  obtain ⟨a1, a2, -⟩ := H.2.2.2.2.1 p hp hk
  exact ⟨a1, a2.1, a2.2⟩
theorem x_C (h : ww_mx g c b n w m S M) : q_iC (S 2) (S 5) n := by
  obtain ⟨ea, P, W, kl, f, z, D, E, u, hr, H⟩ := h
  exact H.2.2.2.2.2.2.1
theorem x_H (h : ww_mx g c b n w m S M) : q_iH (S 4) n := by
  obtain ⟨ea, P, W, kl, f, z, D, E, u, hr, H⟩ := h
  exact H.2.2.2.2.2.2.2.1
theorem x_R0 (h : ww_mx g c b n w m S M) (h0 : 0 < m) : ∃ i, i < n ∧ S 12 i = 1 := by
  obtain ⟨ea, P, W, kl, f, z, D, E, u, hr, H⟩ := h
  obtain ⟨a1, a2, a3⟩ := H.2.2.1.2.1 0 h0
  exact ⟨z 0, a1, a3⟩
theorem x_m0 (h : ww_mx g c b n w m S M) (hp : p < n) (h1 : S 12 p = 1) : 0 < m := by
  obtain ⟨ea, P, W, kl, f, z, D, E, u, hr, H⟩ := h
  obtain ⟨i, hi, -⟩ := H.2.2.1.2.2.2.2.1 p hp h1
  omega
theorem x_Rd (h : ww_mx g c b n w m S M) : q_Rd S n := by
  obtain ⟨ea, P, W, kl, f, z, D, E, u, hr, H⟩ := h
  exact H.2.2.1.1.2
theorem x_k (h : ww_mx g c b n w m S M) (hb : b < 512) : S 23 0 = nI (q_k S) ∧ q_k S < 4000 := by
  obtain ⟨ea, P, W, kl, f, z, D, E, u, hr, H⟩ := h
  obtain ⟨k0, h1, h2, h4, h5⟩ := q_all_k H hb
  have e : q_k S = k0 := by
    unfold q_k
    rw [h1, nI_clamp (by omega)]
  rw [e]
  exact ⟨h1, h4⟩
/-! what is asked -/
theorem x_host (h : ww_mx g c b n w m S M) (hp : p < n) : ww_C g wy_X6_host 5 0 0 [.ref (c 0), .int (nI p)] M (ww_ret (some (.int (S 5 p))) M) ww_no := by
  obtain ⟨ea, P, W, kl, f, z, D, E, u, hr, H⟩ := h
  exact c_host (ww_cp_wo hr.1) hr.1.2.1.1 H.1 hp
theorem x_head (h : ww_mx g c b n w m S M) (hp : p < n) : ww_C g wy_X6_head 5 0 0 [.ref (c 0), .int (nI p)] M (ww_ret (some (.int (nI (q_hd (S 5) 5 p)))) M) ww_no := by
  obtain ⟨ea, P, W, kl, f, z, D, E, u, hr, H⟩ := h
  exact c_head (ww_cp_wo hr.1) hr.1.2.1.1 H.1 hp
theorem x_of0 (h : ww_mx g c b n w m S M) (hp : p < n) : ww_C g wy_X6_ofPart 5 0 0 [.ref (c 0), .int (nI p), .int 0] M (ww_ret (some (.int (S 2 p))) M) ww_no := by
  obtain ⟨ea, P, W, kl, f, z, D, E, u, hr, H⟩ := h
  exact c_ofPart_0 hr H.1 hp 0 (by decide)
theorem x_of1 (h : ww_mx g c b n w m S M) (hp : p < n) : ww_C g wy_X6_ofPart 5 0 0 [.ref (c 0), .int (nI p), .int 1] M (ww_ret (some (.int (S 3 p))) M) ww_no := by
  obtain ⟨ea, P, W, kl, f, z, D, E, u, hr, H⟩ := h
  exact c_ofPart_0 hr H.1 hp 1 (by decide)
theorem x_of2 (h : ww_mx g c b n w m S M) (hp : p < n) : ww_C g wy_X6_ofPart 5 0 0 [.ref (c 0), .int (nI p), .int 2] M (ww_ret (some (.int (S 4 p))) M) ww_no := by
  obtain ⟨ea, P, W, kl, f, z, D, E, u, hr, H⟩ := h
  exact c_ofPart_0 hr H.1 hp 2 (by decide)
theorem x_of3 (h : ww_mx g c b n w m S M) (hp : p < n) : ww_C g wy_X6_ofPart 5 0 0 [.ref (c 0), .int (nI p), .int 3] M (ww_ret (some (.int (S 6 p))) M) ww_no := by
  obtain ⟨ea, P, W, kl, f, z, D, E, u, hr, H⟩ := h
  exact c_ofPart_0 hr H.1 hp 3 (by decide)
theorem x_of4 (h : ww_mx g c b n w m S M) (hp : p < n) : ww_C g wy_X6_ofPart 5 0 0 [.ref (c 0), .int (nI p), .int 4] M (ww_ret (some (.int (S 7 p))) M) ww_no := by
  obtain ⟨ea, P, W, kl, f, z, D, E, u, hr, H⟩ := h
  exact c_ofPart_0 hr H.1 hp 4 (by decide)
theorem x_of5 (h : ww_mx g c b n w m S M) (hp : p < n) : ww_C g wy_X6_ofPart 5 0 0 [.ref (c 0), .int (nI p), .int 5] M (ww_ret (some (.int (S 8 p))) M) ww_no := by
  obtain ⟨ea, P, W, kl, f, z, D, E, u, hr, H⟩ := h
  exact c_ofPart_0 hr H.1 hp 5 (by decide)
theorem x_of6 (h : ww_mx g c b n w m S M) (hp : p < n) : ww_C g wy_X6_ofPart 5 0 0 [.ref (c 0), .int (nI p), .int 6] M (ww_ret (some (.int (S 9 p))) M) ww_no := by
  obtain ⟨ea, P, W, kl, f, z, D, E, u, hr, H⟩ := h
  exact c_ofPart_0 hr H.1 hp 6 (by decide)
theorem x_of7 (h : ww_mx g c b n w m S M) (hp : p < n) : ww_C g wy_X6_ofPart 5 0 0 [.ref (c 0), .int (nI p), .int 7] M (ww_ret (some (.int (S 10 p))) M) ww_no := by
  obtain ⟨ea, P, W, kl, f, z, D, E, u, hr, H⟩ := h
  exact c_ofPart_0 hr H.1 hp 7 (by decide)
theorem x_bars (h : ww_mx g c b n w m S M) (hp : p < n) (hk : S 2 p = 0) : ww_C g wy_X6_bars 9 0 0 [.ref (c 0), .int (nI p)] M (ww_ret (some (.int (nI (q_fbar S n p 7 1)))) M) ww_no := by
  obtain ⟨ea, P, W, kl, f, z, D, E, u, hr, H⟩ := h
  exact c_bars (ww_cp_wo hr.1) hr.1.2.1.1 H.1 hp hk
theorem x_barredBy (h : ww_mx g c b n w m S M) (hp : p < n) (hk : S 2 p = 0) : ww_C g wy_X6_barredBy 9 0 0 [.ref (c 0), .int (nI p)] M (ww_ret (some (.int (q_cby S n p))) M) ww_no := by
  obtain ⟨ea, P, W, kl, f, z, D, E, u, hr, H⟩ := h
  exact c_barredBy_0 hr H.1 hp hk
theorem x_isReleased (h : ww_mx g c b n w m S M) (hp : p < n) (hk : S 2 p = 0) : ww_C g wy_X6_isReleased 6 0 0 [.ref (c 0), .int (nI p)] M (ww_ret (some (.int (S 11 p))) M) ww_no := by
  obtain ⟨ea, P, W, kl, f, z, D, E, u, hr, H⟩ := h
  exact c_isReleased (ww_cp_wo hr.1) hr.1.2.1.1 H.1 hp hk
theorem x_wheel (h : ww_mx g c b n w m S M) (hp : p < n) (hk : S 2 p = 3) (hv : q_rg 0 2 v) : ww_C g wy_X6_wheel 6 0 0 [.ref (c 0), .int (nI p), .int v] M (ww_ret (some (.int (q_wheel S p v))) M) ww_no := by
  obtain ⟨ea, P, W, kl, f, z, D, E, u, hr, H⟩ := h
  exact c_wheel_0 (ww_cp_wo hr.1) hr.1.2.1.1 hp hk hv
theorem x_foretell {s : Int32} (h : ww_mx g c b n w m S M) (hp : p < n) (hk : S 2 p = 3) (h1 : q_rg 1 2000 v) (h2 : q_rg 0 3 s) : ww_C g wy_X6_foretell 6 0 0 [.ref (c 0), .int (nI p), .int v, .int s] M (ww_ret (some (.int (q_fore S p v s))) M) ww_no := by
  obtain ⟨ea, P, W, kl, f, z, D, E, u, hr, H⟩ := h
  rw [← q_fore_eq H hp hk]
  exact c_foretell (ww_cp_wo hr.1) hr.1.2.1.1 hp hk h1 h2
theorem x_road {r k : Nat} (h : ww_mx g c b n w m S M) (hr3 : r < 3) (hk : k < 2 ^ 31) : ww_C g wy_X6_road 5 0 0 [.ref (c 0), .int (nI r), .int (nI k)] M (ww_ret (some (.int (if k < q_rn S r then S 32 (4 * r + k) else -1))) M) ww_no := by
  obtain ⟨ea, P, W, kl, f, z, D, E, u, hr, H⟩ := h
  have h1 : q_rg 0 2 (nI r) := by
    unfold q_rg
    rw [ww_le', ww_le', nI_toInt (by omega), show (0 : Int32).toInt = 0 from rfl, show (2 : Int32).toInt = 2 from rfl]
    omega
  have h2 : (0 : Int32) ≤ nI k := by
    rw [ww_le', nI_toInt hk, show (0 : Int32).toInt = 0 from rfl]
    omega
  have k1 := c_road_0 hr H.2.2.1.1.1 h1 h2
  rw [q_iR_fj H hr hr3, q_road_eq H hr3 hk] at k1
  exact k1
theorem x_lifeAnew (h : ww_mx g c b n w m S M) (hp : p < n) : ww_C g wy_X6_lifeAnew 5 0 0 [.ref (c 0), .int (nI p)] M (ww_ox g c b n w m (some (.int (S 6 p))) S) ww_no := by
  obtain ⟨ea, P, W, kl, f, z, D, E, u, hr, H⟩ := h
  obtain ⟨-, -, -, -, -, -, -, -, -, ⟨k0, -, hJ⟩, -⟩ := id H
  have h60 := H.1.2.1
  have hE : q_okE E u := fun i hi => by
    obtain ⟨⟨p, a1, a2⟩, a3, _⟩ := hJ.1 i hi
    exact ⟨⟨p, by omega, a2⟩, a3.imp id (fun y => y.imp id (fun ⟨q, h1, h2⟩ => ⟨q, by omega, h2⟩))⟩
  have eb : q_rL E p u = S 6 p := hJ.2.2.1.1 p hp
  refine ww_C_mono (c_lifeAnew_0 hr hE hp) (fun v M' k => ?_) (fun _ _ h => h)
  obtain ⟨e, F, rfl⟩ := k
  exact ⟨e.trans (by rw [eb]), ea, P, W, kl, f, z, D, E, u, (ww_rc_cX8 hr).1, H⟩
/-! the plans -/
theorem q_bp (S : Nat → Nat → Int32) (h8 : w ≤ 8) : ∃ best b1 : Nat, (w = 1 → best = 0 ∧ q_dg w b1 0 = 0) ∧ (∀ r, r < 3 → q_cnt (fun j => q_dg w b1 j = r) w ≤ 4) ∧ (∀ bl p0, q_bw (fun j => S 28 (q_wq S j)) w bl → (q_df bl w 0 0 0 (1000, p0)).1 = best ∧ q_mk (q_dg w b1) w (q_df bl w 0 0 0 (1000, p0)).2) ∧ (∀ bl, q_bw (fun j => S 28 (q_wq S j)) w bl → q_fm bl w 0 0 = best) := by
  obtain ⟨b1, best, k1, k2, k3, k4, k5, k6⟩ := q_best (S := S) h8
  refine ⟨best, b1, fun e => ?_, k2, k5, k6⟩
  subst e
  have hb : q_bw (fun j => S 28 (q_wq S j)) 1 (fun _ => 0) := fun i hi => ⟨(show (0 : Nat) < 256 by decide), fun j hj => ⟨fun y => by simp at y, fun y => by omega⟩⟩
  obtain ⟨j1, j2⟩ := k5 (fun _ => 0) 0 hb
  have e1 : (q_df (fun _ => 0) 1 0 0 0 (1000, 0)) = (0, 1) := by decide +kernel
  rw [e1] at j1 j2
  exact ⟨j1.symm, ((j2.2 0 0 (by decide) (by decide)).mp (by decide)).2⟩
theorem x_plan {best : Nat} (hk : ∀ bl p0, q_bw (fun j => S 28 (q_wq S j)) w bl → (q_df bl w 0 0 0 (1000, p0)).1 = best ∧ (q_df bl w 0 0 0 (1000, p0)).2 < 2 ^ 24) (h : ww_mx g c b n w m S M) : ww_C g wy_X6_plan 12 0 0 [.ref (c 0)] M (ww_ox g c b n w m (some (.int (nI best))) S) ww_no := by
  obtain ⟨ea, P, W, kl, f, z, D, E, u, hr, H⟩ := h
  have e28 : ∀ j, j < w → ww_I M 177 (P (q_wq S j)) = S 28 (q_wq S j) := fun j hj => (hr.1.2.1.1.1 _ (H.2.1.1.2.2 j hj).1).2.2.2.2.2.1.2.2.2.2.2.2.2.2
  refine ww_C_mono (c_plan hr) (fun v M' h => ?_) (fun _ _ h => h)
  obtain ⟨p0, bl, F, h1, rfl, rfl⟩ := h
  obtain ⟨j1, j2⟩ := hk bl p0 (q_bw_cg h1 e28)
  obtain ⟨a1, a2⟩ := ww_rc_cX7 (F := F) hr
  obtain ⟨a3, a4⟩ := ww_rc_pl (b := (q_df bl w 0 0 0 (1000, p0)).1) (p := (q_df bl w 0 0 0 (1000, p0)).2) a1 j2
  exact ⟨by rw [j1], ea, P, W, kl, f, z, D, E, u, a3, H⟩
theorem x_planAnew {best : Nat} (hk : ∀ bl, q_bw (fun j => S 28 (q_wq S j)) w bl → q_fm bl w 0 0 = best) (h : ww_mx g c b n w m S M) : ww_C g wy_X6_planAnew 12 0 0 [.ref (c 0)] M (ww_ox g c b n w m (some (.int (nI best))) S) ww_no := by
  obtain ⟨ea, P, W, kl, f, z, D, E, u, hr, H⟩ := h
  have e28 : ∀ j, j < w → ww_I M 177 (P (q_wq S j)) = S 28 (q_wq S j) := fun j hj => (hr.1.2.1.1.1 _ (H.2.1.1.2.2 j hj).1).2.2.2.2.2.1.2.2.2.2.2.2.2.2
  refine ww_C_mono (c_planAnew hr) (fun v M' h => ?_) (fun _ _ h => h)
  obtain ⟨bl, F, h1, rfl, rfl⟩ := h
  obtain ⟨a1, a2⟩ := ww_rc_cX7 (F := F) hr
  exact ⟨by rw [hk bl (q_bw_cg h1 e28)], ea, P, W, kl, f, z, D, E, u, a1, H⟩
/-! the operations -/
theorem x_cq (hr : ww_rc g M c ea P W kl f z D E n u w m S) (h : ww_C g Y d mc ms av M (ww_cq g M v0 (c 0) (c 1) (ea 0) n P W kl S1) ww_no) (h2 : S1 2 = S 2) (h27 : S1 27 = S 27) (hq : q_all S1 E z D n u w m b) : ww_C g Y d mc ms av M (ww_ox g c b n w m v0 S1) ww_no := ww_C_mono (ww_C_cq hr h h2 h27) (fun v M' k => ⟨k.1, ea, P, W, kl, f, z, D, E, u, k.2.1, hq⟩) (fun _ _ h => h)
theorem x_l {E' : Nat → Nat → Int32} {u' : Nat} (h : ww_C g Y d mc ms av M (ww_lQ g M c P W kl z D E' n u' w m v0 S1) ww_no) (hq : q_all S1 E' z D n u' w m b) : ww_C g Y d mc ms av M (ww_ox g c b n w m v0 S1) ww_no := ww_C_mono h (fun v M' k => by
  obtain ⟨e, ea', f', h1, h2⟩ := k
  exact ⟨e, ea', P, W, kl, f', z, D, E', u', h1, hq⟩) (fun _ _ h => h)
theorem x_examine (h : ww_mx g c b n w m S M) (hp : p < n) (hc : q_exam S p) : ww_C g wy_X6_examine 5 0 0 [.ref (c 0), .int (nI p)] M (ww_ox g c (b + 1) n w m (some (.int (S 7 p))) (ww_u2 (ww_u2 S 7 p 0) 8 p 0)) ww_no := by
  obtain ⟨ea, P, W, kl, f, z, D, E, u, hr, H⟩ := h
  exact x_cq hr (c_examine_0 (ww_cp_wo hr.1) hr.1.2.1.1 H.1 hp hc) rfl rfl (q_all_b (q_all_examine H hp))
theorem x_waive (h : ww_mx g c b n w m S M) (hp : p < n) (hv : q_rg 1 999 v) (hc : q_waive S p) : ww_C g wy_X6_waive 5 0 0 [.ref (c 0), .int (nI p), .int v] M (ww_ox g c (b + 1) n w m none (ww_u2 S 8 p v)) ww_no := by
  obtain ⟨ea, P, W, kl, f, z, D, E, u, hr, H⟩ := h
  exact x_cq hr (c_waive_0 (ww_cp_wo hr.1) hr.1.2.1.1 H.1 hp hv hc) rfl rfl (q_all_b (q_all_waive H hp))
theorem x_flaw (h : ww_mx g c b n w m S M) (hp : p < n) (hk : S 2 p = 3 ∨ S 2 p = 4) (hv : q_rg 1 99 v) : ww_C g wy_X6_flaw 5 0 0 [.ref (c 0), .int (nI p), .int v] M (ww_ox g c (b + 1) n w m (some (.int (S 18 p))) (ww_u2 (ww_u2 S 18 p v) 19 p (S 6 p))) ww_no := by
  obtain ⟨ea, P, W, kl, f, z, D, E, u, hr, H⟩ := h
  exact x_cq hr (c_flaw_0 (ww_cp_wo hr.1) hr.1.2.1.1 hp hk hv) rfl rfl (q_all_b (q_all_flaw H hp hv))
theorem x_clear (h : ww_mx g c b n w m S M) (hp : p < n) (hc : q_clear S p) : ww_C g wy_X6_clear 5 0 0 [.ref (c 0), .int (nI p)] M (ww_ox g c (b + 1) n w m (some (.int (S 18 p))) (ww_u2 (ww_u2 S 18 p 0) 9 p 0)) ww_no := by
  obtain ⟨ea, P, W, kl, f, z, D, E, u, hr, H⟩ := h
  exact x_cq hr (c_clear_0 (ww_cp_wo hr.1) hr.1.2.1.1 H.1 hp hc) rfl rfl (q_all_b (q_all_clear H hp))
theorem x_look_h (h : ww_mx g c b n w m S M) (hp : p < n) (hc : q_look S p v) (hv : q_lookV S p v) : ww_C g wy_X6_look 5 0 0 [.ref (c 0), .int (nI p), .int v] M (ww_ox g c (b + 1) n w m (some (.int (S 18 p))) (q_holds S p)) ww_no := by
  obtain ⟨ea, P, W, kl, f, z, D, E, u, hr, H⟩ := h
  exact x_cq hr (c_look_0h (ww_cp_wo hr.1) hr.1.2.1.1 H.1 hp hc hv) rfl rfl (q_all_b (q_all_holds H hp))
theorem x_look_n (h : ww_mx g c b n w m S M) (hp : p < n) (hc : q_look S p v) (hv : ¬ q_lookV S p v) : ww_C g wy_X6_look 5 0 0 [.ref (c 0), .int (nI p), .int v] M (ww_ox g c (b + 1) n w m (some (.int 0)) (ww_u2 S 10 p (if v = 0 then S 10 p else 0))) ww_no := by
  obtain ⟨ea, P, W, kl, f, z, D, E, u, hr, H⟩ := h
  exact x_cq hr (c_look_0n (ww_cp_wo hr.1) hr.1.2.1.1 H.1 hp hc hv) rfl rfl (q_all_b (q_all_10 H hp (by split; exact H.1.2.2.2.2.1 p; exact Or.inl rfl)))
theorem q_rc_2 (h : t = 2 ∨ t = 27) : q_rc S v n t = S t := funext fun i => (q_if_f (fun y => by have := y.1; omega)).trans (q_if_f (fun y => by have := y.1; omega))
theorem x_recall (h : ww_mx g c b n w m S M) (hc : q_rg 0 9 v) : ww_C g wy_X6_recall 5 0 0 [.ref (c 0), .int v] M (ww_ox g c (b + 1) n w m (some (.int (nI (q_cnt (q_hit S v) n)))) (q_rc S v n)) ww_no := by
  obtain ⟨ea, P, W, kl, f, z, D, E, u, hr, H⟩ := h
  exact x_cq hr (c_recall_0 (ww_cp_wo hr.1) hr.1.2.1.1 H.1 hc) (q_rc_2 (Or.inl rfl)) (q_rc_2 (Or.inr rfl)) (q_all_b (q_all_recall H))
theorem x_release (h : ww_mx g c b n w m S M) (hp : p < n) (hk : S 2 p = 0) : ww_C g wy_X6_release 9 0 0 [.ref (c 0), .int (nI p)] M (ww_ox g c (b + 1) n w m (some (.int (nI (q_fbar S n p 7 1)))) (ww_u2 S 11 p (if q_fbar S n p 7 1 = 0 then 1 else 0))) ww_no := by
  obtain ⟨ea, P, W, kl, f, z, D, E, u, hr, H⟩ := h
  have hrel : q_fbar S n p 7 1 = 0 → ∀ i, i < n → q_hd (S 5) 5 i = p → S 9 i = 0 ∧ (S 2 i = 3 → 250 ≤ (S 14 i).toInt ∧ 8500 ≤ (S 13 i).toInt) := fun h0 => q_rel_ok H h0
  exact x_cq hr (c_release_0 (ww_cp_wo hr.1) hr.1.2.1.1 H.1 hp hk) rfl rfl (q_all_b (q_all_rel H hp (by split; exact Or.inr rfl; exact Or.inl rfl) (fun h1 => ⟨hk, hrel (Classical.byContradiction fun y => by rw [if_neg y] at h1; exact absurd h1 (by decide))⟩)))
theorem x_gate (h : ww_mx g c b n w m S M) (hp : p < n) (hk : S 2 p = 3) (hv : q_rg (-5) 5 v) : ww_C g wy_X6_gate 6 0 0 [.ref (c 0), .int (nI p), .int v] M (ww_ox g c (b + 1) n w m (some (.int (S 14 p + v))) (ww_u2 (ww_u2 S 16 p (S 14 p + v)) 17 p 1)) ww_no := by
  obtain ⟨ea, P, W, kl, f, z, D, E, u, hr, H⟩ := h
  exact x_cq hr (c_gate_0 (ww_cp_wo hr.1) hr.1.2.1.1 hr.1.2.1.2 hp hk hv) rfl rfl (q_all_b (q_all_gate H hp hk hv))
theorem x_fit (h : ww_mx g c b n w m S M) (hb : b < 512) (hp : p < n) (ht : t < n) (hc : q_fitP S p t) (hs : q_fitS S n p t) : ww_C g wy_X6_fit 10 2 1037 [.ref (c 0), .int (nI p), .int (nI t)] M (ww_ox g c (b + 1) n w m (some (.int (nI (q_in (q_fit S (q_k S) p t) n (nI t))))) (q_fit S (q_k S) p t)) ww_no := by
  obtain ⟨h23, h4⟩ := x_k h hb
  obtain ⟨ea, P, W, kl, f, z, D, E, u, hr, H⟩ := h
  obtain ⟨-, -, -, -, h5⟩ := q_all_k H hb
  have h4p := H.2.2.2.2.2.2.2.1 p hp
  have h4h := H.2.2.2.2.2.2.2.1 t ht
  have hx4 : -100 ≤ (S 4 p - S 4 t).toInt := by
    rw [Int32.toInt_sub, Int.bmod_eq_of_le (by omega) (by omega)]
    omega
  exact x_l (c_fit_0 hr H.1 h5 (q_k S) hp ht hx4 hc hs) (q_all_fit H (by omega) h4 h23 hp ht hc hs)
theorem x_take (h : ww_mx g c b n w m S M) (hb : b < 512) (hp : p < n) (hc : q_takeS S p) : ww_C g wy_X6_take 10 2 1037 [.ref (c 0), .int (nI p)] M (ww_ox g c (b + 1) n w m (some (.int (S 5 p))) (q_take S (q_k S) p)) ww_no := by
  obtain ⟨h23, h4⟩ := x_k h hb
  obtain ⟨ea, P, W, kl, f, z, D, E, u, hr, H⟩ := h
  obtain ⟨-, -, -, -, h5⟩ := q_all_k H hb
  exact x_l (c_take_0 hr H.1 h5 (q_k S) hp hc) (q_all_take H (by omega) h4 h23 hp hc)
theorem x_scrap (h : ww_mx g c b n w m S M) (hb : b < 512) (hp : p < n) (hc : q_scrapS S n w p) : ww_C g wy_X6_scrap 10 2 1037 [.ref (c 0), .int (nI p)] M (ww_ox g c (b + 1) n w m none (q_moves (q_us S 0 0) p (q_k S) (-2))) ww_no := by
  obtain ⟨h23, h4⟩ := x_k h hb
  obtain ⟨ea, P, W, kl, f, z, D, E, u, hr, H⟩ := h
  obtain ⟨-, -, -, -, h5⟩ := q_all_k H hb
  exact x_l (c_scrap_0 hr H.1 H.2.1.1 h5 (q_k S) hp hc) (q_all_scrap H (by omega) h4 h23 hp hc.1)
theorem x_run {s : Int32} (h : ww_mx g c b n w m S M) (hb : b < 512) (hp : p < n) (hk : S 2 p = 0) (hc : q_rg 1 2000 v ∧ q_rg 0 3 s) (hrc : q_runC S p) : ww_C g wy_X6_run 10 2 1037 [.ref (c 0), .int (nI p), .int v, .int s] M (ww_ox g c (b + 1) n w m (some (.int (q_oi (q_ff (q_bad (ww_u2 (q_us S 0 0) 11 p 0) p v s) n 0)))) (q_run (ww_u2 (q_us S 0 0) 11 p 0) n p v s)) ww_no := by
  obtain ⟨ea, P, W, kl, f, z, D, E, u, hr, H⟩ := h
  obtain ⟨-, -, -, -, h5⟩ := q_all_k H hb
  exact x_l (c_run_0 hr H.1 h5 (fun i hi => ww_le'.mpr (H.2.2.2.1 i hi).2.1.1) hp hk hc hrc) (q_all_run H (by omega) hp hk hc.1 hc.2 hrc)
theorem x_turn (h : ww_mx g c b n w m S M) (hp : p < n) (hk : S 2 p = 2) (hc : q_turnC S n p) : ∃ a y, q_pair S n p a y ∧ S 5 a = nI p ∧ S 5 y = nI p ∧ ww_C g wy_X6_turn 5 0 0 [.ref (c 0), .int (nI p)] M (ww_ox g c (b + 1) n w m (some (.int (S 13 a + S 13 y - 2 * q_turnM (q_true (q_true S a) y) a y))) (q_turn S a y)) ww_no := by
  obtain ⟨ea, P, W, kl, f, z, D, E, u, hr, H⟩ := h
  obtain ⟨a, y, hq, e1, e2, s1, s2⟩ := q_pair_of H hp hk hc.1
  exact ⟨a, y, hq, s1, s2, x_cq hr (c_turn_0 (ww_cp_wo hr.1) hr.1.2.1.1 H.1 hr.1.2.1.2 hp hk hq hc.2) (q_turn_k (by decide) (by decide)) (q_turn_k (by decide) (by decide)) (q_all_b (q_all_turn H hp hq.2.2.1 hq.2.2.2.1 hq.2.2.2.2.1 hq.2.2.2.2.2.1 hq.2.2.2.2.2.2 s1 s2))⟩
theorem x_limits {k : Nat} {e i f1 : Int32} (h : ww_mx g c b n w m S M) (hk5 : k < 5) (h2 : q_rg 0 99999 e) (h3 : q_rg 0 99999 i) (h4 : q_rg 0 99999 f1) : ww_C g wy_X6_limits 2 0 0 [.ref (c 0), .int (nI k), .int e, .int i, .int f1] M (ww_ox g c (b + 1) n w m (some (.int (S 20 k))) (q_limits S k e i f1)) ww_no := by
  obtain ⟨ea, P, W, kl, f, z, D, E, u, hr, H⟩ := h
  have hr' := ww_rc_us (S1 := q_us S 0 0) hr ww_us_0
  exact x_cq hr' (c_limits_0 (ww_cp_wo hr.1) hr.1.2.2.1 hr'.1.2.1.1 hr.1.2.2.2 hk5 h2 h3 h4) rfl rfl (q_all_b (q_all_limits H e i f1))
theorem x_part {k : Nat} {e i : Int32} (h : ww_mx g c b n w m S M) (hn60 : n < 60) (hk5 : k < 5) (h2 : q_rg 0 9 e) (h3 : q_rg 0 3 i) : ww_C g wy_X6_part 8 4 1037 [.ref (c 0), .int (nI k), .int e, .int i] M (ww_ox g c (b + 1) (n + 1) w m (some (.int (nI n))) (q_part S n (nI k) e i)) ww_no := by
  obtain ⟨ea, P, W, kl, f, z, D, E, u, hr, H⟩ := h
  refine ww_C_mono (c_part_0 hr H.1 H.2.1.1 (fun i hi => (H.2.2.1.2.1 i hi).1) hn60 (H.2.2.2.2.2.2.2.2.1 n (Nat.le_refl _) hn60) hk5 h2 h3) (fun v M' k => ?_) (fun _ _ h => h)
  obtain ⟨e, ea', P', W', h1, h2⟩ := k
  exact ⟨e, ea', P', W', kl, f, z, D, E, u, h1, q_all_b (q_all_part H hn60 hk5 h3)⟩
theorem x_comes (h : ww_mx g c b n w m S M) (hp : p < n) (hk : S 2 p = 0) (hv : q_rg 0 99 v) (hd : q_comesC S w p v) : ww_C g wy_X6_comes 9 1 1037 [.ref (c 0), .int (nI p), .int v] M (ww_ox g c (b + 1) n (w + 1) m (some (.int (nI (w + 1)))) (q_comes (q_us S 0 0) w p v)) ww_no := by
  obtain ⟨ea, P, W, kl, f, z, D, E, u, hr, H⟩ := h
  refine ww_C_mono (c_comes_0 hr H.1 H.2.1.1 hp hk hv hd) (fun v M' k => ?_) (fun _ _ h => h)
  obtain ⟨e, ea', h1, h2⟩ := k
  exact ⟨e, ea', P, W, kl, f, z, D, E, u, h1, q_all_b (q_all_comes (q_all_0 H) hp hd)⟩
/-- one that waits is parked: on road 0, with no move -/
theorem x_night (h : ww_mx g c b n 1 0 S M) : ww_C g wy_X6_night 13 8 208 [.ref (c 0)] M (fun v M' => v = some (.int 0) ∧ ∃ S2, (∀ k, ww_us k = true → S2 k = q_st S 1 k) ∧ 0 < q_rn S2 0 ∧ ww_mx g c (b + 1) n 0 1 S2 M') ww_no := by
  obtain ⟨ea, P, W, kl, f, z, D, E, u, hr, H⟩ := h
  obtain ⟨best, b1, k1, k2, k5, k6⟩ := q_bp (w := 1) S (by decide)
  obtain ⟨e0, k1'⟩ := k1 rfl
  subst e0
  have hd : ∀ i, i < 1 → q_dg 1 b1 i < 3 ∧ q_cnt (fun j => q_dg 1 b1 j = q_dg 1 b1 i) 1 ≤ 4 := fun i _ => ⟨q_dg_lt, k2 _ q_dg_lt⟩
  refine ww_C_mono (c_night_0 (dd := q_dg 1 b1) (best := 0) hr H.1 H.2.1.1 (by decide) H.2.1.2.1 (fun i _ => q_dg_lt) (fun bl p0 hbl _ => k5 bl p0 hbl)) (fun v M' k => ?_) (fun _ _ h => h)
  obtain ⟨e, ea', h1, h2⟩ := k
  have hq := q_all_b (q_all_night H (by decide) hd)
  refine ⟨e, _, q_night_us, ?_, ea', P, W, kl, f, q_wq S, q_dg 1 b1, E, u, ww_rc_us h1 q_night_us, hq⟩
  rw [hq.2.2.1.2.2.2.2.2.1 0 (by decide), q_cnt_s (P := fun j => q_dg 1 b1 j = 0) (n := 0) k1']
  omega
theorem x_out (h : ww_mx g c b n w m S M) (h0 : 0 < m) : ww_C g wy_X6_out 6 0 0 [.ref (c 0)] M (fun v M' => ∃ (j q : Nat) (S2 : Nat → Nat → Int32), j ≤ 8 ∧ v = some (.int (nI j)) ∧ (∀ k, ww_us k = true → S2 k = ww_u2 S 12 q 0 k) ∧ ww_mx g c (b + 1) n w (m - 1) S2 M') ww_no := by
  obtain ⟨ea, P, W, kl, f, z, D, E, u, hr, H⟩ := h
  obtain ⟨k, k1, k2⟩ := q_out_who H h0
  obtain ⟨j1, j2, j3⟩ := q_all_out H h0 (q_mi_lt _ h0) rfl k2
  have h8 := H.2.2.1.1.1
  refine ww_C_mono (c_out_0 hr h8 h0 (fun j hj => (H.2.2.1.2.1 j hj).1) (fun j hj => (H.2.2.1.2.1 j hj).2.1) H.2.2.1.2.2.1) (fun v M' k => ?_) (fun _ _ h => h)
  obtain ⟨e, h1, h2⟩ := k
  exact ⟨_, _, _, Nat.le_trans (q_cnt_le _ _) (by omega), e, j2, ea, P, W, kl, f, _, _, E, u, ww_rc_us h1 j2, q_all_b j1⟩
/-! the moves -/
theorem q_lm {s5 s6 s24 s25 : Nat → Int32} {k : Nat} (hJ : q_iJ E u s5 s6 s24 s25 n k) (h60 : n ≤ 60) (hp : p < n) : ∀ i, i ≤ u → (q_cnt (q_mov E (nI p)) i = 0 → q_rH E i p = -1) ∧ (0 < q_cnt (q_mov E (nI p)) i → ∃ j, j < i ∧ q_mov E (nI p) j ∧ q_cnt (q_mov E (nI p)) j + 1 = q_cnt (q_mov E (nI p)) i ∧ E 1 j = q_rH E i p)
  | 0, _ => ⟨fun _ => rfl, fun h => absurd h (by show ¬ 0 < 0; decide)⟩
  | i + 1, hi => by
    obtain ⟨a1, a2⟩ := q_lm hJ h60 hp i (by omega)
    obtain ⟨⟨p', hp', e0⟩, -, e2⟩ := hJ.1 i (by omega)
    have up : ∀ (hn : ¬ q_mov E (nI p) i) (e : q_rH E (i + 1) p = q_rH E i p), (q_cnt (q_mov E (nI p)) (i + 1) = 0 → q_rH E (i + 1) p = -1) ∧ (0 < q_cnt (q_mov E (nI p)) (i + 1) → ∃ j, j < i + 1 ∧ q_mov E (nI p) j ∧ q_cnt (q_mov E (nI p)) j + 1 = q_cnt (q_mov E (nI p)) (i + 1) ∧ E 1 j = q_rH E (i + 1) p) := fun hn e => by
      rw [q_cnt_n hn, e]
      exact ⟨a1, fun h => by
        obtain ⟨j, b1, b2⟩ := a2 h
        exact ⟨j, by omega, b2⟩⟩
    by_cases c2 : 0 < E 2 i
    · exact up (fun y => by rw [y.2] at c2; exact absurd c2 (by decide)) (by
        show (if 0 < E 2 i then q_rH E i else q_up1 (q_rH E i) (E 0 i).toNatClampNeg (E 1 i)) p = _
        rw [if_pos c2])
    · have e2 : E 2 i = 0 := e2.elim id (fun y => absurd y c2)
      have er : q_rH E (i + 1) p = if p = p' then E 1 i else q_rH E i p := by
        show (if 0 < E 2 i then q_rH E i else q_up1 (q_rH E i) (E 0 i).toNatClampNeg (E 1 i)) p = _
        rw [if_neg c2, e0, nI_clamp (by omega)]
        rfl
      by_cases c : p = p'
      · have hm : q_mov E (nI p) i := ⟨by rw [e0, c], e2⟩
        rw [if_pos c] at er
        rw [q_cnt_s hm, er]
        exact ⟨fun h => by omega, fun _ => ⟨i, by omega, hm, rfl, rfl⟩⟩
      · rw [if_neg c] at er
        exact up (fun y => c (by
          have y := y.1
          rw [e0] at y
          exact ((nI_eq (by omega) (by omega)).mp y).symm)) er
theorem x_moves (h : ww_mx g c b n w m S M) (hp : p < n) : ∃ mv : Nat, mv ≤ 512 ∧ ww_C g wy_X6_ofPart 5 0 0 [.ref (c 0), .int (nI p), .int 8] M (ww_ret (some (.int (nI mv))) M) ww_no ∧ (mv = 0 → S 5 p = -1) ∧ (0 < mv → ww_C g wy_X6_trace 5 0 0 [.ref (c 0), .int (nI p), .int (nI (mv - 1))] M (ww_ret (some (.int (S 5 p))) M) ww_no) := by
  obtain ⟨ea, P, W, kl, f, z, D, E, u, hr, H⟩ := h
  obtain ⟨-, -, -, -, -, -, -, -, -, ⟨k0, -, hJ⟩, -⟩ := id H
  have h60 := H.1.2.1
  have hu : u ≤ 512 := hr.2.1.2.2.2.2.2.2.1
  have hle := q_cnt_le (q_mov E (nI p)) u
  obtain ⟨a1, a2⟩ := q_lm hJ h60 hp u (Nat.le_refl _)
  have e5 : q_rH E u p = S 5 p := hJ.2.1.1 p hp
  rw [e5] at a1 a2
  refine ⟨q_cnt (q_mov E (nI p)) u, by omega, c_ofPart_0 hr H.1 hp 8 (by decide), a1, fun h0 => ?_⟩
  obtain ⟨j, j1, j2, j3, j4⟩ := a2 h0
  have k := c_trace_a hr hp (q_fj_of (k := q_cnt (q_mov E (nI p)) u - 1) (by omega) (show u < 2 ^ 31 by omega) j1 j2 (by omega))
  rw [j4] at k
  exact k
end WWX1
