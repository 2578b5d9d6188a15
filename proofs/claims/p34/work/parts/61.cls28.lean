/-! ===== wheels, limits, hosts, roads written, and the content with them ===== -/
section WWV1
variable {g : ww_G} {M0 M M1 : ww_M} {a x pl pe n : Nat} {P W kl : Nat → Nat} {S : Nat → Nat → Int32} {v : Int32}
theorem ww_pf_200 (h : ww_pf M P W kl n S) (hW : ww_wa W n S) {p : Nat} (hp : p < n) (hk : S 2 p = 3) : ww_pf (ww_sI M 200 (W p) v) P W kl n (ww_u2 S 13 p v) := by
  refine ⟨fun i hi => ?_, fun j hj => ?_, h.2.2⟩
  · obtain ⟨⟨a0, a1, a2, a3, a4, a5⟩, b, c, d, e, ⟨s1, s2, s3, s4, s5, s6, s7, s8, s9⟩, z⟩ := h.1 i hi
    refine ⟨⟨a0, (ww_sI_f (by decide)).trans a1, (ww_sI_f (by decide)).trans a2, (ww_sI_f (by decide)).trans a3, (ww_sI_f (by decide)).trans a4, a5⟩, fun hk' => ?_, c, d, (ww_sI_f (by decide)).trans e, ⟨(ww_sI_f (by decide)).trans s1, (ww_sI_f (by decide)).trans s2, (ww_sI_f (by decide)).trans s3, (ww_sI_f (by decide)).trans s4, (ww_sI_f (by decide)).trans s5, (ww_sI_f (by decide)).trans s6, (ww_sI_f (by decide)).trans s7, (ww_sI_f (by decide)).trans s8, (ww_sI_f (by decide)).trans s9⟩, ?_⟩
    · obtain ⟨w1, w2, w3, w4, w5, w6⟩ := b hk'
      have key : ww_I (ww_sI M 200 (W p) v) 200 (W i) = ww_u2 S 13 p v 13 i := by
        by_cases q : i = p
        · subst q; exact ww_sI_s.trans ww_u2s.symm
        · exact (ww_sI_a (fun y => q (hW i p hi hp hk' hk y))).trans (w3.trans (ww_u2n (fun y => q y.2)).symm)
      exact ⟨w1, w2, key, (ww_sI_f (by decide)).trans w4, (ww_sI_f (by decide)).trans w5, (ww_sI_f (by decide)).trans w6⟩
    · show ww_I (ww_sI M 200 (W p) v) 176 (P i) = -1 ↔ S 12 i = 0
      rw [show ww_I (ww_sI M 200 (W p) v) 176 (P i) = ww_I M 176 (P i) from ww_sI_f (by decide)]
      exact z
  · obtain ⟨l1, l2, l3, l4⟩ := h.2.1 j hj
    exact ⟨l1, (ww_sI_f (by decide)).trans l2, (ww_sI_f (by decide)).trans l3, (ww_sI_f (by decide)).trans l4⟩
theorem ww_pf_201 (h : ww_pf M P W kl n S) (hW : ww_wa W n S) {p : Nat} (hp : p < n) (hk : S 2 p = 3) : ww_pf (ww_sI M 201 (W p) v) P W kl n (ww_u2 S 14 p v) := by
  refine ⟨fun i hi => ?_, fun j hj => ?_, h.2.2⟩
  · obtain ⟨⟨a0, a1, a2, a3, a4, a5⟩, b, c, d, e, ⟨s1, s2, s3, s4, s5, s6, s7, s8, s9⟩, z⟩ := h.1 i hi
    refine ⟨⟨a0, (ww_sI_f (by decide)).trans a1, (ww_sI_f (by decide)).trans a2, (ww_sI_f (by decide)).trans a3, (ww_sI_f (by decide)).trans a4, a5⟩, fun hk' => ?_, c, d, (ww_sI_f (by decide)).trans e, ⟨(ww_sI_f (by decide)).trans s1, (ww_sI_f (by decide)).trans s2, (ww_sI_f (by decide)).trans s3, (ww_sI_f (by decide)).trans s4, (ww_sI_f (by decide)).trans s5, (ww_sI_f (by decide)).trans s6, (ww_sI_f (by decide)).trans s7, (ww_sI_f (by decide)).trans s8, (ww_sI_f (by decide)).trans s9⟩, ?_⟩
    · obtain ⟨w1, w2, w3, w4, w5, w6⟩ := b hk'
      have key : ww_I (ww_sI M 201 (W p) v) 201 (W i) = ww_u2 S 14 p v 14 i := by
        by_cases q : i = p
        · subst q; exact ww_sI_s.trans ww_u2s.symm
        · exact (ww_sI_a (fun y => q (hW i p hi hp hk' hk y))).trans (w4.trans (ww_u2n (fun y => q y.2)).symm)
      exact ⟨w1, w2, (ww_sI_f (by decide)).trans w3, key, (ww_sI_f (by decide)).trans w5, (ww_sI_f (by decide)).trans w6⟩
    · show ww_I (ww_sI M 201 (W p) v) 176 (P i) = -1 ↔ S 12 i = 0
      rw [show ww_I (ww_sI M 201 (W p) v) 176 (P i) = ww_I M 176 (P i) from ww_sI_f (by decide)]
      exact z
  · obtain ⟨l1, l2, l3, l4⟩ := h.2.1 j hj
    exact ⟨l1, (ww_sI_f (by decide)).trans l2, (ww_sI_f (by decide)).trans l3, (ww_sI_f (by decide)).trans l4⟩
theorem ww_pf_203 (h : ww_pf M P W kl n S) (hW : ww_wa W n S) {p : Nat} (hp : p < n) (hk : S 2 p = 3) : ww_pf (ww_sI M 203 (W p) v) P W kl n (ww_u2 S 15 p v) := by
  refine ⟨fun i hi => ?_, fun j hj => ?_, h.2.2⟩
  · obtain ⟨⟨a0, a1, a2, a3, a4, a5⟩, b, c, d, e, ⟨s1, s2, s3, s4, s5, s6, s7, s8, s9⟩, z⟩ := h.1 i hi
    refine ⟨⟨a0, (ww_sI_f (by decide)).trans a1, (ww_sI_f (by decide)).trans a2, (ww_sI_f (by decide)).trans a3, (ww_sI_f (by decide)).trans a4, a5⟩, fun hk' => ?_, c, d, (ww_sI_f (by decide)).trans e, ⟨(ww_sI_f (by decide)).trans s1, (ww_sI_f (by decide)).trans s2, (ww_sI_f (by decide)).trans s3, (ww_sI_f (by decide)).trans s4, (ww_sI_f (by decide)).trans s5, (ww_sI_f (by decide)).trans s6, (ww_sI_f (by decide)).trans s7, (ww_sI_f (by decide)).trans s8, (ww_sI_f (by decide)).trans s9⟩, ?_⟩
    · obtain ⟨w1, w2, w3, w4, w5, w6⟩ := b hk'
      have key : ww_I (ww_sI M 203 (W p) v) 203 (W i) = ww_u2 S 15 p v 15 i := by
        by_cases q : i = p
        · subst q; exact ww_sI_s.trans ww_u2s.symm
        · exact (ww_sI_a (fun y => q (hW i p hi hp hk' hk y))).trans (w6.trans (ww_u2n (fun y => q y.2)).symm)
      exact ⟨w1, w2, (ww_sI_f (by decide)).trans w3, (ww_sI_f (by decide)).trans w4, (ww_sI_f (by decide)).trans w5, key⟩
    · show ww_I (ww_sI M 203 (W p) v) 176 (P i) = -1 ↔ S 12 i = 0
      rw [show ww_I (ww_sI M 203 (W p) v) 176 (P i) = ww_I M 176 (P i) from ww_sI_f (by decide)]
      exact z
  · obtain ⟨l1, l2, l3, l4⟩ := h.2.1 j hj
    exact ⟨l1, (ww_sI_f (by decide)).trans l2, (ww_sI_f (by decide)).trans l3, (ww_sI_f (by decide)).trans l4⟩
theorem ww_pf_80 (h : ww_pf M P W kl n S) (hK : ∀ i j, i < 5 → j < 5 → kl i = kl j → i = j) {p : Nat} (hp : p < 5) : ww_pf (ww_sI M 80 (kl p) v) P W kl n (ww_u2 S 20 p v) := by
  refine ⟨fun i hi => ?_, fun j hj => ?_, h.2.2⟩
  · obtain ⟨⟨a0, a1, a2, a3, a4, a5⟩, b, c, d, e, ⟨s1, s2, s3, s4, s5, s6, s7, s8, s9⟩, z⟩ := h.1 i hi
    refine ⟨⟨a0, (ww_sI_f (by decide)).trans a1, (ww_sI_f (by decide)).trans a2, (ww_sI_f (by decide)).trans a3, (ww_sI_f (by decide)).trans a4, a5⟩, fun hk' => ?_, c, d, (ww_sI_f (by decide)).trans e, ⟨(ww_sI_f (by decide)).trans s1, (ww_sI_f (by decide)).trans s2, (ww_sI_f (by decide)).trans s3, (ww_sI_f (by decide)).trans s4, (ww_sI_f (by decide)).trans s5, (ww_sI_f (by decide)).trans s6, (ww_sI_f (by decide)).trans s7, (ww_sI_f (by decide)).trans s8, (ww_sI_f (by decide)).trans s9⟩, ?_⟩
    · obtain ⟨w1, w2, w3, w4, w5, w6⟩ := b hk'
      exact ⟨w1, w2, (ww_sI_f (by decide)).trans w3, (ww_sI_f (by decide)).trans w4, (ww_sI_f (by decide)).trans w5, (ww_sI_f (by decide)).trans w6⟩
    · show ww_I (ww_sI M 80 (kl p) v) 176 (P i) = -1 ↔ S 12 i = 0
      rw [show ww_I (ww_sI M 80 (kl p) v) 176 (P i) = ww_I M 176 (P i) from ww_sI_f (by decide)]
      exact z
  · obtain ⟨l1, l2, l3, l4⟩ := h.2.1 j hj
    have key : ww_I (ww_sI M 80 (kl p) v) 80 (kl j) = ww_u2 S 20 p v 20 j := by
      by_cases q : j = p
      · subst q; exact ww_sI_s.trans ww_u2s.symm
      · exact (ww_sI_a (fun y => q (hK j p hj hp y))).trans (l2.trans (ww_u2n (fun y => q y.2)).symm)
    exact ⟨l1, key, (ww_sI_f (by decide)).trans l3, (ww_sI_f (by decide)).trans l4⟩
theorem ww_pf_81 (h : ww_pf M P W kl n S) (hK : ∀ i j, i < 5 → j < 5 → kl i = kl j → i = j) {p : Nat} (hp : p < 5) : ww_pf (ww_sI M 81 (kl p) v) P W kl n (ww_u2 S 21 p v) := by
  refine ⟨fun i hi => ?_, fun j hj => ?_, h.2.2⟩
  · obtain ⟨⟨a0, a1, a2, a3, a4, a5⟩, b, c, d, e, ⟨s1, s2, s3, s4, s5, s6, s7, s8, s9⟩, z⟩ := h.1 i hi
    refine ⟨⟨a0, (ww_sI_f (by decide)).trans a1, (ww_sI_f (by decide)).trans a2, (ww_sI_f (by decide)).trans a3, (ww_sI_f (by decide)).trans a4, a5⟩, fun hk' => ?_, c, d, (ww_sI_f (by decide)).trans e, ⟨(ww_sI_f (by decide)).trans s1, (ww_sI_f (by decide)).trans s2, (ww_sI_f (by decide)).trans s3, (ww_sI_f (by decide)).trans s4, (ww_sI_f (by decide)).trans s5, (ww_sI_f (by decide)).trans s6, (ww_sI_f (by decide)).trans s7, (ww_sI_f (by decide)).trans s8, (ww_sI_f (by decide)).trans s9⟩, ?_⟩
    · obtain ⟨w1, w2, w3, w4, w5, w6⟩ := b hk'
      exact ⟨w1, w2, (ww_sI_f (by decide)).trans w3, (ww_sI_f (by decide)).trans w4, (ww_sI_f (by decide)).trans w5, (ww_sI_f (by decide)).trans w6⟩
    · show ww_I (ww_sI M 81 (kl p) v) 176 (P i) = -1 ↔ S 12 i = 0
      rw [show ww_I (ww_sI M 81 (kl p) v) 176 (P i) = ww_I M 176 (P i) from ww_sI_f (by decide)]
      exact z
  · obtain ⟨l1, l2, l3, l4⟩ := h.2.1 j hj
    have key : ww_I (ww_sI M 81 (kl p) v) 81 (kl j) = ww_u2 S 21 p v 21 j := by
      by_cases q : j = p
      · subst q; exact ww_sI_s.trans ww_u2s.symm
      · exact (ww_sI_a (fun y => q (hK j p hj hp y))).trans (l3.trans (ww_u2n (fun y => q y.2)).symm)
    exact ⟨l1, (ww_sI_f (by decide)).trans l2, key, (ww_sI_f (by decide)).trans l4⟩
theorem ww_pf_82 (h : ww_pf M P W kl n S) (hK : ∀ i j, i < 5 → j < 5 → kl i = kl j → i = j) {p : Nat} (hp : p < 5) : ww_pf (ww_sI M 82 (kl p) v) P W kl n (ww_u2 S 22 p v) := by
  refine ⟨fun i hi => ?_, fun j hj => ?_, h.2.2⟩
  · obtain ⟨⟨a0, a1, a2, a3, a4, a5⟩, b, c, d, e, ⟨s1, s2, s3, s4, s5, s6, s7, s8, s9⟩, z⟩ := h.1 i hi
    refine ⟨⟨a0, (ww_sI_f (by decide)).trans a1, (ww_sI_f (by decide)).trans a2, (ww_sI_f (by decide)).trans a3, (ww_sI_f (by decide)).trans a4, a5⟩, fun hk' => ?_, c, d, (ww_sI_f (by decide)).trans e, ⟨(ww_sI_f (by decide)).trans s1, (ww_sI_f (by decide)).trans s2, (ww_sI_f (by decide)).trans s3, (ww_sI_f (by decide)).trans s4, (ww_sI_f (by decide)).trans s5, (ww_sI_f (by decide)).trans s6, (ww_sI_f (by decide)).trans s7, (ww_sI_f (by decide)).trans s8, (ww_sI_f (by decide)).trans s9⟩, ?_⟩
    · obtain ⟨w1, w2, w3, w4, w5, w6⟩ := b hk'
      exact ⟨w1, w2, (ww_sI_f (by decide)).trans w3, (ww_sI_f (by decide)).trans w4, (ww_sI_f (by decide)).trans w5, (ww_sI_f (by decide)).trans w6⟩
    · show ww_I (ww_sI M 82 (kl p) v) 176 (P i) = -1 ↔ S 12 i = 0
      rw [show ww_I (ww_sI M 82 (kl p) v) 176 (P i) = ww_I M 176 (P i) from ww_sI_f (by decide)]
      exact z
  · obtain ⟨l1, l2, l3, l4⟩ := h.2.1 j hj
    have key : ww_I (ww_sI M 82 (kl p) v) 82 (kl j) = ww_u2 S 22 p v 22 j := by
      by_cases q : j = p
      · subst q; exact ww_sI_s.trans ww_u2s.symm
      · exact (ww_sI_a (fun y => q (hK j p hj hp y))).trans (l4.trans (ww_u2n (fun y => q y.2)).symm)
    exact ⟨l1, (ww_sI_f (by decide)).trans l2, (ww_sI_f (by decide)).trans l3, key⟩
theorem ww_pf_176 (h : ww_pf M P W kl n S) {p : Nat} (hp : p < n) {s : Int32} (hv : v = -1 ↔ s = 0) : ww_pf (ww_sI M 176 (P p) v) P W kl n (ww_u2 S 12 p s) := by
  refine ⟨fun i hi => ?_, fun j hj => ?_, h.2.2⟩
  · obtain ⟨⟨a0, a1, a2, a3, a4, a5⟩, b, c, d, e, ⟨s1, s2, s3, s4, s5, s6, s7, s8, s9⟩, z⟩ := h.1 i hi
    refine ⟨⟨a0, (ww_sI_f (by decide)).trans a1, (ww_sI_f (by decide)).trans a2, (ww_sI_f (by decide)).trans a3, (ww_sI_f (by decide)).trans a4, a5⟩, fun hk' => ?_, c, d, (ww_sI_f (by decide)).trans e, ⟨(ww_sI_f (by decide)).trans s1, (ww_sI_f (by decide)).trans s2, (ww_sI_f (by decide)).trans s3, (ww_sI_f (by decide)).trans s4, (ww_sI_f (by decide)).trans s5, (ww_sI_f (by decide)).trans s6, (ww_sI_f (by decide)).trans s7, (ww_sI_f (by decide)).trans s8, (ww_sI_f (by decide)).trans s9⟩, ?_⟩
    · obtain ⟨w1, w2, w3, w4, w5, w6⟩ := b hk'
      exact ⟨w1, w2, (ww_sI_f (by decide)).trans w3, (ww_sI_f (by decide)).trans w4, (ww_sI_f (by decide)).trans w5, (ww_sI_f (by decide)).trans w6⟩
    · by_cases q : i = p
      · subst q
        rw [ww_sI_s, ww_u2s]
        exact hv
      · rw [ww_sI_a (fun y => q (h.2.2 i p hi hp y)), ww_u2n (fun y => q y.2)]
        exact z
  · obtain ⟨l1, l2, l3, l4⟩ := h.2.1 j hj
    exact ⟨l1, (ww_sI_f (by decide)).trans l2, (ww_sI_f (by decide)).trans l3, (ww_sI_f (by decide)).trans l4⟩
theorem ww_pf_167 (h : ww_pf M P W kl n S) {p : Nat} (hp : p < n) (hs : S 5 p < 0) : ww_pf (ww_sI M 167 (P p) 1) P W kl n (ww_u2 S 5 p (-2)) := by
  refine ⟨fun i hi => ?_, fun j hj => ?_, h.2.2⟩
  · obtain ⟨⟨a0, a1, a2, a3, a4, a5⟩, b, c, d, e, ⟨s1, s2, s3, s4, s5, s6, s7, s8, s9⟩, z⟩ := h.1 i hi
    refine ⟨⟨a0, (ww_sI_f (by decide)).trans a1, (ww_sI_f (by decide)).trans a2, (ww_sI_f (by decide)).trans a3, (ww_sI_f (by decide)).trans a4, a5⟩, fun hk' => ?_, c, ?_, ?_, ⟨(ww_sI_f (by decide)).trans s1, (ww_sI_f (by decide)).trans s2, (ww_sI_f (by decide)).trans s3, (ww_sI_f (by decide)).trans s4, (ww_sI_f (by decide)).trans s5, (ww_sI_f (by decide)).trans s6, (ww_sI_f (by decide)).trans s7, (ww_sI_f (by decide)).trans s8, (ww_sI_f (by decide)).trans s9⟩, ?_⟩
    · obtain ⟨w1, w2, w3, w4, w5, w6⟩ := b hk'
      exact ⟨w1, w2, (ww_sI_f (by decide)).trans w3, (ww_sI_f (by decide)).trans w4, (ww_sI_f (by decide)).trans w5, (ww_sI_f (by decide)).trans w6⟩
    · show ww_R M 166 (P i) = if ww_u2 S 5 p (-2) 5 i < 0 then none else some (P (ww_u2 S 5 p (-2) 5 i).toNatClampNeg)
      by_cases q : i = p
      · subst q
        rw [ww_u2s, if_pos (by decide), d, if_pos hs]
      · rw [ww_u2n (fun y => q y.2)]
        exact d
    · by_cases q : i = p
      · subst q
        rw [ww_sI_s, ww_u2s, if_pos rfl]
      · rw [ww_sI_a (fun y => q (h.2.2 i p hi hp y)), ww_u2n (fun y => q y.2)]
        exact e
    · show ww_I (ww_sI M 167 (P p) 1) 176 (P i) = -1 ↔ S 12 i = 0
      rw [show ww_I (ww_sI M 167 (P p) 1) 176 (P i) = ww_I M 176 (P i) from ww_sI_f (by decide)]
      exact z
  · obtain ⟨l1, l2, l3, l4⟩ := h.2.1 j hj
    exact ⟨l1, (ww_sI_f (by decide)).trans l2, (ww_sI_f (by decide)).trans l3, (ww_sI_f (by decide)).trans l4⟩
theorem ww_pf_166 (h : ww_pf M P W kl n S) {p : Nat} (hp : p < n) (hs : ¬ S 5 p = -2) {t : Int32} (ht : ¬ t = -2) {r : Option Nat} (hr : r = if t < 0 then none else some (P t.toNatClampNeg)) : ww_pf (ww_sR M 166 (P p) r) P W kl n (ww_u2 S 5 p t) := by
  have Rn : ∀ {f b : Nat}, f ≠ 166 → ww_R (ww_sR M 166 (P p) r) f b = ww_R M f b := fun hf => ww_u2n (fun z => hf z.1)
  refine ⟨fun i hi => ?_, fun j hj => h.2.1 j hj, h.2.2⟩
  obtain ⟨⟨a0, a1, a2, a3, a4, a5⟩, b, c, d, e, s, z⟩ := h.1 i hi
  refine ⟨⟨a0, a1, a2, a3, a4, (Rn (by decide)).trans a5⟩, fun hk' => ?_, fun hk' => (Rn (by decide)).trans (c hk'), ?_, ?_, s, z⟩
  · obtain ⟨w1, w2⟩ := b hk'
    exact ⟨(Rn (by decide)).trans w1, w2⟩
  · by_cases q : i = p
    · subst q
      rw [ww_u2s, ← hr]
      exact ww_u2s
    · rw [ww_u2n (fun y => q y.2)]
      exact (show ww_R (ww_sR M 166 (P p) r) 166 (P i) = ww_R M 166 (P i) from ww_u2n (fun y => q (h.2.2 i p hi hp y.2))).trans d
  · by_cases q : i = p
    · subst q
      rw [ww_u2s, if_neg ht]
      rw [if_neg hs] at e
      exact e
    · rw [ww_u2n (fun y => q y.2)]
      exact e
theorem ww_pf_cg {S2 : Nat → Nat → Int32} (h : ww_pf M P W kl n S) (e : S = S2) : ww_pf M P W kl n S2 := e ▸ h
theorem ww_pf_run1 (h : ww_pf M P W kl n S) {p : Nat} (hp : p < n) {d : Int32} : ww_pf (ww_run1 M (P p) d) P W kl n (q_goK S p d) := by
  obtain ⟨_, _, _, _, _, ⟨k6, k7, _⟩, _⟩ := h.1 p hp
  have h1 := ww_pf_169 (v := S 7 p + d) (ww_pf_168 (v := S 6 p + d) h hp) hp
  unfold ww_run1
  rw [k6, k7]
  exact h1
theorem ww_pf_wear (h : ww_pf M P W kl n S) (hW : ww_wa W n S) {p : Nat} (hp : p < n) (hk : S 2 p = 3) (t r : Int32) : ww_pf (ww_wear M (W p) t r) P W kl n (ww_u2 (ww_u2 (ww_u2 S 13 p (S 13 p - t)) 15 p (S 15 p + r)) 14 p (S 14 p - ((S 15 p + r) / 200 - S 15 p / 200))) := by
  obtain ⟨_, _, k13, k14, _, k15⟩ := (h.1 p hp).2.1 hk
  have h1 := ww_pf_200 (v := S 13 p - t) h hW hp hk
  have h2 := ww_pf_203 (v := S 15 p + r) h1 hW hp hk
  have h3 := ww_pf_201 (v := S 14 p - ((S 15 p + r) / 200 - S 15 p / 200)) h2 hW hp hk
  unfold ww_wear
  rw [k13, k14, k15]
  exact h3
theorem ww_pf_run2n (h : ww_pf M P W kl n S) {p : Nat} (hp : p < n) {d r : Int32} : ww_pf (ww_run2 M (P p) none d r) P W kl n (q_goK S p d) := ww_pf_run1 h hp
theorem ww_pf_run2w (h : ww_pf M P W kl n S) (hW : ww_wa W n S) {p : Nat} (hp : p < n) (hk : S 2 p = 3) {d s : Int32} : ww_pf (ww_run2 M (P p) (some (W p)) d (d * q_fac s)) P W kl n (q_goW S p d s) := by
  have k6 : ww_I M 168 (P p) = S 6 p := (h.1 p hp).2.2.2.2.2.1.1
  have h1 := ww_pf_run1 (d := d) h hp
  have h2 := ww_pf_wear h1 hW hp hk ((ww_I M 168 (P p) + d) / 100 - ww_I M 168 (P p) / 100) (d * q_fac s)
  refine ww_pf_cg h2 ?_
  have e13 : q_goK S p d 13 p = S 13 p := (ww_u2n (fun z => absurd z.1 (by decide))).trans (ww_u2n (fun z => absurd z.1 (by decide)))
  have e14 : q_goK S p d 14 p = S 14 p := (ww_u2n (fun z => absurd z.1 (by decide))).trans (ww_u2n (fun z => absurd z.1 (by decide)))
  have e15 : q_goK S p d 15 p = S 15 p := (ww_u2n (fun z => absurd z.1 (by decide))).trans (ww_u2n (fun z => absurd z.1 (by decide)))
  rw [e13, e14, e15, k6, ww_u2_cm (k := 13) (k' := 15) (fun z => absurd z.1 (by decide))]
  rfl
theorem ww_pf_run3 (h : ww_pf M P W kl n S) (hW : ww_wa W n S) {p : Nat} (hp : p < n) (h18 : 0 ≤ S 18 p) {d s : Int32} {o : Option Nat} (ho : o = if S 2 p = 3 then some (W p) else none) : ww_pf (ww_run3 M (P p) o d (d * q_fac s)) P W kl n (q_go S p d s) := by
  obtain ⟨_, _, _, _, _, ⟨k6, _, _, _, _, k18, k19, _⟩, _⟩ := h.1 p hp
  have h2 : ww_pf (ww_run2 M (P p) o d (d * q_fac s)) P W kl n (if S 2 p = 3 then q_goW S p d s else q_goK S p d) := by
    by_cases c : S 2 p = 3
    · rw [if_pos c]
      rw [if_pos c] at ho
      subst ho
      exact ww_pf_run2w h hW hp c
    · rw [if_neg c]
      rw [if_neg c] at ho
      subst ho
      exact ww_pf_run2n h hp
  unfold ww_run3 q_go q_goN ww_runN
  rw [k18, k6, k19]
  by_cases c : 0 < S 18 p
  · have c0 : ¬ S 18 p = 0 := fun z => by rw [z] at c; exact absurd c (by decide)
    rw [if_pos c, if_neg c0]
    exact ww_pf_173 h2 hp
  · have c0 : S 18 p = 0 := by
      rw [ww_eq, show (0 : Int32).toInt = 0 from rfl]
      rw [ww_lt, show (0 : Int32).toInt = 0 from rfl] at c
      rw [ww_le', show (0 : Int32).toInt = 0 from rfl] at h18
      omega
    rw [if_neg c, if_pos c0]
    have e : (if S 2 p = 3 then q_goW S p d s else q_goK S p d) 18 p = q_grow ((0 : Int32).toInt.toNat) (S 18 p) := by
      show _ = S 18 p
      split
      · exact (ww_u2n (fun z => absurd z.1 (by decide))).trans ((ww_u2n (fun z => absurd z.1 (by decide))).trans ((ww_u2n (fun z => absurd z.1 (by decide))).trans ((ww_u2n (fun z => absurd z.1 (by decide))).trans (ww_u2n (fun z => absurd z.1 (by decide))))))
      · exact (ww_u2n (fun z => absurd z.1 (by decide))).trans (ww_u2n (fun z => absurd z.1 (by decide)))
    rw [ww_u2_id e]
    exact h2
end WWV1
