/-! ===== a field of a part written, and the content with it ===== -/
section WWK1
variable {g : ww_G} {M0 M M1 : ww_M} {a x pl pe n : Nat} {P W kl : Nat → Nat} {S : Nat → Nat → Int32} {v : Int32}
theorem ww_wo_I {f : Nat} (hw : ww_wo g M0 M x pl pe n P) (hf : ww_wf f = true) : ww_wo g M0 (ww_sI M f a v) x pl pe n P := ⟨hw.1, hw.2.1, ⟨hw.2.2.1.1, (ww_sI_f (fun z => by rw [← z] at hf; cases hf)).trans hw.2.2.1.2.1, hw.2.2.1.2.2⟩, hw.2.2.2.1, ww_kp_I hw.2.2.2.2 hf⟩
theorem ww_pf_168 (h : ww_pf M P W kl n S) {p : Nat} (hp : p < n) : ww_pf (ww_sI M 168 (P p) v) P W kl n (ww_u2 S 6 p v) := by
  refine ⟨fun i hi => ?_, fun j hj => ?_, h.2.2⟩
  · obtain ⟨⟨a0, a1, a2, a3, a4, a5⟩, b, c, d, e, ⟨s168, s169, s170, s171, s172, s173, s174, s175, s177⟩, z⟩ := h.1 i hi
    have key : ww_I (ww_sI M 168 (P p) v) 168 (P i) = ww_u2 S 6 p v 6 i := by
      by_cases q : i = p
      · subst q; exact ww_sI_s.trans ww_u2s.symm
      · exact (ww_sI_a (fun y => q (h.2.2 i p hi hp y))).trans (s168.trans (ww_u2n (fun y => q y.2)).symm)
    refine ⟨⟨a0, (ww_sI_f (by decide)).trans a1, (ww_sI_f (by decide)).trans a2, (ww_sI_f (by decide)).trans a3, (ww_sI_f (by decide)).trans a4, a5⟩, fun hk => ?_, c, d, (ww_sI_f (by decide)).trans e, ⟨key, (ww_sI_f (by decide)).trans s169, (ww_sI_f (by decide)).trans s170, (ww_sI_f (by decide)).trans s171, (ww_sI_f (by decide)).trans s172, (ww_sI_f (by decide)).trans s173, (ww_sI_f (by decide)).trans s174, (ww_sI_f (by decide)).trans s175, (ww_sI_f (by decide)).trans s177⟩, ?_⟩
    · obtain ⟨w1, w2, w3, w4, w5, w6⟩ := b hk
      exact ⟨w1, w2, (ww_sI_f (by decide)).trans w3, (ww_sI_f (by decide)).trans w4, (ww_sI_f (by decide)).trans w5, (ww_sI_f (by decide)).trans w6⟩
    · show ww_I (ww_sI M 168 (P p) v) 176 (P i) = -1 ↔ S 12 i = 0
      rw [show ww_I (ww_sI M 168 (P p) v) 176 (P i) = ww_I M 176 (P i) from ww_sI_f (by decide)]
      exact z
  · obtain ⟨l1, l2, l3, l4⟩ := h.2.1 j hj
    exact ⟨l1, (ww_sI_f (by decide)).trans l2, (ww_sI_f (by decide)).trans l3, (ww_sI_f (by decide)).trans l4⟩
theorem ww_pf_169 (h : ww_pf M P W kl n S) {p : Nat} (hp : p < n) : ww_pf (ww_sI M 169 (P p) v) P W kl n (ww_u2 S 7 p v) := by
  refine ⟨fun i hi => ?_, fun j hj => ?_, h.2.2⟩
  · obtain ⟨⟨a0, a1, a2, a3, a4, a5⟩, b, c, d, e, ⟨s168, s169, s170, s171, s172, s173, s174, s175, s177⟩, z⟩ := h.1 i hi
    have key : ww_I (ww_sI M 169 (P p) v) 169 (P i) = ww_u2 S 7 p v 7 i := by
      by_cases q : i = p
      · subst q; exact ww_sI_s.trans ww_u2s.symm
      · exact (ww_sI_a (fun y => q (h.2.2 i p hi hp y))).trans (s169.trans (ww_u2n (fun y => q y.2)).symm)
    refine ⟨⟨a0, (ww_sI_f (by decide)).trans a1, (ww_sI_f (by decide)).trans a2, (ww_sI_f (by decide)).trans a3, (ww_sI_f (by decide)).trans a4, a5⟩, fun hk => ?_, c, d, (ww_sI_f (by decide)).trans e, ⟨(ww_sI_f (by decide)).trans s168, key, (ww_sI_f (by decide)).trans s170, (ww_sI_f (by decide)).trans s171, (ww_sI_f (by decide)).trans s172, (ww_sI_f (by decide)).trans s173, (ww_sI_f (by decide)).trans s174, (ww_sI_f (by decide)).trans s175, (ww_sI_f (by decide)).trans s177⟩, ?_⟩
    · obtain ⟨w1, w2, w3, w4, w5, w6⟩ := b hk
      exact ⟨w1, w2, (ww_sI_f (by decide)).trans w3, (ww_sI_f (by decide)).trans w4, (ww_sI_f (by decide)).trans w5, (ww_sI_f (by decide)).trans w6⟩
    · show ww_I (ww_sI M 169 (P p) v) 176 (P i) = -1 ↔ S 12 i = 0
      rw [show ww_I (ww_sI M 169 (P p) v) 176 (P i) = ww_I M 176 (P i) from ww_sI_f (by decide)]
      exact z
  · obtain ⟨l1, l2, l3, l4⟩ := h.2.1 j hj
    exact ⟨l1, (ww_sI_f (by decide)).trans l2, (ww_sI_f (by decide)).trans l3, (ww_sI_f (by decide)).trans l4⟩
theorem ww_pf_170 (h : ww_pf M P W kl n S) {p : Nat} (hp : p < n) : ww_pf (ww_sI M 170 (P p) v) P W kl n (ww_u2 S 8 p v) := by
  refine ⟨fun i hi => ?_, fun j hj => ?_, h.2.2⟩
  · obtain ⟨⟨a0, a1, a2, a3, a4, a5⟩, b, c, d, e, ⟨s168, s169, s170, s171, s172, s173, s174, s175, s177⟩, z⟩ := h.1 i hi
    have key : ww_I (ww_sI M 170 (P p) v) 170 (P i) = ww_u2 S 8 p v 8 i := by
      by_cases q : i = p
      · subst q; exact ww_sI_s.trans ww_u2s.symm
      · exact (ww_sI_a (fun y => q (h.2.2 i p hi hp y))).trans (s170.trans (ww_u2n (fun y => q y.2)).symm)
    refine ⟨⟨a0, (ww_sI_f (by decide)).trans a1, (ww_sI_f (by decide)).trans a2, (ww_sI_f (by decide)).trans a3, (ww_sI_f (by decide)).trans a4, a5⟩, fun hk => ?_, c, d, (ww_sI_f (by decide)).trans e, ⟨(ww_sI_f (by decide)).trans s168, (ww_sI_f (by decide)).trans s169, key, (ww_sI_f (by decide)).trans s171, (ww_sI_f (by decide)).trans s172, (ww_sI_f (by decide)).trans s173, (ww_sI_f (by decide)).trans s174, (ww_sI_f (by decide)).trans s175, (ww_sI_f (by decide)).trans s177⟩, ?_⟩
    · obtain ⟨w1, w2, w3, w4, w5, w6⟩ := b hk
      exact ⟨w1, w2, (ww_sI_f (by decide)).trans w3, (ww_sI_f (by decide)).trans w4, (ww_sI_f (by decide)).trans w5, (ww_sI_f (by decide)).trans w6⟩
    · show ww_I (ww_sI M 170 (P p) v) 176 (P i) = -1 ↔ S 12 i = 0
      rw [show ww_I (ww_sI M 170 (P p) v) 176 (P i) = ww_I M 176 (P i) from ww_sI_f (by decide)]
      exact z
  · obtain ⟨l1, l2, l3, l4⟩ := h.2.1 j hj
    exact ⟨l1, (ww_sI_f (by decide)).trans l2, (ww_sI_f (by decide)).trans l3, (ww_sI_f (by decide)).trans l4⟩
theorem ww_pf_171 (h : ww_pf M P W kl n S) {p : Nat} (hp : p < n) : ww_pf (ww_sI M 171 (P p) v) P W kl n (ww_u2 S 9 p v) := by
  refine ⟨fun i hi => ?_, fun j hj => ?_, h.2.2⟩
  · obtain ⟨⟨a0, a1, a2, a3, a4, a5⟩, b, c, d, e, ⟨s168, s169, s170, s171, s172, s173, s174, s175, s177⟩, z⟩ := h.1 i hi
    have key : ww_I (ww_sI M 171 (P p) v) 171 (P i) = ww_u2 S 9 p v 9 i := by
      by_cases q : i = p
      · subst q; exact ww_sI_s.trans ww_u2s.symm
      · exact (ww_sI_a (fun y => q (h.2.2 i p hi hp y))).trans (s171.trans (ww_u2n (fun y => q y.2)).symm)
    refine ⟨⟨a0, (ww_sI_f (by decide)).trans a1, (ww_sI_f (by decide)).trans a2, (ww_sI_f (by decide)).trans a3, (ww_sI_f (by decide)).trans a4, a5⟩, fun hk => ?_, c, d, (ww_sI_f (by decide)).trans e, ⟨(ww_sI_f (by decide)).trans s168, (ww_sI_f (by decide)).trans s169, (ww_sI_f (by decide)).trans s170, key, (ww_sI_f (by decide)).trans s172, (ww_sI_f (by decide)).trans s173, (ww_sI_f (by decide)).trans s174, (ww_sI_f (by decide)).trans s175, (ww_sI_f (by decide)).trans s177⟩, ?_⟩
    · obtain ⟨w1, w2, w3, w4, w5, w6⟩ := b hk
      exact ⟨w1, w2, (ww_sI_f (by decide)).trans w3, (ww_sI_f (by decide)).trans w4, (ww_sI_f (by decide)).trans w5, (ww_sI_f (by decide)).trans w6⟩
    · show ww_I (ww_sI M 171 (P p) v) 176 (P i) = -1 ↔ S 12 i = 0
      rw [show ww_I (ww_sI M 171 (P p) v) 176 (P i) = ww_I M 176 (P i) from ww_sI_f (by decide)]
      exact z
  · obtain ⟨l1, l2, l3, l4⟩ := h.2.1 j hj
    exact ⟨l1, (ww_sI_f (by decide)).trans l2, (ww_sI_f (by decide)).trans l3, (ww_sI_f (by decide)).trans l4⟩
theorem ww_pf_172 (h : ww_pf M P W kl n S) {p : Nat} (hp : p < n) : ww_pf (ww_sI M 172 (P p) v) P W kl n (ww_u2 S 10 p v) := by
  refine ⟨fun i hi => ?_, fun j hj => ?_, h.2.2⟩
  · obtain ⟨⟨a0, a1, a2, a3, a4, a5⟩, b, c, d, e, ⟨s168, s169, s170, s171, s172, s173, s174, s175, s177⟩, z⟩ := h.1 i hi
    have key : ww_I (ww_sI M 172 (P p) v) 172 (P i) = ww_u2 S 10 p v 10 i := by
      by_cases q : i = p
      · subst q; exact ww_sI_s.trans ww_u2s.symm
      · exact (ww_sI_a (fun y => q (h.2.2 i p hi hp y))).trans (s172.trans (ww_u2n (fun y => q y.2)).symm)
    refine ⟨⟨a0, (ww_sI_f (by decide)).trans a1, (ww_sI_f (by decide)).trans a2, (ww_sI_f (by decide)).trans a3, (ww_sI_f (by decide)).trans a4, a5⟩, fun hk => ?_, c, d, (ww_sI_f (by decide)).trans e, ⟨(ww_sI_f (by decide)).trans s168, (ww_sI_f (by decide)).trans s169, (ww_sI_f (by decide)).trans s170, (ww_sI_f (by decide)).trans s171, key, (ww_sI_f (by decide)).trans s173, (ww_sI_f (by decide)).trans s174, (ww_sI_f (by decide)).trans s175, (ww_sI_f (by decide)).trans s177⟩, ?_⟩
    · obtain ⟨w1, w2, w3, w4, w5, w6⟩ := b hk
      exact ⟨w1, w2, (ww_sI_f (by decide)).trans w3, (ww_sI_f (by decide)).trans w4, (ww_sI_f (by decide)).trans w5, (ww_sI_f (by decide)).trans w6⟩
    · show ww_I (ww_sI M 172 (P p) v) 176 (P i) = -1 ↔ S 12 i = 0
      rw [show ww_I (ww_sI M 172 (P p) v) 176 (P i) = ww_I M 176 (P i) from ww_sI_f (by decide)]
      exact z
  · obtain ⟨l1, l2, l3, l4⟩ := h.2.1 j hj
    exact ⟨l1, (ww_sI_f (by decide)).trans l2, (ww_sI_f (by decide)).trans l3, (ww_sI_f (by decide)).trans l4⟩
theorem ww_pf_173 (h : ww_pf M P W kl n S) {p : Nat} (hp : p < n) : ww_pf (ww_sI M 173 (P p) v) P W kl n (ww_u2 S 18 p v) := by
  refine ⟨fun i hi => ?_, fun j hj => ?_, h.2.2⟩
  · obtain ⟨⟨a0, a1, a2, a3, a4, a5⟩, b, c, d, e, ⟨s168, s169, s170, s171, s172, s173, s174, s175, s177⟩, z⟩ := h.1 i hi
    have key : ww_I (ww_sI M 173 (P p) v) 173 (P i) = ww_u2 S 18 p v 18 i := by
      by_cases q : i = p
      · subst q; exact ww_sI_s.trans ww_u2s.symm
      · exact (ww_sI_a (fun y => q (h.2.2 i p hi hp y))).trans (s173.trans (ww_u2n (fun y => q y.2)).symm)
    refine ⟨⟨a0, (ww_sI_f (by decide)).trans a1, (ww_sI_f (by decide)).trans a2, (ww_sI_f (by decide)).trans a3, (ww_sI_f (by decide)).trans a4, a5⟩, fun hk => ?_, c, d, (ww_sI_f (by decide)).trans e, ⟨(ww_sI_f (by decide)).trans s168, (ww_sI_f (by decide)).trans s169, (ww_sI_f (by decide)).trans s170, (ww_sI_f (by decide)).trans s171, (ww_sI_f (by decide)).trans s172, key, (ww_sI_f (by decide)).trans s174, (ww_sI_f (by decide)).trans s175, (ww_sI_f (by decide)).trans s177⟩, ?_⟩
    · obtain ⟨w1, w2, w3, w4, w5, w6⟩ := b hk
      exact ⟨w1, w2, (ww_sI_f (by decide)).trans w3, (ww_sI_f (by decide)).trans w4, (ww_sI_f (by decide)).trans w5, (ww_sI_f (by decide)).trans w6⟩
    · show ww_I (ww_sI M 173 (P p) v) 176 (P i) = -1 ↔ S 12 i = 0
      rw [show ww_I (ww_sI M 173 (P p) v) 176 (P i) = ww_I M 176 (P i) from ww_sI_f (by decide)]
      exact z
  · obtain ⟨l1, l2, l3, l4⟩ := h.2.1 j hj
    exact ⟨l1, (ww_sI_f (by decide)).trans l2, (ww_sI_f (by decide)).trans l3, (ww_sI_f (by decide)).trans l4⟩
theorem ww_pf_174 (h : ww_pf M P W kl n S) {p : Nat} (hp : p < n) : ww_pf (ww_sI M 174 (P p) v) P W kl n (ww_u2 S 19 p v) := by
  refine ⟨fun i hi => ?_, fun j hj => ?_, h.2.2⟩
  · obtain ⟨⟨a0, a1, a2, a3, a4, a5⟩, b, c, d, e, ⟨s168, s169, s170, s171, s172, s173, s174, s175, s177⟩, z⟩ := h.1 i hi
    have key : ww_I (ww_sI M 174 (P p) v) 174 (P i) = ww_u2 S 19 p v 19 i := by
      by_cases q : i = p
      · subst q; exact ww_sI_s.trans ww_u2s.symm
      · exact (ww_sI_a (fun y => q (h.2.2 i p hi hp y))).trans (s174.trans (ww_u2n (fun y => q y.2)).symm)
    refine ⟨⟨a0, (ww_sI_f (by decide)).trans a1, (ww_sI_f (by decide)).trans a2, (ww_sI_f (by decide)).trans a3, (ww_sI_f (by decide)).trans a4, a5⟩, fun hk => ?_, c, d, (ww_sI_f (by decide)).trans e, ⟨(ww_sI_f (by decide)).trans s168, (ww_sI_f (by decide)).trans s169, (ww_sI_f (by decide)).trans s170, (ww_sI_f (by decide)).trans s171, (ww_sI_f (by decide)).trans s172, (ww_sI_f (by decide)).trans s173, key, (ww_sI_f (by decide)).trans s175, (ww_sI_f (by decide)).trans s177⟩, ?_⟩
    · obtain ⟨w1, w2, w3, w4, w5, w6⟩ := b hk
      exact ⟨w1, w2, (ww_sI_f (by decide)).trans w3, (ww_sI_f (by decide)).trans w4, (ww_sI_f (by decide)).trans w5, (ww_sI_f (by decide)).trans w6⟩
    · show ww_I (ww_sI M 174 (P p) v) 176 (P i) = -1 ↔ S 12 i = 0
      rw [show ww_I (ww_sI M 174 (P p) v) 176 (P i) = ww_I M 176 (P i) from ww_sI_f (by decide)]
      exact z
  · obtain ⟨l1, l2, l3, l4⟩ := h.2.1 j hj
    exact ⟨l1, (ww_sI_f (by decide)).trans l2, (ww_sI_f (by decide)).trans l3, (ww_sI_f (by decide)).trans l4⟩
theorem ww_pf_175 (h : ww_pf M P W kl n S) {p : Nat} (hp : p < n) : ww_pf (ww_sI M 175 (P p) v) P W kl n (ww_u2 S 11 p v) := by
  refine ⟨fun i hi => ?_, fun j hj => ?_, h.2.2⟩
  · obtain ⟨⟨a0, a1, a2, a3, a4, a5⟩, b, c, d, e, ⟨s168, s169, s170, s171, s172, s173, s174, s175, s177⟩, z⟩ := h.1 i hi
    have key : ww_I (ww_sI M 175 (P p) v) 175 (P i) = ww_u2 S 11 p v 11 i := by
      by_cases q : i = p
      · subst q; exact ww_sI_s.trans ww_u2s.symm
      · exact (ww_sI_a (fun y => q (h.2.2 i p hi hp y))).trans (s175.trans (ww_u2n (fun y => q y.2)).symm)
    refine ⟨⟨a0, (ww_sI_f (by decide)).trans a1, (ww_sI_f (by decide)).trans a2, (ww_sI_f (by decide)).trans a3, (ww_sI_f (by decide)).trans a4, a5⟩, fun hk => ?_, c, d, (ww_sI_f (by decide)).trans e, ⟨(ww_sI_f (by decide)).trans s168, (ww_sI_f (by decide)).trans s169, (ww_sI_f (by decide)).trans s170, (ww_sI_f (by decide)).trans s171, (ww_sI_f (by decide)).trans s172, (ww_sI_f (by decide)).trans s173, (ww_sI_f (by decide)).trans s174, key, (ww_sI_f (by decide)).trans s177⟩, ?_⟩
    · obtain ⟨w1, w2, w3, w4, w5, w6⟩ := b hk
      exact ⟨w1, w2, (ww_sI_f (by decide)).trans w3, (ww_sI_f (by decide)).trans w4, (ww_sI_f (by decide)).trans w5, (ww_sI_f (by decide)).trans w6⟩
    · show ww_I (ww_sI M 175 (P p) v) 176 (P i) = -1 ↔ S 12 i = 0
      rw [show ww_I (ww_sI M 175 (P p) v) 176 (P i) = ww_I M 176 (P i) from ww_sI_f (by decide)]
      exact z
  · obtain ⟨l1, l2, l3, l4⟩ := h.2.1 j hj
    exact ⟨l1, (ww_sI_f (by decide)).trans l2, (ww_sI_f (by decide)).trans l3, (ww_sI_f (by decide)).trans l4⟩
theorem ww_pf_177 (h : ww_pf M P W kl n S) {p : Nat} (hp : p < n) : ww_pf (ww_sI M 177 (P p) v) P W kl n (ww_u2 S 28 p v) := by
  refine ⟨fun i hi => ?_, fun j hj => ?_, h.2.2⟩
  · obtain ⟨⟨a0, a1, a2, a3, a4, a5⟩, b, c, d, e, ⟨s168, s169, s170, s171, s172, s173, s174, s175, s177⟩, z⟩ := h.1 i hi
    have key : ww_I (ww_sI M 177 (P p) v) 177 (P i) = ww_u2 S 28 p v 28 i := by
      by_cases q : i = p
      · subst q; exact ww_sI_s.trans ww_u2s.symm
      · exact (ww_sI_a (fun y => q (h.2.2 i p hi hp y))).trans (s177.trans (ww_u2n (fun y => q y.2)).symm)
    refine ⟨⟨a0, (ww_sI_f (by decide)).trans a1, (ww_sI_f (by decide)).trans a2, (ww_sI_f (by decide)).trans a3, (ww_sI_f (by decide)).trans a4, a5⟩, fun hk => ?_, c, d, (ww_sI_f (by decide)).trans e, ⟨(ww_sI_f (by decide)).trans s168, (ww_sI_f (by decide)).trans s169, (ww_sI_f (by decide)).trans s170, (ww_sI_f (by decide)).trans s171, (ww_sI_f (by decide)).trans s172, (ww_sI_f (by decide)).trans s173, (ww_sI_f (by decide)).trans s174, (ww_sI_f (by decide)).trans s175, key⟩, ?_⟩
    · obtain ⟨w1, w2, w3, w4, w5, w6⟩ := b hk
      exact ⟨w1, w2, (ww_sI_f (by decide)).trans w3, (ww_sI_f (by decide)).trans w4, (ww_sI_f (by decide)).trans w5, (ww_sI_f (by decide)).trans w6⟩
    · show ww_I (ww_sI M 177 (P p) v) 176 (P i) = -1 ↔ S 12 i = 0
      rw [show ww_I (ww_sI M 177 (P p) v) 176 (P i) = ww_I M 176 (P i) from ww_sI_f (by decide)]
      exact z
  · obtain ⟨l1, l2, l3, l4⟩ := h.2.1 j hj
    exact ⟨l1, (ww_sI_f (by decide)).trans l2, (ww_sI_f (by decide)).trans l3, (ww_sI_f (by decide)).trans l4⟩
/-- the end of an operation of the class: v, and the parts hold S' -/
def ww_cq (g : ww_G) (M0 : ww_M) (v0 : Option Value) (x pl pe n : Nat) (P W kl : Nat → Nat) (S' : Nat → Nat → Int32) : Option Value → ww_M → Prop := fun v M' => v = v0 ∧ ww_wo g M0 M' x pl pe n P ∧ ww_pf M' P W kl n S'
set_option maxRecDepth 20000 in
theorem c_examine_0 (hw : ww_wo g M0 M x pl pe n P) (h : ww_pf M P W kl n S) (hG : q_G S n) {p : Nat} (hp : p < n) (hc : q_exam S p) : ww_C g wy_X6_examine 5 0 0 [.ref x, .int (nI p)] M (ww_cq g M0 (some (.int (S 7 p))) x pl pe n P W kl (ww_u2 (ww_u2 S 7 p 0) 8 p 0)) ww_no := by
  refine ww_ent (by decide +kernel) (Nat.le_of_ble_eq_true rfl) ⟨rfl, rfl, trivial⟩ ?_
  obtain ⟨⟨hi4, _, _, _, _, hR4⟩, _, _, _, k167, ⟨_, k7, _⟩, _⟩ := h.1 p hp
  obtain ⟨c1, c2, c3, c4⟩ := hc
  have hkd := q_kd_of hG.2.2.1 hp
  have hl := h.2.1 (q_kd S p) hkd.2
  have hm := c_mayBe (g := g) hi4 hR4 hl.1
  rw [hl.2.2.1, hl.2.2.2, k7, if_pos ⟨c1, c2⟩] at hm
  rw [if_neg c3] at k167
  rw [← k7]
  refine ww_aload_n (i := 0) dX6_examine_0 rfl rfl ?_
  refine ww_iload_n (i := 1) dX6_examine_1 rfl rfl ?_
  refine ww_callV (κ := 7) (r := (RX6, TX6, 4)) wk_X6_83 dX6_examine_2 (c_existing hw h hp) rfl rfl (show ww_is _ _ 7 from hw.1).1 (show ww_is _ _ 7 from hw.1).2 rfl rfl (by omega) (by omega) (by omega) (by first | exact Nat.le_of_ble_eq_true rfl | (simp [ww_rf_cat, Value.category])) rfl (fun E M9 h9 => h9.elim) (fun v9 M9 h9 => ?_)
  obtain ⟨rfl, rfl⟩ := h9
  first | refine ww_astore_n (i := 2) (lv2 := [(0, _), (1, _), (2, _)]) dX6_examine_5 rfl (Nat.le_of_ble_eq_true rfl) rfl ?_ | refine ww_astore_nQ (i := 2) (lv2 := [(0, _), (1, _), (2, _)]) dX6_examine_5 rfl (Nat.le_of_ble_eq_true rfl) rfl ?_
  refine ww_aload_n (i := 2) dX6_examine_6 rfl rfl ?_
  refine ww_callV (κ := 4) (r := (RX3, TX3, 18)) wk_X6_219 dX6_examine_7 (hm) rfl rfl (show ww_is _ _ 4 from hi4).1 (show ww_is _ _ 4 from hi4).2 rfl rfl (by omega) (by omega) (by omega) (by first | exact Nat.le_of_ble_eq_true rfl | (simp [ww_rf_cat, Value.category])) rfl (fun E M9 h9 => h9.elim) (fun v9 M9 h9 => ?_)
  obtain ⟨rfl, rfl⟩ := h9
  refine ww_if_eq_f (tgt := 27) dX6_examine_10 (by decide) (by decide) ?_
  refine ww_aload_n (i := 2) dX6_examine_13 rfl rfl ?_
  refine ww_getI (f := 167) wf_X6_106 dX6_examine_14 rfl rfl (show ww_is _ _ 4 from hi4).1 (show ww_is _ _ 4 from hi4).2 ?_
  refine ww_if_ne_f (tgt := 27) dX6_examine_17 (by decide) k167 ?_
  refine ww_aload_n (i := 2) dX6_examine_20 rfl rfl ?_
  refine ww_callV (κ := 4) (r := (RX3, TX3, 18)) wk_X6_109 dX6_examine_21 (p_bound_f h hG hp c4) rfl rfl (show ww_is _ _ 4 from hi4).1 (show ww_is _ _ 4 from hi4).2 rfl rfl (by omega) (by omega) (by omega) (by first | exact Nat.le_of_ble_eq_true rfl | (simp [ww_rf_cat, Value.category])) rfl (fun E M9 h9 => h9.elim) (fun v9 M9 h9 => ?_)
  obtain ⟨rfl, rfl⟩ := h9
  refine ww_if_eq_t (tgt := 37) dX6_examine_24 (by decide) (by decide) ?_
  refine ww_aload_n (i := 2) dX6_examine_37 rfl rfl ?_
  refine ww_getI (f := 169) wf_X6_224 dX6_examine_38 rfl rfl (show ww_is _ _ 4 from hi4).1 (show ww_is _ _ 4 from hi4).2 ?_
  refine ww_istore_n (i := 3) (lv2 := [(0, _), (1, _), (2, _), (3, _)]) dX6_examine_41 rfl (Nat.le_of_ble_eq_true rfl) rfl ?_
  refine ww_aload_n (i := 2) dX6_examine_42 rfl rfl ?_
  refine ww_iconst (v := 0) dX6_examine_43 (by decide) ?_
  refine ww_putI (f := 169) wf_X6_224 wt_4_9 dX6_examine_44 rfl rfl (show ww_is _ _ 4 from hi4).1 (show ww_is _ _ 4 from hi4).2 rfl rfl ?_
  refine ww_aload_n (i := 2) dX6_examine_47 rfl rfl ?_
  refine ww_iconst (v := 0) dX6_examine_48 (by decide) ?_
  refine ww_putI (f := 170) wf_X6_227 wt_4_10 dX6_examine_49 rfl rfl (show ww_is _ _ 4 from hi4).1 (show ww_is _ _ 4 from hi4).2 rfl rfl ?_
  refine ww_iload_n (i := 3) dX6_examine_52 rfl rfl ?_
  exact ww_ireturn dX6_examine_53 rfl (by first | rfl | exact ww_b_nar) ⟨rfl, ww_wo_I (ww_wo_I hw (by decide)) (by decide), ww_pf_170 (ww_pf_169 h hp) hp⟩
set_option maxRecDepth 20000 in
theorem c_examine_1 (hw : ww_wo g M0 M x pl pe n P) {p : Int32} (hc : q_noP n p) : ww_C g wy_X6_examine 8 1 6 [.ref x, .int p] M ww_nr (ww_th "java/lang/IndexOutOfBoundsException" M) := by
  refine ww_ent (by decide +kernel) (Nat.le_of_ble_eq_true rfl) ⟨rfl, rfl, trivial⟩ ?_
  refine ww_aload_n (i := 0) dX6_examine_0 rfl rfl ?_
  refine ww_iload_n (i := 1) dX6_examine_1 rfl rfl ?_
  refine ww_callV (κ := 7) (r := (RX6, TX6, 4)) wk_X6_83 dX6_examine_2 (c_existing_x hw hc) rfl rfl (show ww_is _ _ 7 from hw.1).1 (show ww_is _ _ 7 from hw.1).2 rfl rfl (by omega) (by omega) (by omega) (by first | exact Nat.le_of_ble_eq_true rfl | (simp [ww_rf_cat, Value.category])) rfl (fun E M9 h9 => h9) (fun v9 M9 h9 => ?_)
  exact h9.elim
  -- at 5, locals [0, 1]
end WWK1
