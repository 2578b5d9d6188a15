def ww_str : List (String × Nat × String) := [("WheelWorks", 339, "no such kind"), ("WheelWorks", 47, "melt or mod out of range"), ("WheelWorks", 58, "no more parts"), ("WheelWorks", 71, "life, interval or window out of range"), ("WheelWorks", 341, "no such part"), ("WheelWorks", 94, "no place for such a part"), ("WheelWorks", 104, "the part cannot be fitted"), ("WheelWorks", 116, "the host cannot be fitted to"), ("WheelWorks", 127, "the mods are too far apart"), ("WheelWorks", 147, "in no host, or bound"), ("WheelWorks", 152, "not in the store, or not empty"), ("WheelWorks", 158, "bound, or waits for the night"), ("WheelWorks", 343, "no train"), ("WheelWorks", 337, "kilometres or season out of range"), ("WheelWorks", 166, "not released, or bound"), ("WheelWorks", 188, "no bogie"), ("WheelWorks", 194, "not both wheelsets, or bound"), ("WheelWorks", 349, "no wheelset"), ("WheelWorks", 211, "error out of range"), ("WheelWorks", 222, "no examination is possible"), ("WheelWorks", 230, "kilometres out of range"), ("WheelWorks", 236, "nothing can be waived"), ("WheelWorks", 238, "neither wheelset nor motor"), ("WheelWorks", 240, "size out of range"), ("WheelWorks", 246, "cannot be looked at"), ("WheelWorks", 251, "not quarantined, or bound"), ("WheelWorks", 253, "melt out of range"), ("WheelWorks", 261, "time out of range"), ("WheelWorks", 270, "no room to wait, or waits"), ("WheelWorks", 272, "stands on a road, or is scrapped"), ("WheelWorks", 283, "none waits, or one stands on a road"), ("WheelWorks", 288, "none stands on a road"), ("WheelWorks", 299, "no such thing to tell of a part"), ("WheelWorks", 307, "no such move"), ("WheelWorks", 318, "no such thing to tell of a wheelset"), ("WheelWorks", 332, "no such road or place")]
def ww_ca : List (String × String) := [("java/lang/IllegalArgumentException", "java/lang/IllegalArgumentException"), ("java/lang/IllegalStateException", "java/lang/IllegalStateException"), ("java/lang/IndexOutOfBoundsException", "java/lang/IndexOutOfBoundsException"), ("WheelWorks$KindLimits", "java/lang/Object"), ("WheelWorks", "java/lang/Object"), ("java/util/ArrayList", "java/lang/Object"), ("WheelWorks$Log", "java/lang/Object"), ("WheelWorks$Yard", "java/lang/Object"), ("java/lang/IllegalArgumentException", "java/lang/Object"), ("java/lang/IllegalStateException", "java/lang/Object"), ("WheelWorks$Part", "java/lang/Object"), ("WheelWorks$Wheel", "java/lang/Object"), ("java/lang/IndexOutOfBoundsException", "java/lang/Object"), ("WheelWorks$Event", "java/lang/Object"), ("java/lang/Throwable", "java/lang/Object"), ("java/lang/String", "java/lang/Object"), ("[LWheelWorks$KindLimits;", "java/lang/Object"), ("[I", "java/lang/Object"), ("[B", "java/lang/Object"), ("[Ljava/lang/Object;", "java/lang/Object")]
def ww_de : List MethodName := [⟨"java/lang/RuntimeException", "<init>", "()V"⟩, ⟨"java/lang/RuntimeException", "<init>", "(Ljava/lang/String;)V"⟩, ⟨"java/lang/Exception", "<init>", "()V"⟩, ⟨"java/lang/Exception", "<init>", "(Ljava/lang/String;)V"⟩, ⟨"java/lang/Throwable", "<init>", "()V"⟩, ⟨"java/lang/Throwable", "<init>", "(Ljava/lang/String;)V"⟩, ⟨"java/lang/Object", "getClass", "()Ljava/lang/Class;"⟩]
def ww_ne : List (String × Nat × MethodName × String) := [("WheelWorks", 24, ⟨"WheelWorks$Log", "<init>", "()V"⟩, "WheelWorks"), ("WheelWorks", 31, ⟨"WheelWorks$Yard", "<init>", "()V"⟩, "WheelWorks"), ("WheelWorks", 36, ⟨"WheelWorks$KindLimits", "<init>", "()V"⟩, "WheelWorks"), ("WheelWorks$Part", 33, ⟨"WheelWorks$Wheel", "<init>", "()V"⟩, "WheelWorks")]
def ww_nc : List (String × String) := []
/-! ===== the pool memory: (addresses, kind, length), int fields, reference fields, int rows, reference rows, long rows. Field id = 40 * kind + slot. Kinds: 0 ArrayList 1 Event 2 KindLimits 3 Log 4 Part 5 Wheel 6 Yard 7 WheelWorks 8 WheelWorksModel (places of vwCl); 9 int[] 10 boolean[] 11 KindLimits[] 12 Object[] 13 long[] ===== -/
abbrev ww_M : Type := (List Nat × (Nat → Nat) × (Nat → Nat)) × (Nat → Nat → Int32) × (Nat → Nat → Option Nat) × (Nat → Nat → Int32) × (Nat → Nat → Option Nat) × (Nat → Nat → Int64)
def ww_L (M : ww_M) : List Nat := M.1.1
def ww_K (M : ww_M) : Nat → Nat := M.1.2.1
def ww_N (M : ww_M) : Nat → Nat := M.1.2.2
def ww_I (M : ww_M) : Nat → Nat → Int32 := M.2.1
def ww_R (M : ww_M) : Nat → Nat → Option Nat := M.2.2.1
def ww_X (M : ww_M) : Nat → Nat → Int32 := M.2.2.2.1
def ww_Y (M : ww_M) : Nat → Nat → Option Nat := M.2.2.2.2.1
def ww_Z (M : ww_M) : Nat → Nat → Int64 := M.2.2.2.2.2
def ww_u2 {α : Type} (f : Nat → Nat → α) (k a : Nat) (v : α) : Nat → Nat → α := fun k' a' => if k' = k ∧ a' = a then v else f k' a'
theorem ww_u2s {α : Type} {f : Nat → Nat → α} {k a : Nat} {v : α} : ww_u2 f k a v k a = v := if_pos ⟨rfl, rfl⟩
theorem ww_u2n {α : Type} {f : Nat → Nat → α} {k a k' a' : Nat} {v : α} (h : ¬ (k' = k ∧ a' = a)) : ww_u2 f k a v k' a' = f k' a' := if_neg h
def ww_sI (M : ww_M) (k a : Nat) (v : Int32) : ww_M := (M.1, ww_u2 (ww_I M) k a v, M.2.2)
def ww_sR (M : ww_M) (k a : Nat) (v : Option Nat) : ww_M := (M.1, M.2.1, ww_u2 (ww_R M) k a v, M.2.2.2)
def ww_sX (M : ww_M) (a i : Nat) (v : Int32) : ww_M := (M.1, M.2.1, M.2.2.1, ww_u2 (ww_X M) a i v, M.2.2.2.2)
def ww_sY (M : ww_M) (a i : Nat) (v : Option Nat) : ww_M := (M.1, M.2.1, M.2.2.1, M.2.2.2.1, ww_u2 (ww_Y M) a i v, M.2.2.2.2.2)
def ww_sZ (M : ww_M) (a i : Nat) (v : Int64) : ww_M := (M.1, M.2.1, M.2.2.1, M.2.2.2.1, M.2.2.2.2.1, ww_u2 (ww_Z M) a i v)
/-- a whole row of references anew (System.arraycopy) -/
def ww_cY (M : ww_M) (a : Nat) (f : Nat → Option Nat) : ww_M := (M.1, M.2.1, M.2.2.1, M.2.2.2.1, (fun a' => if a' = a then f else ww_Y M a'), M.2.2.2.2.2)
/-- a new object or array q of kind κ and length n -/
def ww_nw (M : ww_M) (q κ n : Nat) : ww_M := ((ww_L M ++ [q], va_up (ww_K M) q κ, va_up (ww_N M) q n), (fun k a => if a = q then 0 else ww_I M k a), (fun k a => if a = q then none else ww_R M k a), (fun a i => if a = q then 0 else ww_X M a i), (fun a i => if a = q then none else ww_Y M a i), (fun a i => if a = q then 0 else ww_Z M a i))
def ww_nf : Nat → Nat := fun κ => match κ with
  | 0 => 3
  | 1 => 3
  | 2 => 3
  | 3 => 2
  | 4 => 18
  | 5 => 4
  | 6 => 5
  | 7 => 4
  | 8 => 33
  | _ => 0
def ww_ir (f : Nat) : Bool := f == 1 || (f == 120 || f == 121) || (164 ≤ f && f ≤ 166) || (240 ≤ f && f ≤ 242) || (280 ≤ f && f ≤ 283) || (322 ≤ f && f ≤ 342) || (344 ≤ f && f ≤ 345) || (347 ≤ f && f ≤ 352)
def ww_fv (M : ww_M) (f a : Nat) : Value := if ww_ir f = true then va_rf (ww_R M f a) else .int (ww_I M f a)
def ww_fs (M : ww_M) (κ a : Nat) : List Value := (List.range (ww_nf κ)).map (fun k => ww_fv M (40 * κ + k) a)
def ww_E (cy : Nat → ClassId) (M : ww_M) (a : Nat) : va_E :=
  if ww_K M a < 9 then .inr (ww_K M a, ww_fs M (ww_K M a) a)
  else if ww_K M a < 11 then .inl (cy (ww_K M a), ww_N M a, .inl (ww_X M a))
  else if ww_K M a < 13 then .inl (cy (ww_K M a), ww_N M a, .inr (.inr (.inr (.inr (ww_Y M a)))))
  else .inl (cy (ww_K M a), ww_N M a, .inr (.inl (ww_Z M a)))
def ww_W (cy : Nat → ClassId) (M : ww_M) : va_W := va_pl (ww_L M) (ww_E cy M)
theorem ww_fs_get {M : ww_M} {κ a k : Nat} (hk : k < ww_nf κ) : (ww_fs M κ a)[k]? = some (ww_fv M (40 * κ + k) a) := by
  simp [ww_fs, hk]
theorem ww_fs_len {M : ww_M} {κ a : Nat} : (ww_fs M κ a).length = ww_nf κ := by simp [ww_fs]
theorem ww_fs_set {M M' : ww_M} {κ a k : Nat} {v : Value} (h1 : ww_fv M' (40 * κ + k) a = v) (h2 : ∀ j, j ≠ k → ww_fv M' (40 * κ + j) a = ww_fv M (40 * κ + j) a) : (ww_fs M κ a).set k v = ww_fs M' κ a := by
  apply List.ext_getElem?
  intro j
  by_cases hj : j < ww_nf κ
  · by_cases hjk : j = k
    · subst hjk
      rw [List.getElem?_set_self (by rw [ww_fs_len]; exact hj), ww_fs_get hj, h1]
    · rw [List.getElem?_set_ne (Ne.symm hjk), ww_fs_get hj, ww_fs_get hj, h2 j hjk]
  · rw [List.getElem?_eq_none (by rw [List.length_set, ww_fs_len]; omega), List.getElem?_eq_none (by rw [ww_fs_len]; omega)]
theorem ww_fs_congr {M M' : ww_M} {κ a : Nat} (h : ∀ k, ww_fv M' (40 * κ + k) a = ww_fv M (40 * κ + k) a) : ww_fs M' κ a = ww_fs M κ a := by
  unfold ww_fs
  exact List.map_congr_left (fun k _ => h k)
/-- how an update of the world's entry at a is an update of the memory -/
theorem ww_W_set {cy : Nat → ClassId} {A : Nat → Prop} {M M' : ww_M} {a j : Nat} {e : va_E} (hD : va_D A (ww_W cy M)) (ha : a ∈ ww_L M) (hj : (ww_W cy M)[j]? = some (a, ww_E cy M a)) (h0 : M'.1 = M.1) (h1 : ww_E cy M' a = e) (h2 : ∀ b, b ≠ a → ww_E cy M' b = ww_E cy M b) : (ww_W cy M).set j (a, e) = ww_W cy M' := by
  have h := va_pl_set (X := []) (L := ww_L M) (f := ww_E cy M) (A := A) (a := a) (k := j) (e := e) hD ha hj
  have e1 : ([] ++ va_pl (ww_L M) (ww_E cy M)) = ww_W cy M := rfl
  have e2 : ([] ++ va_pl (ww_L M) (va_up (ww_E cy M) a e)) = va_pl (ww_L M) (va_up (ww_E cy M) a e) := rfl
  rw [e1, e2] at h
  rw [h]
  have hL : ww_L M' = ww_L M := by unfold ww_L; rw [h0]
  show va_pl (ww_L M) _ = va_pl (ww_L M') (ww_E cy M')
  rw [hL]
  apply va_pl_congr
  intro b
  unfold va_up
  by_cases hb : b = a
  · subst hb; rw [if_pos rfl, h1]
  · rw [if_neg hb, h2 b hb]
theorem ww_W_get {cy : Nat → ClassId} {M : ww_M} {a : Nat} (ha : a ∈ ww_L M) : ∃ j : Nat, (ww_W cy M)[j]? = some (a, ww_E cy M a) := va_pl_get (X := []) ha
theorem ww_E_o {cy : Nat → ClassId} {M : ww_M} {a κ : Nat} (hK : ww_K M a = κ) (h : κ < 9) : ww_E cy M a = .inr (κ, ww_fs M κ a) := by
  unfold ww_E; rw [hK, if_pos h]
theorem ww_E_i {cy : Nat → ClassId} {M : ww_M} {a κ : Nat} (hK : ww_K M a = κ) (h : 9 ≤ κ) (h2 : κ < 11) : ww_E cy M a = .inl (cy κ, ww_N M a, .inl (ww_X M a)) := by
  unfold ww_E; rw [hK, if_neg (by omega), if_pos h2]
theorem ww_E_r {cy : Nat → ClassId} {M : ww_M} {a κ : Nat} (hK : ww_K M a = κ) (h : 11 ≤ κ) (h2 : κ < 13) : ww_E cy M a = .inl (cy κ, ww_N M a, .inr (.inr (.inr (.inr (ww_Y M a))))) := by
  unfold ww_E; rw [hK, if_neg (by omega), if_neg (by omega), if_pos h2]
theorem ww_E_l {cy : Nat → ClassId} {M : ww_M} {a : Nat} (hK : ww_K M a = 13) : ww_E cy M a = .inl (cy 13, ww_N M a, .inr (.inl (ww_Z M a))) := by
  unfold ww_E; rw [hK, if_neg (by omega), if_neg (by omega), if_neg (by omega)]
/-- a push of the world's is a new thing of the memory's -/
theorem ww_W_push {cy : Nat → ClassId} {M : ww_M} {q κ n : Nat} {e : va_E} (hq : q ∉ ww_L M) (h1 : ww_E cy (ww_nw M q κ n) q = e) : ww_W cy M ++ [(q, e)] = ww_W cy (ww_nw M q κ n) := by
  show va_pl (ww_L M) (ww_E cy M) ++ [(q, e)] = va_pl (ww_L M ++ [q]) (ww_E cy (ww_nw M q κ n))
  rw [va_pl_push hq]
  apply va_pl_congr
  intro b
  unfold va_up
  by_cases hb : b = q
  · subst hb; rw [if_pos rfl, h1]
  · rw [if_neg hb]
    have hKb : ww_K (ww_nw M q κ n) b = ww_K M b := if_neg hb
    have hNb : ww_N (ww_nw M q κ n) b = ww_N M b := if_neg hb
    have hX : ww_X (ww_nw M q κ n) b = ww_X M b := funext fun i => if_neg hb
    have hY : ww_Y (ww_nw M q κ n) b = ww_Y M b := funext fun i => if_neg hb
    have hZ : ww_Z (ww_nw M q κ n) b = ww_Z M b := funext fun i => if_neg hb
    have hfs : ∀ k, ww_fs (ww_nw M q κ n) k b = ww_fs M k b := fun k => ww_fs_congr fun j => by
      have hI : ww_I (ww_nw M q κ n) (40 * k + j) b = ww_I M (40 * k + j) b := if_neg hb
      have hR : ww_R (ww_nw M q κ n) (40 * k + j) b = ww_R M (40 * k + j) b := if_neg hb
      unfold ww_fv; rw [hI, hR]
    unfold ww_E
    rw [hKb, hNb, hX, hY, hZ, hfs]
/-! ===== the words, the state's facts, contracts, the judgement ===== -/
/-- base of the pool, the classes' numbers, the array classes by kind, the empty array of ArrayList's, the script: cell, length, contents; the Class object of Object[] -/
abbrev ww_G : Type := Nat × va_G × (Nat → ClassId) × Nat × Nat × Nat × (Nat → Int32) × Nat
abbrev ww_ge (g : ww_G) : Nat := g.2.2.2.1
abbrev ww_gb (g : ww_G) : Nat := g.2.2.2.2.1
abbrev ww_gl (g : ww_G) : Nat := g.2.2.2.2.2.1
abbrev ww_gx (g : ww_G) : Nat → Int32 := g.2.2.2.2.2.2.1
abbrev ww_gm (g : ww_G) : Nat := g.2.2.2.2.2.2.2
def ww_gA (g : ww_G) : Nat → Prop := fun q => g.1 ≤ q
def ww_ty (g : ww_G) : List (ClassId × FieldType) := [(g.2.2.1 9, .int), (g.2.2.1 10, .int), (g.2.2.1 11, .object "WheelWorks$KindLimits"), (g.2.2.1 12, .object "java/lang/Object"), (g.2.2.1 13, .int)]
def ww_GW : List Cond := lw_tbl.filter goodWord
theorem ww_gw {w : Cond} (h : w ∈ lw_tbl) (hg : goodWord w = true) : w ∈ ww_GW := List.mem_filter.mpr ⟨h, hg⟩
theorem ww_GW_good {big : List Cond} (h : ∀ w ∈ ww_GW, w ∈ big) : GoodIn big ww_GW := fun w hw => ⟨h w hw, good_of_word (List.mem_filter.mp hw).2⟩
theorem ww_word {args a' : Array Value} {s U : State} (hW : s.WarmedH U.vm) {w : Cond} (h : w ∈ ww_GW) (hs : w.before args s = true) : w.before a' U = true := word_at hW (good_of_word (List.mem_filter.mp h).2) hs
def ww_F (g : ww_G) (U : State) (H : Heap) : Prop :=
  (g.1 ≤ H.size ∧ va_K g.2.1 vwCl (ww_ty g) U) ∧
  (va_Z RJx4a65c "DEFAULTCAPACITY_EMPTY_ELEMENTDATA" "[Ljava/lang/Object;" (.ref (ww_ge g)) (ww_gA g) U H ∧ va_T (.object "java/lang/Object") (ww_ge g) 0 (fun _ => .null) (ww_gA g) U H) ∧
  (vx_Zq Bundle.tN "UNASSIGNED_STACK" Bundle.steD (ww_gA g) U H ∧ vx_Zq Bundle.tN "SUPPRESSED_SENTINEL" Bundle.listD (ww_gA g) U H) ∧
  (va_X (ww_gb g) (ww_gl g) (ww_gx g) U H ∧ ¬ ww_gA g (ww_gb g) ∧ ww_gb g < H.size) ∧
  (∀ q ∈ ww_str, ∃ a, vk_R q.1 q.2.1 q.2.2 a U) ∧ ((∀ q ∈ ww_ca, va_Nw (.castable q.1 q.2) U) ∧ (∀ x ∈ ww_de, va_Nw (.declares x) U) ∧ (∀ q ∈ ww_ne, va_Nw (.methodLinkNest q.1 q.2.1 q.2.2.1 q.2.2.2) U) ∧ (∀ q ∈ ww_nc, va_Nc q.1 q.2 U)) ∧
  (va_Mi "[Ljava/lang/Object;" (ww_gm g) U ∧ va_AO "java/lang/Object" U ∧ va_AO "WheelWorks$KindLimits" U)
theorem ww_F_to {g : ww_G} {s U : State} {H : Heap} (hW : s.WarmedH U.vm) (h : ww_F g s s.heap) (h1 : s.heap.size ≤ H.size) (h2 : ∀ q : Nat, q < s.heap.size → ¬ ww_gA g q → H[q]? = s.heap[q]?) : ww_F g U H := by
  obtain ⟨⟨a1, a2⟩, ⟨b1, b2⟩, ⟨c1, c2⟩, ⟨d1, d2, d3⟩, e1, ⟨f1, f2, f3, f4⟩, g1, g2, g3⟩ := h
  have ha := hW.alike
  exact ⟨⟨Nat.le_trans a1 h1, va_K.moved ha a2⟩, ⟨va_Z.moved ha (b1.kept h2), va_T.moved ha (b2.kept h2)⟩, ⟨vx_Zq.moved ha (c1.kept h2), vx_Zq.moved ha (c2.kept h2)⟩,
    ⟨va_X.moved ha (d1.kept (h2 _ d3 d2)), d2, Nat.lt_of_lt_of_le d3 h1⟩,
    fun q hq => by obtain ⟨a, h⟩ := e1 q hq; exact ⟨a, vk_R.warm hW h⟩,
    ⟨fun q hq => va_Nw.warmC hW (f1 q hq), fun q hq => va_Nw.warmD hW (f2 q hq), fun q hq => va_Nw.warmM hW (f3 q hq), fun q hq => va_Nc.moved ha (f4 q hq)⟩,
    va_Mi.moved ha g1, va_AO.moved ha g2, va_AO.moved ha g3⟩
def ww_H (g : ww_G) (M : ww_M) (H : Heap) : Prop := va_P g.2.1 vwCl (ww_W g.2.2.1 M) H ∧ va_D (ww_gA g) (ww_W g.2.2.1 M)
/-- a method: name, code, locals, what it returns, its handlers -/
abbrev ww_Yd : Type := MethodName × ByteArray × Nat × Option FieldType × List (Nat × Nat × Nat × Nat)
def ww_hd (Y : ww_Yd) : Cond := match Y.2.2.2.2 with
  | [] => .code Y.1 Y.2.1 Y.2.2.1 Y.2.2.2.1
  | h :: t => .codeWith Y.1 Y.2.1 Y.2.2.1 Y.2.2.2.1 (h :: t)
def ww_rm (d mc ms : Nat) : Room := { frames := d, cells := mc, slots := ms, locals := 100 * d }
def ww_Pc (g : ww_G) (av : List Value) (M : ww_M) : Array Value → State → Prop := fun v U => v = av.toArray ∧ ww_F g U U.heap ∧ ww_H g M U.heap
def ww_Qc (g : ww_G) (Q : Option Value → ww_M → Prop) : Array Value → State → Outcome → State → Prop := fun _ st o t => (∃ v M', o = .returned v ∧ Q v M' ∧ ww_H g M' t.heap) ∧ va_F (ww_gA g) st t
def ww_Xc (g : ww_G) (X : String → ww_M → Prop) : String → State → State → Prop := fun E st t => (∃ M', X E M' ∧ ww_H g M' t.heap) ∧ va_F (ww_gA g) st t
/-- the contract of a method, from the memory M with the arguments av -/
def ww_C (g : ww_G) (Y : ww_Yd) (d mc ms : Nat) (av : List Value) (M : ww_M) (Q : Option Value → ww_M → Prop) (X : String → ww_M → Prop) : Prop :=
  ∀ l : Launch, l.stackTraces = false → vx_Met l Y.1 (ww_hd Y :: ww_GW) (ww_rm d mc ms) (ww_Pc g av M) (ww_Qc g Q) (ww_Xc g X) mc ms (ww_gA g)
theorem ww_blind {g : ww_G} {av : List Value} {M : ww_M} : FrameBlind (ww_Pc g av M) := fun a U f mk h =>
  ⟨h.1, ww_F_to (s := U) (U := U.calling f mk a) (State.WarmedH.refl U) h.2.1 (Nat.le_refl _) (fun _ _ _ => rfl), h.2.2⟩
def ww_Cx (g : ww_G) (Y : ww_Yd) (d : Nat) (p : Program) (l : Launch) (R : Room) (s : State) (m : MethodId) (args : Array Value) (meth : Method) (c : Code) : Prop :=
  p.tables.exec = Jvm.exec ∧ c.code = Y.2.1 ∧ c.maxLocals = Y.2.2.1 ∧ (meth.sig.returnType = Y.2.2.2.1 ∧ meth.locks = false ∧ meth.name = Y.1.name) ∧ c.exceptionTable.toList = tableOf Y.2.2.2.2 ∧ s.vm.findClass Y.1.cls = some m.cls ∧ (∀ w ∈ ww_GW, w.before args s = true) ∧ l.stackTraces = false ∧ ww_F g s s.heap ∧ d ≤ R.frames ∧ 100 * d ≤ R.locals
def ww_lv (ls : Array Slot) (n : Nat) (lv : List (Nat × Value)) : Prop := lv_has ls n lv ∧ ∀ q ∈ lv, q.2.category = 1
/-- the judgement: the method Y at pc, with locals lv and operand stack st, in the memory M, with d frames, kc cells and ks slots left, comes to its end: it returns v in M' with Q v M', or throws E in M' with X E M' -/
def ww_A (g : ww_G) (Y : ww_Yd) (d kc ks : Nat) (M : ww_M) (pc : Nat) (lv : List (Nat × Value)) (st : List Value) (Q : Option Value → ww_M → Prop) (X : String → ww_M → Prop) : Prop :=
  ∀ (p : Program) (l : Launch) (e : Env) (R : Room) (s : State) (m : MethodId) (args : Array Value) (below : List Frame) (meth : Method) (c : Code) (H : Heap) (locs : List Loc) (cells slots mc ms : Nat) (ls : Array Slot),
    ww_Cx g Y d p l R s m args meth c → (cells + kc ≤ mc ∧ slots + ks ≤ ms ∧ mc ≤ R.cells ∧ ms ≤ R.slots) → ww_lv ls Y.2.2.1 lv → ww_H g M H → va_S (ww_gA g) s.heap H locs →
    W p l e R s m args below meth c H locs cells slots (vx_MQ below (ww_Qc g Q) (ww_Xc g X) args s mc ms (ww_gA g)) (F0 m pc ls st)
/-- an empty table where the code's word says so -/
theorem ww_table0 {p : Program} {l : Launch} {x : MethodName} {S : Spec} {cc : ByteArray} {maxL : Nat} {ret : Option FieldType} {e : Env} {s s₁ : State} {m : MethodId} {args : Array Value} {below : List Frame} {meth : Method} {c : Code}
    (B : BodyLoose p l x S cc maxL ret e s m args below meth c s₁) (h : (Cond.code x cc maxL ret).before args s = true) : c.exceptionTable.toList = [] := by
  obtain ⟨meth', c', h1, h2, -, -, -, -, h7, -⟩ := Cond.code_spec B.named h
  cases B.method.symm.trans h1
  have h3 := (Stand.of_body B).code
  cases h3.symm.trans h2
  have h8 : c.exceptionTable = #[] := by simpa using h7
  rw [h8]
theorem ww_enter {g : ww_G} {Y : ww_Yd} {d mc ms : Nat} {av : List Value} {M : ww_M} {Q : Option Value → ww_M → Prop} {X : String → ww_M → Prop} (hn : plainName Y.1.cls = true) (hlen : (lg_sl av).length ≤ Y.2.2.1) (hcat : ∀ q ∈ lv_args 0 av, q.2.category = 1) (k : ww_A g Y d mc ms M 0 (lv_args 0 av) [] Q X) : ww_C g Y d mc ms av M Q X := by
  intro l hl
  obtain ⟨y, bytes, maxL, ret, hh⟩ := Y
  cases hh with
  | nil =>
    refine vx_ofW (cc := bytes) (maxL := maxL) (ret := ret) (ws' := ww_GW) hn rfl ?_
    intro p e s m args below meth c s₁ B hml hout hv
    obtain ⟨rfl, hF, hH⟩ := hv
    have hts := atoms_spec (ws := ww_hd (y, bytes, maxL, ret, []) :: ww_GW) B.pre
    rw [lg_entry_eq]
    exact k p l e _ s m _ below meth c s.heap [] 0 0 mc ms _ ⟨B.exec, B.bytes, hml, ⟨B.returns, B.notSynchronized, (name_of_methodNamed B.named B.method).1⟩, ww_table0 B (hts _ List.mem_cons_self), findClass_of_methodNamed B.named, fun w hw => hts w (List.mem_cons_of_mem _ hw), hl, hF, Nat.le_refl _, Nat.le_refl _⟩ ⟨by omega, by omega, Nat.le_refl _, Nat.le_refl _⟩ ⟨lv_entry av hlen, hcat⟩ hH va_S.rf
  | cons h0 h1 =>
    refine vx_ofWH (cc := bytes) (maxL := maxL) (ret := ret) (hh := h0 :: h1) (ws' := ww_GW) hn rfl ?_
    intro p e s m args below meth c s₁ B hml hv
    obtain ⟨rfl, hF, hH⟩ := hv
    have hts := atoms_spec (ws := ww_hd (y, bytes, maxL, ret, h0 :: h1) :: ww_GW) B.pre
    rw [lg_entry_eq]
    exact k p l e _ s m _ below meth c s.heap [] 0 0 mc ms _ ⟨B.exec, B.bytes, hml, ⟨B.returns, B.notSynchronized, (name_of_methodNamed B.named B.method).1⟩, vx_table (x := y) B (hts _ List.mem_cons_self), findClass_of_methodNamed B.named, fun w hw => hts w (List.mem_cons_of_mem _ hw), hl, hF, Nat.le_refl _, Nat.le_refl _⟩ ⟨by omega, by omega, Nat.le_refl _, Nat.le_refl _⟩ ⟨lv_entry av hlen, hcat⟩ hH va_S.rf
