section
-- ===== PART A: goes FIRST, ahead of the names: the tables' words, and 'selects' of the private methods out of them =====
/-- a private method of a class that the tables say can be made, by its rows of tables_1 -/
def lw_okq (q : MethodName × Nat) : Prop := (q.1.cls ≠ "java/lang/invoke/MethodHandle" ∧ q.1.cls ≠ "java/lang/invoke/VarHandle") ∧ Cond.instantiable q.1.cls q.2 ∈ tables_1 ∧ Cond.privateMethod q.1 ∈ tables_1 ∧ Cond.instanceMethod q.1 ∈ tables_1
theorem lw_p0 : lw_okq (⟨"WheelWorks", "limitsOf", "(I)LWheelWorks$KindLimits;"⟩, 4) := ⟨⟨by decide +kernel, by decide +kernel⟩, List.mem_of_getElem? (i := 25) (by decide +kernel), List.mem_of_getElem? (i := 137) (by decide +kernel), List.mem_of_getElem? (i := 138) (by decide +kernel)⟩
theorem lw_p1 : lw_okq (⟨"java/lang/Throwable", "fillInStackTrace", "(I)Ljava/lang/Throwable;"⟩, 6) := ⟨⟨by decide +kernel, by decide +kernel⟩, List.mem_of_getElem? (i := 179) (by decide +kernel), List.mem_of_getElem? (i := 177) (by decide +kernel), List.mem_of_getElem? (i := 178) (by decide +kernel)⟩
theorem lw_p2 : lw_okq (⟨"java/util/ArrayList", "add", "(Ljava/lang/Object;[Ljava/lang/Object;I)V"⟩, 3) := ⟨⟨by decide +kernel, by decide +kernel⟩, List.mem_of_getElem? (i := 33) (by decide +kernel), List.mem_of_getElem? (i := 336) (by decide +kernel), List.mem_of_getElem? (i := 337) (by decide +kernel)⟩
theorem lw_p3 : lw_okq (⟨"java/util/ArrayList", "grow", "()[Ljava/lang/Object;"⟩, 3) := ⟨⟨by decide +kernel, by decide +kernel⟩, List.mem_of_getElem? (i := 33) (by decide +kernel), List.mem_of_getElem? (i := 340) (by decide +kernel), List.mem_of_getElem? (i := 341) (by decide +kernel)⟩
theorem lw_p4 : lw_okq (⟨"java/util/ArrayList", "grow", "(I)[Ljava/lang/Object;"⟩, 3) := ⟨⟨by decide +kernel, by decide +kernel⟩, List.mem_of_getElem? (i := 33) (by decide +kernel), List.mem_of_getElem? (i := 344) (by decide +kernel), List.mem_of_getElem? (i := 345) (by decide +kernel)⟩
theorem lw_p5 : lw_okq (⟨"WheelWorks", "existing", "(I)LWheelWorks$Part;"⟩, 4) := ⟨⟨by decide +kernel, by decide +kernel⟩, List.mem_of_getElem? (i := 25) (by decide +kernel), List.mem_of_getElem? (i := 400) (by decide +kernel), List.mem_of_getElem? (i := 401) (by decide +kernel)⟩
theorem lw_p6 : lw_okq (⟨"WheelWorks", "inside", "(LWheelWorks$Part;I)I"⟩, 4) := ⟨⟨by decide +kernel, by decide +kernel⟩, List.mem_of_getElem? (i := 25) (by decide +kernel), List.mem_of_getElem? (i := 451) (by decide +kernel), List.mem_of_getElem? (i := 452) (by decide +kernel)⟩
theorem lw_p7 : lw_okq (⟨"WheelWorks$Log", "add", "(LWheelWorks$Event;)V"⟩, 2) := ⟨⟨by decide +kernel, by decide +kernel⟩, List.mem_of_getElem? (i := 61) (by decide +kernel), List.mem_of_getElem? (i := 484) (by decide +kernel), List.mem_of_getElem? (i := 485) (by decide +kernel)⟩
theorem lw_p8 : lw_okq (⟨"WheelWorks", "inside", "(LWheelWorks$Part;)I"⟩, 4) := ⟨⟨by decide +kernel, by decide +kernel⟩, List.mem_of_getElem? (i := 25) (by decide +kernel), List.mem_of_getElem? (i := 491) (by decide +kernel), List.mem_of_getElem? (i := 492) (by decide +kernel)⟩
theorem lw_p9 : lw_okq (⟨"WheelWorks", "existingTrain", "(I)LWheelWorks$Part;"⟩, 4) := ⟨⟨by decide +kernel, by decide +kernel⟩, List.mem_of_getElem? (i := 25) (by decide +kernel), List.mem_of_getElem? (i := 516) (by decide +kernel), List.mem_of_getElem? (i := 517) (by decide +kernel)⟩
theorem lw_p10 : lw_okq (⟨"WheelWorks$Part", "growFlaw", "(I)V"⟩, 18) := ⟨⟨by decide +kernel, by decide +kernel⟩, List.mem_of_getElem? (i := 233) (by decide +kernel), List.mem_of_getElem? (i := 541) (by decide +kernel), List.mem_of_getElem? (i := 542) (by decide +kernel)⟩
theorem lw_p11 : lw_okq (⟨"WheelWorks", "quarantineTree", "(LWheelWorks$Part;)V"⟩, 4) := ⟨⟨by decide +kernel, by decide +kernel⟩, List.mem_of_getElem? (i := 25) (by decide +kernel), List.mem_of_getElem? (i := 545) (by decide +kernel), List.mem_of_getElem? (i := 546) (by decide +kernel)⟩
theorem lw_p12 : lw_okq (⟨"WheelWorks", "wheelIn", "(LWheelWorks$Part;I)LWheelWorks$Wheel;"⟩, 4) := ⟨⟨by decide +kernel, by decide +kernel⟩, List.mem_of_getElem? (i := 25) (by decide +kernel), List.mem_of_getElem? (i := 554) (by decide +kernel), List.mem_of_getElem? (i := 555) (by decide +kernel)⟩
theorem lw_p13 : lw_okq (⟨"WheelWorks", "existingWheel", "(I)LWheelWorks$Wheel;"⟩, 4) := ⟨⟨by decide +kernel, by decide +kernel⟩, List.mem_of_getElem? (i := 25) (by decide +kernel), List.mem_of_getElem? (i := 568) (by decide +kernel), List.mem_of_getElem? (i := 569) (by decide +kernel)⟩
theorem lw_p14 : lw_okq (⟨"WheelWorks", "firstBar", "(LWheelWorks$Part;)I"⟩, 4) := ⟨⟨by decide +kernel, by decide +kernel⟩, List.mem_of_getElem? (i := 25) (by decide +kernel), List.mem_of_getElem? (i := 614) (by decide +kernel), List.mem_of_getElem? (i := 615) (by decide +kernel)⟩
theorem lw_p15 : lw_okq (⟨"WheelWorks", "lowestBarring", "(LWheelWorks$Part;I)I"⟩, 4) := ⟨⟨by decide +kernel, by decide +kernel⟩, List.mem_of_getElem? (i := 25) (by decide +kernel), List.mem_of_getElem? (i := 618) (by decide +kernel), List.mem_of_getElem? (i := 619) (by decide +kernel)⟩
def lw_privs_1 : List (MethodName × Nat) := [(⟨"WheelWorks", "limitsOf", "(I)LWheelWorks$KindLimits;"⟩, 4), (⟨"java/lang/Throwable", "fillInStackTrace", "(I)Ljava/lang/Throwable;"⟩, 6), (⟨"java/util/ArrayList", "add", "(Ljava/lang/Object;[Ljava/lang/Object;I)V"⟩, 3), (⟨"java/util/ArrayList", "grow", "()[Ljava/lang/Object;"⟩, 3), (⟨"java/util/ArrayList", "grow", "(I)[Ljava/lang/Object;"⟩, 3), (⟨"WheelWorks", "existing", "(I)LWheelWorks$Part;"⟩, 4), (⟨"WheelWorks", "inside", "(LWheelWorks$Part;I)I"⟩, 4), (⟨"WheelWorks$Log", "add", "(LWheelWorks$Event;)V"⟩, 2), (⟨"WheelWorks", "inside", "(LWheelWorks$Part;)I"⟩, 4), (⟨"WheelWorks", "existingTrain", "(I)LWheelWorks$Part;"⟩, 4), (⟨"WheelWorks$Part", "growFlaw", "(I)V"⟩, 18), (⟨"WheelWorks", "quarantineTree", "(LWheelWorks$Part;)V"⟩, 4), (⟨"WheelWorks", "wheelIn", "(LWheelWorks$Part;I)LWheelWorks$Wheel;"⟩, 4), (⟨"WheelWorks", "existingWheel", "(I)LWheelWorks$Wheel;"⟩, 4), (⟨"WheelWorks", "firstBar", "(LWheelWorks$Part;)I"⟩, 4), (⟨"WheelWorks", "lowestBarring", "(LWheelWorks$Part;I)I"⟩, 4)]
theorem lw_r1 : ∀ q ∈ lw_privs_1, lw_okq q := List.forall_mem_cons.mpr ⟨lw_p0, List.forall_mem_cons.mpr ⟨lw_p1, List.forall_mem_cons.mpr ⟨lw_p2, List.forall_mem_cons.mpr ⟨lw_p3, List.forall_mem_cons.mpr ⟨lw_p4, List.forall_mem_cons.mpr ⟨lw_p5, List.forall_mem_cons.mpr ⟨lw_p6, List.forall_mem_cons.mpr ⟨lw_p7, List.forall_mem_cons.mpr ⟨lw_p8, List.forall_mem_cons.mpr ⟨lw_p9, List.forall_mem_cons.mpr ⟨lw_p10, List.forall_mem_cons.mpr ⟨lw_p11, List.forall_mem_cons.mpr ⟨lw_p12, List.forall_mem_cons.mpr ⟨lw_p13, List.forall_mem_cons.mpr ⟨lw_p14, List.forall_mem_cons.mpr ⟨lw_p15, fun _ h => absurd h List.not_mem_nil⟩⟩⟩⟩⟩⟩⟩⟩⟩⟩⟩⟩⟩⟩⟩⟩
theorem lw_p16 : lw_okq (⟨"WheelWorks", "isSo", "(LWheelWorks$Part;I)Z"⟩, 4) := ⟨⟨by decide +kernel, by decide +kernel⟩, List.mem_of_getElem? (i := 25) (by decide +kernel), List.mem_of_getElem? (i := 622) (by decide +kernel), List.mem_of_getElem? (i := 623) (by decide +kernel)⟩
theorem lw_p17 : lw_okq (⟨"WheelWorks", "hasEmptyPlace", "(LWheelWorks$Part;)Z"⟩, 4) := ⟨⟨by decide +kernel, by decide +kernel⟩, List.mem_of_getElem? (i := 25) (by decide +kernel), List.mem_of_getElem? (i := 626) (by decide +kernel), List.mem_of_getElem? (i := 627) (by decide +kernel)⟩
theorem lw_p18 : lw_okq (⟨"WheelWorks", "isApart", "(LWheelWorks$Part;)Z"⟩, 4) := ⟨⟨by decide +kernel, by decide +kernel⟩, List.mem_of_getElem? (i := 25) (by decide +kernel), List.mem_of_getElem? (i := 634) (by decide +kernel), List.mem_of_getElem? (i := 635) (by decide +kernel)⟩
theorem lw_p19 : lw_okq (⟨"WheelWorks", "spreadIn", "(LWheelWorks$Part;)I"⟩, 4) := ⟨⟨by decide +kernel, by decide +kernel⟩, List.mem_of_getElem? (i := 25) (by decide +kernel), List.mem_of_getElem? (i := 638) (by decide +kernel), List.mem_of_getElem? (i := 639) (by decide +kernel)⟩
theorem lw_p20 : lw_okq (⟨"WheelWorks$Yard", "markBlocked", "()V"⟩, 5) := ⟨⟨by decide +kernel, by decide +kernel⟩, List.mem_of_getElem? (i := 77) (by decide +kernel), List.mem_of_getElem? (i := 680) (by decide +kernel), List.mem_of_getElem? (i := 681) (by decide +kernel)⟩
theorem lw_p21 : lw_okq (⟨"java/util/ArrayList", "fastRemove", "([Ljava/lang/Object;I)V"⟩, 3) := ⟨⟨by decide +kernel, by decide +kernel⟩, List.mem_of_getElem? (i := 33) (by decide +kernel), List.mem_of_getElem? (i := 720) (by decide +kernel), List.mem_of_getElem? (i := 721) (by decide +kernel)⟩
theorem lw_p22 : lw_okq (⟨"WheelWorks$Log", "topThen", "(I)I"⟩, 2) := ⟨⟨by decide +kernel, by decide +kernel⟩, List.mem_of_getElem? (i := 61) (by decide +kernel), List.mem_of_getElem? (i := 767) (by decide +kernel), List.mem_of_getElem? (i := 768) (by decide +kernel)⟩
theorem lw_p23 : lw_okq (⟨"WheelWorks$Log", "isPart", "(I)Z"⟩, 2) := ⟨⟨by decide +kernel, by decide +kernel⟩, List.mem_of_getElem? (i := 61) (by decide +kernel), List.mem_of_getElem? (i := 771) (by decide +kernel), List.mem_of_getElem? (i := 772) (by decide +kernel)⟩
def lw_privs_2 : List (MethodName × Nat) := [(⟨"WheelWorks", "isSo", "(LWheelWorks$Part;I)Z"⟩, 4), (⟨"WheelWorks", "hasEmptyPlace", "(LWheelWorks$Part;)Z"⟩, 4), (⟨"WheelWorks", "isApart", "(LWheelWorks$Part;)Z"⟩, 4), (⟨"WheelWorks", "spreadIn", "(LWheelWorks$Part;)I"⟩, 4), (⟨"WheelWorks$Yard", "markBlocked", "()V"⟩, 5), (⟨"java/util/ArrayList", "fastRemove", "([Ljava/lang/Object;I)V"⟩, 3), (⟨"WheelWorks$Log", "topThen", "(I)I"⟩, 2), (⟨"WheelWorks$Log", "isPart", "(I)Z"⟩, 2)]
theorem lw_r2 : ∀ q ∈ lw_privs_2, lw_okq q := List.forall_mem_cons.mpr ⟨lw_p16, List.forall_mem_cons.mpr ⟨lw_p17, List.forall_mem_cons.mpr ⟨lw_p18, List.forall_mem_cons.mpr ⟨lw_p19, List.forall_mem_cons.mpr ⟨lw_p20, List.forall_mem_cons.mpr ⟨lw_p21, List.forall_mem_cons.mpr ⟨lw_p22, List.forall_mem_cons.mpr ⟨lw_p23, fun _ h => absurd h List.not_mem_nil⟩⟩⟩⟩⟩⟩⟩⟩
def lw_privs : List (MethodName × Nat) := lw_privs_1 ++ (lw_privs_2)
def lw_tbl : List Cond := k2_sels lw_privs ++ tables_1
theorem lw_privs_ok : ∀ q ∈ lw_privs, lw_okq q := by
  show ∀ q ∈ lw_privs_1 ++ (lw_privs_2), lw_okq q
  exact List.forall_mem_append.mpr ⟨lw_r1, lw_r2⟩

/-! ===== BEGIN words of one list among another's, by their places ===== -/
theorem goodIn_r {big : List Cond} (ws : List Cond) (ps : List Nat) (hp : ws = ps.filterMap (fun i => big[i]?)) (h : ws.all goodWord = true) : GoodIn big ws := by
  intro w hw
  have h1 := List.all_eq_true.mp h w hw
  rw [hp] at hw
  obtain ⟨i, -, hi⟩ := List.mem_filterMap.mp hw
  have hm : w ∈ big := by first | exact List.mem_of_getElem? hi | exact List.getElem?_mem hi
  exact ⟨hm, good_of_word h1⟩
theorem goodIn_app {big a b : List Cond} (ha : GoodIn big a) (hb : GoodIn big b) : GoodIn big (a ++ b) := fun w h => (List.mem_append.mp h).elim (ha w) (hb w)
theorem goodIn_ca {big a b : List Cond} {c : Cond} (ha : GoodIn big (c :: a)) (hb : GoodIn big b) : GoodIn big (c :: (a ++ b)) := fun w h => (List.mem_cons.mp h).elim (fun e => ha w (List.mem_cons.mpr (Or.inl e))) (fun h => (List.mem_append.mp h).elim (fun h => ha w (List.mem_cons.mpr (Or.inr h))) (hb w))
theorem goodIn_sub {big ws : List Cond} (hm : ∀ w ∈ ws, w ∈ big) (h : ws.all goodWord = true) : GoodIn big ws := fun w hw => ⟨hm w hw, good_of_word (List.all_eq_true.mp h w hw)⟩
/-! ===== END ===== -/

/-! ===== BEGIN exceptions that leave a method, and their catching by the caller (launches without stack traces) ===== -/
section VXA
/-! The laws vx_back, vx_callV, vx_callS, vx_callSW, vx_throw0, vx_throwS follow proofs of the library, with one case more: JvmDerived/Free/Laws.lean (Back.of_free), Shelf42/LK1.lean (callV, callS), Shelf/KitTraced.lean (throwNew0V, throwNewS). -/
/-- where a method has thrown q: the class by its name, the cell, what was written, the world -/
def vx_T (XC : String → State → State → Prop) (st : State) (q : Addr) (t : State) (mc ms : Nat) (free : Addr → Prop) : Prop :=
  ∃ (E : String) (ce : Cell) (L : List Loc), XC E st t ∧ t.heap[q]? = some ce ∧ ce.vm = .none ∧ st.vm.findClass E = some ce.cls ∧ st.WarmedH t.vm ∧ st.sameButNew ({ t with vm := st.vm } : State) L mc ms ∧ ∀ z ∈ L, free z.base
def vx_Q (Qc : Array Value → State → Outcome → State → Prop) (XC : String → State → State → Prop) (mc ms : Nat) (free : Addr → Prop) : Array Value → State → Outcome → State → Prop := fun a st o t =>
  (Qc a st o t ∧ ∃ L, FrameEnd st o t L mc ms ∧ ∀ q ∈ L, free q.base) ∨ ∃ q, o = .threw q ∧ vx_T XC st q t mc ms free
/-- a callee that returns or throws -/
def vx_Met (l : Launch) (y : MethodName) (ws : List Cond) (rm : Room) (Pc : Array Value → State → Prop) (Qc : Array Value → State → Outcome → State → Prop) (XC : String → State → State → Prop) (mc ms : Nat) (free : Addr → Prop) : Prop :=
  MetFree l y (headSpec ws rm) Pc (fun _ _ _ _ _ => True) (vx_Q Qc XC mc ms free)
def vx_Post (XC : String → State → State → Prop) (mc ms : Nat) (free : Addr → Prop) : Pt → Array Value → Addr → Pt → Prop := fun A a q B =>
  ∃ (g : JFrame) (mk : MethodId) (t : State) (L : List Loc) (E : String) (ce : Cell), B.U.heap = t.heap ∧ B.U.vm = t.vm ∧ XC E (A.U.calling g mk a) t ∧ t.heap[q]? = some ce ∧ ce.vm = .none ∧ A.U.vm.findClass E = some ce.cls ∧ B.locs = A.locs ++ L ∧ (∀ z ∈ L, free z.base) ∧ B.cells = A.cells + mc ∧ B.slots = A.slots + ms
def vx_Back (l : Launch) (R : Room) (p : Program) (e : Env) (below : List Frame) (s : State) (sargs : Array Value) (y : MethodName) (len W9 : Nat)
    (Pre : Pt → Array Value → Prop) (Post : Pt → Array Value → Option Value → Pt → Prop) (PostX : Pt → Array Value → Addr → Pt → Prop) : Prop :=
  ∀ (m : MethodId) (meth : Method) (c : Code) (A : Pt) (g : JFrame) (ig : Instr) (mk : MethodId) (a : Array Value),
    Stand p l e R s m sargs below meth c A.U A.locs A.cells A.slots → g.method = m → g.locals.size = c.maxLocals → decode c.code g.pc = .ok (ig, len) →
    2 * g.monitorRoom + (g.stack.map fun v => v.category).sum ≤ W9 → A.U.methodNamed? y = some mk → Pre A a →
    (∃ (v : Option Value) (B : Pt), Stand p l e R s m sargs below meth c B.U B.locs B.cells B.slots ∧ Post A a v B ∧
      Steps p.tables e below (doInvoke e (A.U.setTop g) [] mk a).1 (B.U.setTop { g with pc := g.pc + len, stack := v.toList ++ g.stack })) ∨
    (∃ (q : Addr) (B : Pt), Stand p l e R s m sargs below meth c B.U B.locs B.cells B.slots ∧ PostX A a q B ∧
      Steps p.tables e below (doInvoke e (A.U.setTop g) [] mk a).1 ((B.U.setTop g).pushFrame (.throwing q)))
section Payer
variable {l : Launch} {R : Room} {p : Program} {e : Env} {below : List Frame} {s : State} {sargs : Array Value} {y : MethodName} {len W9 : Nat}
theorem vx_back {ws : List Cond} {rm : Room} {Pc : Array Value → State → Prop} {Qc : Array Value → State → Outcome → State → Prop} {XC : String → State → State → Prop} {mc ms : Nat} {free : Addr → Prop} {bytes : ByteArray} {maxL : Nat} {ret : Option FieldType}
    (hM : vx_Met l y ws rm Pc Qc XC mc ms free) (hblind : FrameBlind Pc) (hrc : rm.cells = mc) (hrs : rm.slots = ms)
    (hframes : rm.frames + 1 ≤ R.frames) (hlocals : W9 + (maxL + 11) + rm.locals ≤ R.locals)
    (hws : ∀ w ∈ ws, ∀ a' U, s.WarmedH U.vm → w.before a' U = true) (hcode : Cond.code y bytes maxL ret ∈ ws) (hinit : ∀ a' U, s.WarmedH U.vm → (Cond.initialized y.cls).before a' U = true) :
    vx_Back l R p e below s sargs y len W9 (PreOf R mc ms Pc) (PostOf Qc mc ms free) (vx_Post XC mc ms free) := by
  intro m meth c A g ig mk a X hg hsize hdg hW hn hp
  have h1 : (headSpec ws rm).pre.before a A.U = true := atoms_intro fun w hw => hws w hw _ _ X.warmed
  have h2 : (Cond.code y bytes maxL ret).before a A.U = true := hws _ hcode _ _ X.warmed
  have h3 : (Cond.initialized y.cls).before a A.U = true := hinit _ _ X.warmed
  have h4 : A.cells + (headSpec ws rm).room.cells ≤ R.cells := by rw [show (headSpec ws rm).room.cells = mc from hrc]; exact hp.1
  have h5 : A.slots + (headSpec ws rm).room.slots ≤ R.slots := by rw [show (headSpec ws rm).room.slots = ms from hrs]; exact hp.2.1
  have hPc : Pc a (A.U.calling g mk a) := hblind _ _ _ _ hp.2.2
  obtain ⟨U, Ls, c0, s0⟩ := A
  dsimp only [Pt.U, Pt.locs, Pt.cells, Pt.slots] at h1 h2 h3 h4 h5 X hn hPc ⊢
  obtain ⟨methY, cY, hmY, hcY, -, hlY, -, -, -, -⟩ := Cond.code_spec hn h2
  obtain ⟨kY, hkY, -⟩ := className_of_methodNamed hn
  have hinitY : kY.init = .initialized := Cond.initialized_spec (findClass_of_methodNamed hn) hkY h3
  have h : At U g.method c below := by rw [hg]; exact X.here
  have hlocals9 : W9 + (maxL + 11) + (headSpec ws rm).room.locals ≤ R.locals := hlocals
  have happ : (headSpec ws rm).appliesLoose y e.platform (U.calling g mk a) = true :=
    Spec.appliesLoose_calling (g := g) h hdg hn hkY hinitY
      (X.room_calling (g := g) (R' := (headSpec ws rm).room) hsize hmY hcY hframes (by rw [hlY]; omega) h4 h5) h1
  obtain ⟨mid, hmid⟩ := h.above
  have hfr : (U.setTop g).frames = (.java g :: mid) ++ below := by rw [State.frames_setTop' g h.top, hmid]; rfl
  obtain ⟨o, s₂, hsteps, -, hend, hq⟩ := Steps.callFree hM p X.admits X.cas X.clock (acts := []) hfr happ hPc trivial
  have hq' : vx_Q Qc XC mc ms free a (U.calling g mk a) o s₂ := hq
  rw [State.frames_setTop' g h.top] at hend
  obtain ⟨g₀, hg0⟩ := Option.isSome_iff_exists.mp h.top
  obtain ⟨r, hr⟩ := State.topJava?_eq_some.mp hg0
  have hr' : (({ U with heap := s₂.heap, slotsUsed := s₂.slotsUsed } : State).setVm s₂.vm).frames = .java g₀ :: r := hr
  rcases hq' with ⟨hqc, L, hfe, hL⟩ | ⟨q, rfl, E, ce, L, hx, hce, hcv, hcl, hW₂, hsm, hL⟩
  · obtain ⟨⟨v, rfl⟩, hW₂, e2, q2, q3, q4, q5, q6⟩ := id hfe
    have e3 : s₂ = ({ (U.calling g mk a).setFrames s₂.frames with heap := s₂.heap, slotsUsed := s₂.slotsUsed } : State).setVm s₂.vm := by
      have : s₂ = ({ s₂ with vm := (U.calling g mk a).vm } : State).setVm s₂.vm := rfl
      rw [e2] at this
      exact this
    obtain ⟨c₂, i₂, len₂, hc₂, hd₂, hf₂⟩ := hend
    have hW' : U.WarmedH s₂.vm := hW₂
    have hcc : c₂ = c := by
      have h1 : s₂.code? g.method = U.code? g.method := by
        rw [State.code?_eq, State.code?_eq, hW'.alike.method?]
      exact Option.some.inj (hc₂.symm.trans (h1.trans h.code))
    subst hcc
    have hlen : len₂ = len := by rw [hdg] at hd₂; cases hd₂; rfl
    subst hlen
    have hs₂ : s₂ = (({ U with heap := s₂.heap, slotsUsed := s₂.slotsUsed } : State).setVm s₂.vm).setTop { g with pc := g.pc + len₂, stack := v.toList ++ g.stack } := by
      refine e3.trans ?_
      rw [hf₂, State.calling_eq h.top, State.setFrames_setFrames, State.setTop_of_frames _ hr', hr]
      rfl
    have hsame : U.sameButNew ({ U with heap := s₂.heap, slotsUsed := s₂.slotsUsed } : State) L mc ms := by
      refine ⟨?_, q2, q3, q4, q5, q6⟩
      obtain ⟨t, ht, -⟩ := State.frames_cons hr
      show ({ U with heap := s₂.heap, slotsUsed := s₂.slotsUsed } : State) = { U.setFrames U.frames with heap := s₂.heap, slotsUsed := s₂.slotsUsed }
      rw [State.setFrames_self ht]
    subst hg
    refine Or.inl ⟨v, ⟨(({ U with heap := s₂.heap, slotsUsed := s₂.slotsUsed } : State).setVm s₂.vm), Ls ++ L, c0 + mc, s0 + ms⟩,
      ⟨X.admits, X.cas, X.clock, X.frames, X.room, X.hears, X.method, X.code, (X.here.setHeapUsed s₂.heap s₂.slotsUsed).setVm hW'.alike, X.tail, State.WarmedH.trans X.warmed hW', X.limits, X.bytes, X.same.trans (hsame.setVm s.vm)⟩,
      ⟨g, mk, s₂, L, rfl, rfl, hqc, rfl, hL, rfl, rfl⟩, ?_⟩
    show Steps p.tables e below _ ((({ U with heap := s₂.heap, slotsUsed := s₂.slotsUsed } : State).setVm s₂.vm).setTop { g with pc := g.pc + len₂, stack := v.toList ++ g.stack })
    rw [← hs₂]
    exact hsteps
  · obtain ⟨e2, q2, q3, q4, q5, q6⟩ := id hsm
    have e3 : s₂ = ({ (U.calling g mk a).setFrames s₂.frames with heap := s₂.heap, slotsUsed := s₂.slotsUsed } : State).setVm s₂.vm := by
      have : s₂ = ({ s₂ with vm := (U.calling g mk a).vm } : State).setVm s₂.vm := rfl
      rw [e2] at this
      exact this
    have hf₂ : s₂.frames = .throwing q :: .java g :: U.frames.tail := hend
    have hW' : U.WarmedH s₂.vm := hW₂
    have hs₂ : s₂ = ((({ U with heap := s₂.heap, slotsUsed := s₂.slotsUsed } : State).setVm s₂.vm).setTop g).pushFrame (.throwing q) := by
      refine e3.trans ?_
      rw [hf₂, State.calling_eq h.top, State.setFrames_setFrames, State.pushFrame, State.frames_setTop _ hr', State.setTop_of_frames _ hr', State.setFrames_setFrames, hr]
      rfl
    have hsame : U.sameButNew ({ U with heap := s₂.heap, slotsUsed := s₂.slotsUsed } : State) L mc ms := by
      refine ⟨?_, q2, q3, q4, q5, q6⟩
      obtain ⟨t, ht, -⟩ := State.frames_cons hr
      show ({ U with heap := s₂.heap, slotsUsed := s₂.slotsUsed } : State) = { U.setFrames U.frames with heap := s₂.heap, slotsUsed := s₂.slotsUsed }
      rw [State.setFrames_self ht]
    subst hg
    refine Or.inr ⟨q, ⟨(({ U with heap := s₂.heap, slotsUsed := s₂.slotsUsed } : State).setVm s₂.vm), Ls ++ L, c0 + mc, s0 + ms⟩,
      ⟨X.admits, X.cas, X.clock, X.frames, X.room, X.hears, X.method, X.code, (X.here.setHeapUsed s₂.heap s₂.slotsUsed).setVm hW'.alike, X.tail, State.WarmedH.trans X.warmed hW', X.limits, X.bytes, X.same.trans (hsame.setVm s.vm)⟩,
      ⟨g, mk, s₂, L, E, ce, rfl, rfl, hx, hce, hcv, hcl, rfl, hL, rfl, rfl⟩, ?_⟩
    show Steps p.tables e below _ (((({ U with heap := s₂.heap, slotsUsed := s₂.slotsUsed } : State).setVm s₂.vm).setTop g).pushFrame (.throwing q))
    rw [← hs₂]
    exact hsteps
end Payer
section Calls
variable {p : Program} {l : Launch} {e : Env} {R : Room} {s : State} {m : MethodId} {args : Array Value} {below : List Frame} {meth : Method} {c : Code} {T : State} {locs : List Loc} {cells slots : Nat}
theorem vx_callV (X : Stand p l e R s m args below meth c T locs cells slots) (hexec : p.tables.exec = Jvm.exec) {own C : String} {index : Nat} {y : MethodName} {bytes : ByteArray} {maxL : Nat} {ret : Option FieldType}
    (hown : s.vm.findClass own = some m.cls) (hlink : (Cond.methodLink own index y).before args s = true) (hinst : (Cond.instanceMethod y).before args s = true) (hsel : (Cond.selects C y y).before args s = true)
    (hcode : (Cond.code y bytes maxL ret).before args s = true) (hy : y.cls ≠ "java/lang/invoke/MethodHandle" ∧ y.cls ≠ "java/lang/invoke/VarHandle")
    {W9 : Nat} {Pre : Pt → Array Value → Prop} {Post : Pt → Array Value → Option Value → Pt → Prop} {PostX : Pt → Array Value → Addr → Pt → Prop} (hK : vx_Back l R p e below s args y 3 W9 Pre Post PostX)
    {b : Addr} {cellB : Cell} (hcell : T.heap[b]? = some cellB) (hobj : cellB.vm.isStatics = false) (hcls : s.vm.findClass C = some cellB.cls)
    {g : JFrame} (hg : g.method = m) (hsize : g.locals.size = c.maxLocals) {argsL rest : List Value} (hlen : ∀ sig, parseMethodDescriptor y.desc = some sig → argsL.length = sig.parameters.length)
    (hstack : g.stack = argsL.reverse ++ .ref b :: rest) (hW : 2 * g.monitorRoom + (rest.map fun v => v.category).sum ≤ W9) (hdg : decode c.code g.pc = .ok (.invokevirtual index, 3))
    (hpre : ∀ vm₁, s.WarmedH vm₁ → Pre ⟨T.setVm vm₁, locs, cells, slots⟩ (Value.ref b :: argsL).toArray) :
    (∃ (v : Option Value) (vm₁ : Vm) (B : Pt), s.WarmedH vm₁ ∧ Stand p l e R s m args below meth c B.U B.locs B.cells B.slots ∧ Post ⟨T.setVm vm₁, locs, cells, slots⟩ (Value.ref b :: argsL).toArray v B ∧
      ∀ target, Steps p.tables e below (B.U.setTop { g with pc := g.pc + 3, stack := v.toList ++ rest }) target → Steps p.tables e below (T.setTop g) target) ∨
    (∃ (q : Addr) (vm₁ : Vm) (B : Pt), s.WarmedH vm₁ ∧ Stand p l e R s m args below meth c B.U B.locs B.cells B.slots ∧ PostX ⟨T.setVm vm₁, locs, cells, slots⟩ (Value.ref b :: argsL).toArray q B ∧
      Steps p.tables e below (T.setTop g) ((B.U.setTop { g with stack := rest }).pushFrame (.throwing q))) := by
  obtain ⟨mk, methM, hnamed, hmethM, hstM, habM⟩ := Cond.instanceMethod_spec hinst
  obtain ⟨methM', cM, hmethM', -, -, -, -, -, -, hsigM⟩ := Cond.code_spec hnamed hcode
  cases hmethM.symm.trans hmethM'
  obtain ⟨c2, r2, m2, q1, q2, q3, q4, kP, hkP, hkPi⟩ := Cond.selects_spec hsel
  cases hcls.symm.trans q1
  cases (State.methodFound?_of_named hnamed hy).symm.trans q2
  cases hnamed.symm.trans q3
  have hselP : selectMethod e.platform s.vm cellB.cls mk = .method mk := by rw [Launch.admits_selectMethod X.admits]; exact q4
  obtain ⟨vm₁, X₁, hstep₁⟩ := X.invokevirtual hexec hown hlink hnamed hmethM hstM hkP hkPi hy (a := b) (cell := cellB) hcell
    (fun z h => by rw [h] at hobj; cases hobj) hselP hmethM habM hkP hkPi (g := g) hg (argsL := argsL) (rest := rest) (hlen _ hsigM) hstack hdg
  rcases hK m meth c ⟨T.setVm vm₁, locs, cells, slots⟩ { g with stack := rest } (.invokevirtual index) mk (Value.ref b :: argsL).toArray X₁ hg hsize hdg hW (X₁.named hnamed) (hpre vm₁ X₁.warmed) with ⟨v, B, X', hpost, hsteps⟩ | ⟨q, B, X', hpost, hsteps⟩
  · exact Or.inl ⟨v, vm₁, B, X₁.warmed, X', hpost, fun target h => hstep₁ _ fun acts => by rw [doInvoke_state]; exact hsteps.trans h⟩
  · exact Or.inr ⟨q, vm₁, B, X₁.warmed, X', hpost, hstep₁ _ fun acts => by rw [doInvoke_state]; exact hsteps⟩
theorem vx_callS (X : Stand p l e R s m args below meth c T locs cells slots) (hexec : p.tables.exec = Jvm.exec) {own : String} {index : Nat} {y : MethodName} {bytes : ByteArray} {maxL : Nat} {ret : Option FieldType}
    (hown : s.vm.findClass own = some m.cls) (hlink : (Cond.methodLink own index y).before args s = true) (hstat : (Cond.static y).before args s = true) (hinit : (Cond.initialized y.cls).before args s = true)
    (hcode : (Cond.code y bytes maxL ret).before args s = true) (hy : y.cls ≠ "java/lang/invoke/MethodHandle" ∧ y.cls ≠ "java/lang/invoke/VarHandle")
    {W9 : Nat} {Pre : Pt → Array Value → Prop} {Post : Pt → Array Value → Option Value → Pt → Prop} {PostX : Pt → Array Value → Addr → Pt → Prop} (hK : vx_Back l R p e below s args y 3 W9 Pre Post PostX)
    {g : JFrame} (hg : g.method = m) (hsize : g.locals.size = c.maxLocals) {argsL rest : List Value} (hlen : ∀ sig, parseMethodDescriptor y.desc = some sig → argsL.length = sig.parameters.length)
    (hstack : g.stack = argsL.reverse ++ rest) (hW : 2 * g.monitorRoom + (rest.map fun v => v.category).sum ≤ W9) (hdg : decode c.code g.pc = .ok (.invokestatic index, 3))
    (hpre : ∀ vm₁, s.WarmedH vm₁ → Pre ⟨T.setVm vm₁, locs, cells, slots⟩ argsL.toArray) :
    (∃ (v : Option Value) (vm₁ : Vm) (B : Pt), s.WarmedH vm₁ ∧ Stand p l e R s m args below meth c B.U B.locs B.cells B.slots ∧ Post ⟨T.setVm vm₁, locs, cells, slots⟩ argsL.toArray v B ∧
      ∀ target, Steps p.tables e below (B.U.setTop { g with pc := g.pc + 3, stack := v.toList ++ rest }) target → Steps p.tables e below (T.setTop g) target) ∨
    (∃ (q : Addr) (vm₁ : Vm) (B : Pt), s.WarmedH vm₁ ∧ Stand p l e R s m args below meth c B.U B.locs B.cells B.slots ∧ PostX ⟨T.setVm vm₁, locs, cells, slots⟩ argsL.toArray q B ∧
      Steps p.tables e below (T.setTop g) ((B.U.setTop { g with stack := rest }).pushFrame (.throwing q))) := by
  obtain ⟨mk, hnamed⟩ := Cond.code_named hcode
  obtain ⟨methM, cM, hmethM, -, -, -, -, -, -, hsigM⟩ := Cond.code_spec hnamed hcode
  have hstatic : methM.isStatic = true := Cond.static_spec hnamed hmethM hstat
  obtain ⟨kP, hkP, -⟩ := className_of_methodNamed hnamed
  have hinitP : kP.init = .initialized := Cond.initialized_spec (findClass_of_methodNamed hnamed) hkP hinit
  obtain ⟨vm₁, X₁, hstep₁⟩ := X.invokestatic hexec hown hlink hnamed hmethM hstatic hkP hinitP hy (g := g) hg (argsL := argsL) (rest := rest) (hlen _ hsigM) hstack hdg
  rcases hK m meth c ⟨T.setVm vm₁, locs, cells, slots⟩ { g with stack := rest } (.invokestatic index) mk argsL.toArray X₁ hg hsize hdg hW (X₁.named hnamed) (hpre vm₁ X₁.warmed) with ⟨v, B, X', hpost, hsteps⟩ | ⟨q, B, X', hpost, hsteps⟩
  · exact Or.inl ⟨v, vm₁, B, X₁.warmed, X', hpost, fun target h => hstep₁ _ fun acts => by rw [doInvoke_state]; exact hsteps.trans h⟩
  · exact Or.inr ⟨q, vm₁, B, X₁.warmed, X', hpost, hstep₁ _ fun acts => by rw [doInvoke_state]; exact hsteps⟩
end Calls
theorem vx_cls {s : State} {T : State} {vm₁ : Vm} {E : String} {k : ClassId} (hW : s.WarmedH vm₁) (h : (T.setVm vm₁).vm.findClass E = some k) : s.vm.findClass E = some k := by
  have h1 : vm₁.findClass E = some k := h
  rw [hW.alike.findClass] at h1
  exact h1
/-- the method's frame g, with q thrown over it -/
def vx_W (p : Program) (l : Launch) (e : Env) (R : Room) (s : State) (m : MethodId) (args : Array Value) (below : List Frame) (meth : Method) (c : Code) (H : Heap) (locs : List Loc) (cells slots : Nat) (Q : State → Prop) (g : JFrame) (q : Addr) : Prop :=
  ∀ T : State, T.heap = H → Stand p l e R s m args below meth c T locs cells slots → ∃ t, Steps p.tables e below ((T.setTop g).pushFrame (.throwing q)) t ∧ Q t
def vx_Run (p : Program) (l : Launch) (e : Env) (R : Room) (s : State) (m : MethodId) (args : Array Value) (below : List Frame) (meth : Method) (c : Code) (H : Heap) (locs : List Loc) (cells slots mc ms : Nat) (g : JFrame) (rest : List Value) (Qa : State → Outcome → State → Prop) (XC : String → State → State → Prop) (free : Addr → Prop) : Prop :=
  ∀ T : State, T.heap = H → Stand p l e R s m args below meth c T locs cells slots →
    (∃ (v : Option Value) (st₀ t T' : State) (L : List Loc), st₀.heap = H ∧ Stand p l e R s m args below meth c T' (locs ++ L) (cells + mc) (slots + ms) ∧ (∀ q ∈ L, free q.base) ∧ T'.heap = t.heap ∧ T'.vm = t.vm ∧ Qa st₀ (.returned v) t ∧
      Goes p e below T g T' { g with pc := g.pc + 3, stack := v.toList ++ rest }) ∨
    (∃ (q : Addr) (st₀ t T' : State) (L : List Loc) (E : String) (ce : Cell), st₀.heap = H ∧ Stand p l e R s m args below meth c T' (locs ++ L) (cells + mc) (slots + ms) ∧ (∀ z ∈ L, free z.base) ∧ T'.heap = t.heap ∧ T'.vm = t.vm ∧ XC E st₀ t ∧ t.heap[q]? = some ce ∧ ce.vm = .none ∧ s.vm.findClass E = some ce.cls ∧
      Steps p.tables e below (T.setTop g) ((T'.setTop { g with stack := rest }).pushFrame (.throwing q)))
def vx_X {S : Type} (px : S → Prop) (B : String → S → State → Prop) (A : Nat → Prop) : String → State → State → Prop := fun E st t => ∃ u : S, px u ∧ B E u t ∧ va_F A st t
section Runs
variable {p : Program} {l : Launch} {e : Env} {R : Room} {s : State} {m : MethodId} {args : Array Value} {below : List Frame} {meth : Method} {c : Code} {H : Heap} {locs : List Loc} {cells slots : Nat}
variable {y : MethodName} {bytes cc : ByteArray} {maxL nL mc ms n index : Nat} {ret : Option FieldType} {ws : List Cond} {rm : Room} {Pc : Array Value → State → Prop} {Qc : Array Value → State → Outcome → State → Prop} {XC : String → State → State → Prop} {free : Addr → Prop} {Ts : List Cond} {own C : String} {b : Addr} {As rest : List Value} {g : JFrame}
theorem vx_callBack (cb : CallB R s args own index y bytes maxL ret ws rm mc ms n) (hM : vx_Met l y ws rm Pc Qc XC mc ms free) (hbl : FrameBlind Pc) : vx_Back l R p e below s args y 3 8 (PreOf R mc ms Pc) (PostOf Qc mc ms free) (vx_Post XC mc ms free) := by
  obtain ⟨hrc, hrs, hfr, hlo, hws, hcw, -, hini, -⟩ := cb
  exact vx_back (bytes := bytes) (maxL := maxL) (ret := ret) hM hbl hrc hrs hfr hlo hws hcw (fun a' U hW => word_at hW (Or.inl (by first | rfl | simp [Cond.onTables, Cond.keeps, Cond.steady])) hini)
theorem vx_runV (S : CallFix p m c cc nL s args Ts own) (hM : vx_Met l y ws rm Pc Qc XC mc ms free) (cw : CallW R s args own C index y bytes maxL ret ws rm mc ms n) (hp : PreV s H C b Pc As)
    (hg : g.method = m) (hn : As.length = n) (hsize : g.locals.size = nL) (hstack : g.stack = As.reverse ++ .ref b :: rest) (hW : 2 * g.monitorRoom + (rest.map fun v => v.category).sum ≤ 8) (hdg : decode cc g.pc = .ok (.invokevirtual index, 3)) (hf : cells + mc ≤ R.cells ∧ slots + ms ≤ R.slots) :
    vx_Run p l e R s m args below meth c H locs cells slots mc ms g rest (Qc (Value.ref b :: As).toArray) XC free := by
  have hK : vx_Back l R p e below s args y 3 8 (PreOf R mc ms Pc) (PostOf Qc mc ms free) (vx_Post XC mc ms free) := vx_callBack cw.1 hM hp.1
  obtain ⟨⟨-, -, -, -, -, -, hcode, -, hy, hlen, hl⟩, hin, hse⟩ := cw
  obtain ⟨hx, hb, hml, ho, -⟩ := S
  obtain ⟨-, ⟨cellB, hcB, hoB, hclB⟩, hPc⟩ := hp
  intro T hT X
  rcases vx_callV X hx (C := C) (bytes := bytes) (maxL := maxL) (ret := ret) ho hl hin hse hcode hy hK (by rw [hT]; exact hcB) hoB hclB hg (hsize.trans hml.symm) (argsL := As) (rest := rest) (fun sig h => hn.trans (hlen sig h)) hstack hW (by rw [hb]; exact hdg)
    (fun vm₁ hW₁ => ⟨hf.1, hf.2, hPc (T.setVm vm₁) hT hW₁⟩) with ⟨v, vm₁, ⟨U', l2, c2, s2⟩, hW₁, X', ⟨g', mk, t, L, e1, e2, hq, h1, hL, h2, h3⟩, st⟩ | ⟨q, vm₁, ⟨U', l2, c2, s2⟩, hW₁, X', ⟨g', mk, t, L, E, ce, e1, e2, hq, hce, hcv, hcl, h1, hL, h2, h3⟩, st⟩
  · dsimp only [Pt.U, Pt.locs, Pt.cells, Pt.slots] at X' e1 e2 h1 h2 h3 st
    subst h1; subst h2; subst h3
    exact Or.inl ⟨v, (T.setVm vm₁).calling g' mk (Value.ref b :: As).toArray, t, U', L, hT, X', hL, e1, e2, hq, st⟩
  · dsimp only [Pt.U, Pt.locs, Pt.cells, Pt.slots] at X' e1 e2 h1 h2 h3 st hcl
    subst h1; subst h2; subst h3
    exact Or.inr ⟨q, (T.setVm vm₁).calling g' mk (Value.ref b :: As).toArray, t, U', L, E, ce, hT, X', hL, e1, e2, hq, hce, hcv, vx_cls hW₁ hcl, st⟩
theorem vx_runS (S : CallFix p m c cc nL s args Ts own) (hM : vx_Met l y ws rm Pc Qc XC mc ms free) (cw : CallB R s args own index y bytes maxL ret ws rm mc ms n ∧ (Cond.static y).before args s = true) (hp : PreS s H Pc As)
    (hg : g.method = m) (hn : As.length = n) (hsize : g.locals.size = nL) (hstack : g.stack = As.reverse ++ rest) (hW : 2 * g.monitorRoom + (rest.map fun v => v.category).sum ≤ 8) (hdg : decode cc g.pc = .ok (.invokestatic index, 3)) (hf : cells + mc ≤ R.cells ∧ slots + ms ≤ R.slots) :
    vx_Run p l e R s m args below meth c H locs cells slots mc ms g rest (Qc As.toArray) XC free := by
  have hK : vx_Back l R p e below s args y 3 8 (PreOf R mc ms Pc) (PostOf Qc mc ms free) (vx_Post XC mc ms free) := vx_callBack cw.1 hM hp.1
  obtain ⟨⟨-, -, -, -, -, -, hcode, hini, hy, hlen, hl⟩, hstt⟩ := cw
  obtain ⟨hx, hb, hml, ho, -⟩ := S
  intro T hT X
  rcases vx_callS X hx (bytes := bytes) (maxL := maxL) (ret := ret) ho hl hstt hini hcode hy hK hg (hsize.trans hml.symm) (argsL := As) (rest := rest) (fun sig h => hn.trans (hlen sig h)) hstack hW (by rw [hb]; exact hdg)
    (fun vm₁ hW₁ => ⟨hf.1, hf.2, hp.2 (T.setVm vm₁) hT hW₁⟩) with ⟨v, vm₁, ⟨U', l2, c2, s2⟩, hW₁, X', ⟨g', mk, t, L, e1, e2, hq, h1, hL, h2, h3⟩, st⟩ | ⟨q, vm₁, ⟨U', l2, c2, s2⟩, hW₁, X', ⟨g', mk, t, L, E, ce, e1, e2, hq, hce, hcv, hcl, h1, hL, h2, h3⟩, st⟩
  · dsimp only [Pt.U, Pt.locs, Pt.cells, Pt.slots] at X' e1 e2 h1 h2 h3 st
    subst h1; subst h2; subst h3
    exact Or.inl ⟨v, (T.setVm vm₁).calling g' mk As.toArray, t, U', L, hT, X', hL, e1, e2, hq, st⟩
  · dsimp only [Pt.U, Pt.locs, Pt.cells, Pt.slots] at X' e1 e2 h1 h2 h3 st hcl
    subst h1; subst h2; subst h3
    exact Or.inr ⟨q, (T.setVm vm₁).calling g' mk As.toArray, t, U', L, E, ce, hT, X', hL, e1, e2, hq, hce, hcv, vx_cls hW₁ hcl, st⟩
end Runs
section Rows
variable {p : Program} {l : Launch} {e : Env} {R : Room} {s : State} {m : MethodId} {args : Array Value} {below : List Frame} {meth : Method} {c : Code} {H : Heap} {locs : List Loc} {cells slots : Nat} {Q : State → Prop}
variable {mc ms : Nat} {free : Addr → Prop} {A0 A1 : Nat → Prop} {H0 : Heap} {a : Array Value} {pc : Nat} {ls : Array Slot} {st0 rest : List Value}
theorem vx_keep {st₀ t T' : State} {L : List Loc} (h0 : st₀.heap = H) (e1 : T'.heap = t.heap) (hS : va_S A0 H0 H locs) (hA : ∀ q, q < H.size → A1 q → A0 q) (hf : ∀ q, free q → A0 q) (hL : ∀ q ∈ L, free q.base) (hF : va_F A1 st₀ t) :
    H.size ≤ T'.heap.size ∧ (∀ q : Nat, q < H.size → ¬ A1 q → T'.heap[q]? = H[q]?) ∧ va_S A0 H0 T'.heap (locs ++ L) := by
  obtain ⟨hz, hk⟩ := hF
  rw [h0] at hz hk
  exact ⟨by rw [e1]; exact hz, fun q h1 h2 => by rw [e1]; exact hk q h1 h2,
    ⟨Nat.le_trans hS.1 (by rw [e1]; exact hz), fun q h1 h2 => by rw [e1, hk q (Nat.lt_of_lt_of_le h1 hS.1) (fun z => h2 (hA q (Nat.lt_of_lt_of_le h1 hS.1) z))]; exact hS.2.1 q h1 h2, fun q hq => by
      rcases List.mem_append.mp hq with h | h
      · exact hS.2.2 q h
      · exact hf _ (hL q h)⟩⟩
theorem vx_calli {S SX : Type} {post : Int32 → S → Prop} {px : SX → Prop} {B : S → State → Prop} {BX : String → SX → State → Prop} {AX : Nat → Prop} (hr : vx_Run p l e R s m args below meth c H locs cells slots mc ms (F0 m pc ls st0) rest (va_Qi post B A1 a) (vx_X px BX AX) free) (hS : va_S A0 H0 H locs) (hA : ∀ q, q < H.size → A1 q → A0 q) (hf : ∀ q, free q → A0 q) (hAX : ∀ q, q < H.size → AX q → A0 q)
    (kx : ∀ (E : String) (ce : Cell) (q9 : Addr) (u : SX) (t : State) (H1 : Heap) (locs1 : List Loc), t.heap = H1 → s.vm.Alike t.vm → px u → BX E u t → H.size ≤ H1.size → (∀ q : Nat, q < H.size → ¬ AX q → H1[q]? = H[q]?) → va_S A0 H0 H1 locs1 → H1[q9]? = some ce → ce.vm = .none → s.vm.findClass E = some ce.cls → vx_W p l e R s m args below meth c H1 locs1 (cells + mc) (slots + ms) Q (F0 m pc ls rest) q9)
    (kk : ∀ (r : Int32) (u : S) (t : State) (H1 : Heap) (locs1 : List Loc), t.heap = H1 → s.vm.Alike t.vm → post r u → B u t → H.size ≤ H1.size → (∀ q : Nat, q < H.size → ¬ A1 q → H1[q]? = H[q]?) → va_S A0 H0 H1 locs1 → W p l e R s m args below meth c H1 locs1 (cells + mc) (slots + ms) Q (F0 m (pc + 3) ls (.int r :: rest))) : W p l e R s m args below meth c H locs cells slots Q (F0 m pc ls st0) := by
  intro T hT X
  rcases hr T hT X with ⟨v, st₀, t, T', L, h0, X', hL, e1, e2, ⟨⟨r, u, hv, hp, hb⟩, hF⟩, st⟩ | ⟨q, st₀, t, T', L, E, ce, h0, X', hL, e1, e2, ⟨u, hp, hb, hF⟩, hce, hcv, hcl, st⟩
  · cases hv
    obtain ⟨k1, k2, k3⟩ := vx_keep h0 e1 hS hA hf hL hF
    obtain ⟨t2, a1, b1⟩ := kk r u t T'.heap (locs ++ L) e1.symm (by rw [← e2]; exact X'.warmed.alike) hp hb k1 k2 k3 T' rfl X'
    exact ⟨t2, st t2 a1, b1⟩
  · obtain ⟨k1, k2, k3⟩ := vx_keep h0 e1 hS hAX hf hL hF
    obtain ⟨t2, a1, b1⟩ := kx E ce q u t T'.heap (locs ++ L) e1.symm (by rw [← e2]; exact X'.warmed.alike) hp hb k1 k2 k3 (by rw [e1]; exact hce) hcv hcl T' rfl X'
    exact ⟨t2, st.trans a1, b1⟩
theorem vx_calll {S SX : Type} {post : Int64 → S → Prop} {px : SX → Prop} {B : S → State → Prop} {BX : String → SX → State → Prop} {AX : Nat → Prop} (hr : vx_Run p l e R s m args below meth c H locs cells slots mc ms (F0 m pc ls st0) rest (va_Ql post B A1 a) (vx_X px BX AX) free) (hS : va_S A0 H0 H locs) (hA : ∀ q, q < H.size → A1 q → A0 q) (hf : ∀ q, free q → A0 q) (hAX : ∀ q, q < H.size → AX q → A0 q)
    (kx : ∀ (E : String) (ce : Cell) (q9 : Addr) (u : SX) (t : State) (H1 : Heap) (locs1 : List Loc), t.heap = H1 → s.vm.Alike t.vm → px u → BX E u t → H.size ≤ H1.size → (∀ q : Nat, q < H.size → ¬ AX q → H1[q]? = H[q]?) → va_S A0 H0 H1 locs1 → H1[q9]? = some ce → ce.vm = .none → s.vm.findClass E = some ce.cls → vx_W p l e R s m args below meth c H1 locs1 (cells + mc) (slots + ms) Q (F0 m pc ls rest) q9)
    (kk : ∀ (r : Int64) (u : S) (t : State) (H1 : Heap) (locs1 : List Loc), t.heap = H1 → s.vm.Alike t.vm → post r u → B u t → H.size ≤ H1.size → (∀ q : Nat, q < H.size → ¬ A1 q → H1[q]? = H[q]?) → va_S A0 H0 H1 locs1 → W p l e R s m args below meth c H1 locs1 (cells + mc) (slots + ms) Q (F0 m (pc + 3) ls (.long r :: rest))) : W p l e R s m args below meth c H locs cells slots Q (F0 m pc ls st0) := by
  intro T hT X
  rcases hr T hT X with ⟨v, st₀, t, T', L, h0, X', hL, e1, e2, ⟨⟨r, u, hv, hp, hb⟩, hF⟩, st⟩ | ⟨q, st₀, t, T', L, E, ce, h0, X', hL, e1, e2, ⟨u, hp, hb, hF⟩, hce, hcv, hcl, st⟩
  · cases hv
    obtain ⟨k1, k2, k3⟩ := vx_keep h0 e1 hS hA hf hL hF
    obtain ⟨t2, a1, b1⟩ := kk r u t T'.heap (locs ++ L) e1.symm (by rw [← e2]; exact X'.warmed.alike) hp hb k1 k2 k3 T' rfl X'
    exact ⟨t2, st t2 a1, b1⟩
  · obtain ⟨k1, k2, k3⟩ := vx_keep h0 e1 hS hAX hf hL hF
    obtain ⟨t2, a1, b1⟩ := kx E ce q u t T'.heap (locs ++ L) e1.symm (by rw [← e2]; exact X'.warmed.alike) hp hb k1 k2 k3 (by rw [e1]; exact hce) hcv hcl T' rfl X'
    exact ⟨t2, st.trans a1, b1⟩
theorem vx_callf {S SX : Type} {post : UInt32 → S → Prop} {px : SX → Prop} {B : S → State → Prop} {BX : String → SX → State → Prop} {AX : Nat → Prop} (hr : vx_Run p l e R s m args below meth c H locs cells slots mc ms (F0 m pc ls st0) rest (va_Qf post B A1 a) (vx_X px BX AX) free) (hS : va_S A0 H0 H locs) (hA : ∀ q, q < H.size → A1 q → A0 q) (hf : ∀ q, free q → A0 q) (hAX : ∀ q, q < H.size → AX q → A0 q)
    (kx : ∀ (E : String) (ce : Cell) (q9 : Addr) (u : SX) (t : State) (H1 : Heap) (locs1 : List Loc), t.heap = H1 → s.vm.Alike t.vm → px u → BX E u t → H.size ≤ H1.size → (∀ q : Nat, q < H.size → ¬ AX q → H1[q]? = H[q]?) → va_S A0 H0 H1 locs1 → H1[q9]? = some ce → ce.vm = .none → s.vm.findClass E = some ce.cls → vx_W p l e R s m args below meth c H1 locs1 (cells + mc) (slots + ms) Q (F0 m pc ls rest) q9)
    (kk : ∀ (r : UInt32) (u : S) (t : State) (H1 : Heap) (locs1 : List Loc), t.heap = H1 → s.vm.Alike t.vm → post r u → B u t → H.size ≤ H1.size → (∀ q : Nat, q < H.size → ¬ A1 q → H1[q]? = H[q]?) → va_S A0 H0 H1 locs1 → W p l e R s m args below meth c H1 locs1 (cells + mc) (slots + ms) Q (F0 m (pc + 3) ls (.float r :: rest))) : W p l e R s m args below meth c H locs cells slots Q (F0 m pc ls st0) := by
  intro T hT X
  rcases hr T hT X with ⟨v, st₀, t, T', L, h0, X', hL, e1, e2, ⟨⟨r, u, hv, hp, hb⟩, hF⟩, st⟩ | ⟨q, st₀, t, T', L, E, ce, h0, X', hL, e1, e2, ⟨u, hp, hb, hF⟩, hce, hcv, hcl, st⟩
  · cases hv
    obtain ⟨k1, k2, k3⟩ := vx_keep h0 e1 hS hA hf hL hF
    obtain ⟨t2, a1, b1⟩ := kk r u t T'.heap (locs ++ L) e1.symm (by rw [← e2]; exact X'.warmed.alike) hp hb k1 k2 k3 T' rfl X'
    exact ⟨t2, st t2 a1, b1⟩
  · obtain ⟨k1, k2, k3⟩ := vx_keep h0 e1 hS hAX hf hL hF
    obtain ⟨t2, a1, b1⟩ := kx E ce q u t T'.heap (locs ++ L) e1.symm (by rw [← e2]; exact X'.warmed.alike) hp hb k1 k2 k3 (by rw [e1]; exact hce) hcv hcl T' rfl X'
    exact ⟨t2, st.trans a1, b1⟩
theorem vx_calld {S SX : Type} {post : UInt64 → S → Prop} {px : SX → Prop} {B : S → State → Prop} {BX : String → SX → State → Prop} {AX : Nat → Prop} (hr : vx_Run p l e R s m args below meth c H locs cells slots mc ms (F0 m pc ls st0) rest (va_Qd post B A1 a) (vx_X px BX AX) free) (hS : va_S A0 H0 H locs) (hA : ∀ q, q < H.size → A1 q → A0 q) (hf : ∀ q, free q → A0 q) (hAX : ∀ q, q < H.size → AX q → A0 q)
    (kx : ∀ (E : String) (ce : Cell) (q9 : Addr) (u : SX) (t : State) (H1 : Heap) (locs1 : List Loc), t.heap = H1 → s.vm.Alike t.vm → px u → BX E u t → H.size ≤ H1.size → (∀ q : Nat, q < H.size → ¬ AX q → H1[q]? = H[q]?) → va_S A0 H0 H1 locs1 → H1[q9]? = some ce → ce.vm = .none → s.vm.findClass E = some ce.cls → vx_W p l e R s m args below meth c H1 locs1 (cells + mc) (slots + ms) Q (F0 m pc ls rest) q9)
    (kk : ∀ (r : UInt64) (u : S) (t : State) (H1 : Heap) (locs1 : List Loc), t.heap = H1 → s.vm.Alike t.vm → post r u → B u t → H.size ≤ H1.size → (∀ q : Nat, q < H.size → ¬ A1 q → H1[q]? = H[q]?) → va_S A0 H0 H1 locs1 → W p l e R s m args below meth c H1 locs1 (cells + mc) (slots + ms) Q (F0 m (pc + 3) ls (.double r :: rest))) : W p l e R s m args below meth c H locs cells slots Q (F0 m pc ls st0) := by
  intro T hT X
  rcases hr T hT X with ⟨v, st₀, t, T', L, h0, X', hL, e1, e2, ⟨⟨r, u, hv, hp, hb⟩, hF⟩, st⟩ | ⟨q, st₀, t, T', L, E, ce, h0, X', hL, e1, e2, ⟨u, hp, hb, hF⟩, hce, hcv, hcl, st⟩
  · cases hv
    obtain ⟨k1, k2, k3⟩ := vx_keep h0 e1 hS hA hf hL hF
    obtain ⟨t2, a1, b1⟩ := kk r u t T'.heap (locs ++ L) e1.symm (by rw [← e2]; exact X'.warmed.alike) hp hb k1 k2 k3 T' rfl X'
    exact ⟨t2, st t2 a1, b1⟩
  · obtain ⟨k1, k2, k3⟩ := vx_keep h0 e1 hS hAX hf hL hF
    obtain ⟨t2, a1, b1⟩ := kx E ce q u t T'.heap (locs ++ L) e1.symm (by rw [← e2]; exact X'.warmed.alike) hp hb k1 k2 k3 (by rw [e1]; exact hce) hcv hcl T' rfl X'
    exact ⟨t2, st.trans a1, b1⟩
theorem vx_callv {S SX : Type} {post : S → Prop} {px : SX → Prop} {B : S → State → Prop} {BX : String → SX → State → Prop} {AX : Nat → Prop} (hr : vx_Run p l e R s m args below meth c H locs cells slots mc ms (F0 m pc ls st0) rest (va_Qv post B A1 a) (vx_X px BX AX) free) (hS : va_S A0 H0 H locs) (hA : ∀ q, q < H.size → A1 q → A0 q) (hf : ∀ q, free q → A0 q) (hAX : ∀ q, q < H.size → AX q → A0 q)
    (kx : ∀ (E : String) (ce : Cell) (q9 : Addr) (u : SX) (t : State) (H1 : Heap) (locs1 : List Loc), t.heap = H1 → s.vm.Alike t.vm → px u → BX E u t → H.size ≤ H1.size → (∀ q : Nat, q < H.size → ¬ AX q → H1[q]? = H[q]?) → va_S A0 H0 H1 locs1 → H1[q9]? = some ce → ce.vm = .none → s.vm.findClass E = some ce.cls → vx_W p l e R s m args below meth c H1 locs1 (cells + mc) (slots + ms) Q (F0 m pc ls rest) q9)
    (kk : ∀ (u : S) (t : State) (H1 : Heap) (locs1 : List Loc), t.heap = H1 → s.vm.Alike t.vm → post u → B u t → H.size ≤ H1.size → (∀ q : Nat, q < H.size → ¬ A1 q → H1[q]? = H[q]?) → va_S A0 H0 H1 locs1 → W p l e R s m args below meth c H1 locs1 (cells + mc) (slots + ms) Q (F0 m (pc + 3) ls (rest))) : W p l e R s m args below meth c H locs cells slots Q (F0 m pc ls st0) := by
  intro T hT X
  rcases hr T hT X with ⟨v, st₀, t, T', L, h0, X', hL, e1, e2, ⟨⟨u, hv, hp, hb⟩, hF⟩, st⟩ | ⟨q, st₀, t, T', L, E, ce, h0, X', hL, e1, e2, ⟨u, hp, hb, hF⟩, hce, hcv, hcl, st⟩
  · cases hv
    obtain ⟨k1, k2, k3⟩ := vx_keep h0 e1 hS hA hf hL hF
    obtain ⟨t2, a1, b1⟩ := kk u t T'.heap (locs ++ L) e1.symm (by rw [← e2]; exact X'.warmed.alike) hp hb k1 k2 k3 T' rfl X'
    exact ⟨t2, st t2 a1, b1⟩
  · obtain ⟨k1, k2, k3⟩ := vx_keep h0 e1 hS hAX hf hL hF
    obtain ⟨t2, a1, b1⟩ := kx E ce q u t T'.heap (locs ++ L) e1.symm (by rw [← e2]; exact X'.warmed.alike) hp hb k1 k2 k3 (by rw [e1]; exact hce) hcv hcl T' rfl X'
    exact ⟨t2, st.trans a1, b1⟩
/-- caught by the row x of this method's table; the rows ahead don't take it -/
theorem vx_catch {own name : String} {E : String} {ce : Cell} {q : Addr} (hown : s.vm.findClass own = some m.cls) (pre : List ExceptionTableEntry) (x : ExceptionTableEntry) (suf : List ExceptionTableEntry) (hsplit : c.exceptionTable.toList = pre ++ x :: suf)
    (hpass : ∀ z ∈ pre, covers z pc = false ∨ (z.catchType ≠ 0 ∧ ∃ nm : String, (Cond.classLink own z.catchType nm).before args s = true ∧ va_Nc E nm s)) (hx : covers x pc = true) (h0 : x.catchType ≠ 0)
    (hlink : (Cond.classLink own x.catchType name).before args s = true) (hcast : (Cond.castable E name).before args s = true) (hcell : H[q]? = some ce) (hv : ce.vm = .none) (hcl : s.vm.findClass E = some ce.cls)
    (kk : W p l e R s m args below meth c H locs cells slots Q (F0 m x.handlerPc ls [.ref q])) : vx_W p l e R s m args below meth c H locs cells slots Q (F0 m pc ls rest) q := by
  intro T hT X
  have hpl : e.platform.magicAccessors = ({} : Platform).magicAccessors := by rw [X.admits.platform]
  obtain ⟨c3, c4, hc3, hc4, hasg⟩ := Cond.castable_spec hcast
  cases Option.some.inj (hc3.symm.trans hcl)
  obtain ⟨c5, hc5, hcl5⟩ := Cond.classLink_spec hown hlink e.platform hpl
  cases Option.some.inj (hc4.symm.trans hc5)
  obtain ⟨vm', X', st⟩ := X.thenCaughtThrough q (g := F0 m pc ls rest) rfl (Steps.refl _) (by rw [hT]; exact hcell) (by rw [hv]; rfl) (by obtain ⟨k9, h9, -⟩ := Vm.findClass_spec hcl; exact ⟨k9, h9⟩) pre x suf hsplit
    (fun z hz => by
      rcases hpass z hz with h | ⟨hz0, nm, hl1, hn1⟩
      · exact Or.inl h
      · obtain ⟨c6, hc6, hcl6⟩ := Cond.classLink_spec hown hl1 e.platform hpl
        obtain ⟨a8, b8, h1, h2, h3⟩ := hn1
        cases Option.some.inj (h1.symm.trans hcl)
        cases Option.some.inj (h2.symm.trans hc6)
        exact Or.inr ⟨hz0, _, hcl6, h3⟩) hx (Or.inr ⟨h0, c4, hcl5, hasg⟩)
  obtain ⟨t, a1, b1⟩ := kk (T.setVm vm') hT X'
  exact ⟨t, st.trans a1, b1⟩
end Rows
section Ends
variable {p : Program} {l : Launch} {e : Env} {R : Room} {s : State} {m : MethodId} {args : Array Value} {below : List Frame} {meth : Method} {c : Code} {H : Heap} {locs : List Loc} {cells slots : Nat} {Q : State → Prop}
variable {mc ms : Nat} {free : Addr → Prop} {A0 A1 : Nat → Prop} {H0 : Heap} {a : Array Value} {ls : Array Slot} {st0 rest : List Value}
variable {Qc : Array Value → State → Outcome → State → Prop} {XC : String → State → State → Prop}
/-- what a body that may throw owes at its end -/
def vx_MQ (below : List Frame) (Qc : Array Value → State → Outcome → State → Prop) (XC : String → State → State → Prop) (a : Array Value) (s : State) (mc ms : Nat) (free : Addr → Prop) : State → Prop := fun t =>
  ∃ o, t.status = .running ∧ Ended t below o ∧ vx_Q Qc XC mc ms free a s o t
theorem vx_ret {g : JFrame} {mc ms : Nat} (k : W p l e R s m args below meth c H locs cells slots (MQ below Qc args s mc ms free) g) : W p l e R s m args below meth c H locs cells slots (vx_MQ below Qc XC args s mc ms free) g := by
  intro T hT X
  obtain ⟨t, a1, o, b1, b2, b3, b4⟩ := k T hT X
  exact ⟨t, a1, o, b1, b2, Or.inl ⟨b3, b4⟩⟩
/-- not caught here: it goes on to the caller -/
theorem vx_widen {g : JFrame} {q : Addr} {k n : Nat} (h1 : cells ≤ k) (h2 : slots ≤ n) (kk : vx_W p l e R s m args below meth c H locs k n Q g q) : vx_W p l e R s m args below meth c H locs cells slots Q g q := fun T hT X => kk T hT (stand_widen X h1 h2)
theorem vx_out {pc : Nat} {E : String} {ce : Cell} {q : Addr} {mc ms : Nat} (hout : ∀ x ∈ c.exceptionTable.toList, covers x pc = false) (hlocks : meth.locks = false) (hcell : H[q]? = some ce) (hv : ce.vm = .none) (hcl : s.vm.findClass E = some ce.cls)
    (hx : ∀ t : State, t.heap = H → s.vm.Alike t.vm → XC E s t) (hf : ∀ z ∈ locs, free z.base) (hc : cells ≤ mc) (hs : slots ≤ ms) :
    vx_W p l e R s m args below meth c H locs cells slots (vx_MQ below Qc XC args s mc ms free) (F0 m pc ls rest) q := by
  intro T hT X
  obtain ⟨st1, hrun, hend, hW, hsm⟩ := X.leaveThrown q (g := F0 m pc ls rest) rfl rfl rfl hout hlocks
  have hcell9 : (T.setFrames (.throwing q :: below)).heap[q]? = some ce := by
    show T.heap[q]? = some ce
    rw [hT]; exact hcell
  exact ⟨_, st1, .threw q, hrun, hend, Or.inr ⟨q, rfl, E, ce, locs, hx _ hT hW.alike, hcell9, hv, hcl, hW, hsm.mono hc hs, hf⟩⟩
theorem vx_frame {U : State} {k n : Nat} (h : s.sameButNew ({ U with vm := s.vm } : State) locs k n) : s.heap.size ≤ U.heap.size ∧ ∀ q : Nat, q < s.heap.size → (∀ z ∈ locs, z.base ≠ q) → U.heap[q]? = s.heap[q]? := by
  obtain ⟨-, h2, -, -, -, h6⟩ := h
  refine ⟨h2, fun q hq hz => ?_⟩
  obtain ⟨c9, e1, e2, e3, e4⟩ := h6 q _ (Array.getElem?_eq_getElem hq)
  have hs : c9.slots = (s.heap[q]).slots := Array.ext_getElem? fun i => e4 i fun hm => hz _ hm rfl
  have h9 : c9 = s.heap[q] := by
    rw [hs] at e2
    exact e2
  have e5 : U.heap[q]? = some c9 := e1
  rw [e5, h9, Array.getElem?_eq_getElem hq]
/-- the words of a throw but the four that speak of the heap -/
def vx_no (w : Cond) : Bool := decide (w ≠ .isRef (.static Bundle.tN "UNASSIGNED_STACK" Bundle.steD)) && decide (w ≠ .isRef (.static Bundle.tN "SUPPRESSED_SENTINEL" Bundle.listD)) && decide (w ≠ .laysStatic Bundle.tN "UNASSIGNED_STACK" Bundle.steD) && decide (w ≠ .laysStatic Bundle.tN "SUPPRESSED_SENTINEL" Bundle.listD)
def vx_at0 (own : String) (ic : Nat) (X : String) (names : List String) : List Cond := (Bundle.ownAtoms0 own ic X names).filter vx_no
def vx_atS (own : String) (ic : Nat) (X : String) (names : List String) : List Cond := (Bundle.ownAtoms own ic X names).filter vx_no
/-- a word that the tables alone decide, or a good one -/
def vx_ot (w : Cond) : Bool := w.onTables || goodWord w
theorem vx_ot_at {args a' : Array Value} {s U : State} {w : Cond} (hW : s.WarmedH U.vm) (hvm : s.vm = U.vm) (hg : vx_ot w = true) (h : w.before args s = true) : w.before a' U = true := by
  simp only [vx_ot, Bool.or_eq_true] at hg
  rcases hg with hg | hg
  · exact va_tabs hg hvm h
  · exact word_at hW (good_of_word hg) h
/-- a list's words: the good ones out of the method's own list, the others by premises of their own -/
theorem vx_hat {args : Array Value} {s : State} {L B : List Cond} (h1 : ∀ w ∈ L.filter goodWord, w.before args s = true) (h2 : ∀ w ∈ L.filter (fun w => !goodWord w), w ∈ B) (h3 : ∀ w ∈ B, w.before args s = true) : ∀ w ∈ L, w.before args s = true := by
  intro w hw
  by_cases g : goodWord w = true
  · exact h1 w (List.mem_filter.mpr ⟨hw, g⟩)
  · refine h3 w (h2 w (List.mem_filter.mpr ⟨hw, ?_⟩))
    show (!goodWord w) = true
    cases hgw : goodWord w
    · rfl
    · exact absurd hgw g
theorem vx_c {args : Array Value} {s : State} {w : Cond} {B : List Cond} (h : w.before args s = true) (t : ∀ w ∈ B, w.before args s = true) : ∀ w' ∈ w :: B, w'.before args s = true := fun w' h' => (List.mem_cons.mp h').elim (fun e => by rw [e]; exact h) (t w')
theorem vx_n {args : Array Value} {s : State} : ∀ w ∈ ([] : List Cond), w.before args s = true := fun _ h => nomatch h
theorem vx_own {args : Array Value} {s : State} {L : List Cond} (h1 : ∀ w ∈ L.filter vx_no, w.before args s = true)
    (hU : (Cond.isRef (.static Bundle.tN "UNASSIGNED_STACK" Bundle.steD)).before args s = true) (hN : (Cond.isRef (.static Bundle.tN "SUPPRESSED_SENTINEL" Bundle.listD)).before args s = true)
    (lU : (Cond.laysStatic Bundle.tN "UNASSIGNED_STACK" Bundle.steD).before args s = true) (lN : (Cond.laysStatic Bundle.tN "SUPPRESSED_SENTINEL" Bundle.listD).before args s = true) : ∀ w ∈ L, w.before args s = true := by
  intro w hw
  by_cases e1 : w = .isRef (.static Bundle.tN "UNASSIGNED_STACK" Bundle.steD)
  · rw [e1]; exact hU
  · by_cases e2 : w = .isRef (.static Bundle.tN "SUPPRESSED_SENTINEL" Bundle.listD)
    · rw [e2]; exact hN
    · by_cases e3 : w = .laysStatic Bundle.tN "UNASSIGNED_STACK" Bundle.steD
      · rw [e3]; exact lU
      · by_cases e4 : w = .laysStatic Bundle.tN "SUPPRESSED_SENTINEL" Bundle.listD
        · rw [e4]; exact lN
        · exact h1 w (List.mem_filter.mpr ⟨hw, by unfold vx_no; rw [decide_eq_true e1, decide_eq_true e2, decide_eq_true e3, decide_eq_true e4]; rfl⟩)
/-- where a static field lies, its class's statics cell in H -/
def vx_L (C n d : String) (A : Nat → Prop) (U : State) (H : Heap) : Prop := ∃ (c : ClassId) (k : Class) (i : Nat) (f : Field) (a : Nat) (cell : Cell), U.vm.findClass C = some c ∧ U.fieldFound? C n d = some (c, k, i, f) ∧ f.isStatic = true ∧ k.statics = some a ∧ H[a]? = some cell ∧ cell.vm.isStatics = true ∧ cell.cls = c ∧ f.slot < cell.slots.size ∧ k.staticTypes[f.slot]? = some f.type ∧ ¬ A a
theorem vx_L.moved {C n d : String} {A : Nat → Prop} {u U : State} {H : Heap} (hvm : u.vm.Alike U.vm) (h : vx_L C n d A u H) : vx_L C n d A U H := by
  obtain ⟨c, k, i, f, a, cell, h1, h2, h3, h4, h5, h6, h7, h8, h9, h10⟩ := h
  obtain ⟨k', hi', he⟩ := State.fieldFound?_setVm hvm h2
  exact ⟨c, k', i, f, a, cell, by rw [hvm.findClass]; exact h1, hi', h3, by rw [he]; exact h4, h5, h6, h7, h8, by rw [he]; exact h9, h10⟩
theorem vx_L.kept {C n d : String} {A : Nat → Prop} {U : State} {H H1 : Heap} (h : vx_L C n d A U H) (hq : ∀ a : Nat, a < H.size → ¬ A a → H1[a]? = H[a]?) : vx_L C n d A U H1 := by
  obtain ⟨c, k, i, f, a, cell, h1, h2, h3, h4, h5, h6, h7, h8, h9, h10⟩ := h
  exact ⟨c, k, i, f, a, cell, h1, h2, h3, h4, by rw [hq a (Array.getElem?_eq_some_iff.mp h5).1 h10]; exact h5, h6, h7, h8, h9, h10⟩
theorem vx_L.narrow {C n d : String} {A B : Nat → Prop} {U : State} {H : Heap} (h : vx_L C n d A U H) (hAB : ∀ q, B q → A q) : vx_L C n d B U H := by
  obtain ⟨c, k, i, f, a, cell, h1, h2, h3, h4, h5, h6, h7, h8, h9, h10⟩ := h
  exact ⟨c, k, i, f, a, cell, h1, h2, h3, h4, h5, h6, h7, h8, h9, fun z => h10 (hAB _ z)⟩
theorem vx_L.word {C n d : String} {A : Nat → Prop} {s : State} {args : Array Value} (h : vx_L C n d A s s.heap) : (Cond.laysStatic C n d).before args s = true := by
  obtain ⟨c, k, i, f, a, cell, h1, h2, h3, h4, h5, h6, h7, h8, h9, -⟩ := h
  show (Cond.laysStatic C n d).holds args s none s [] = true
  exact Cond.laysStatic_of h1 h2 h3 h4 h5 h6 h7 h8 h9
/-- .. and what it holds: null or some reference -/
def vx_Zq (C n d : String) (A : Nat → Prop) (U : State) (H : Heap) : Prop := va_Zq C n d A U H ∧ vx_L C n d A U H
theorem vx_Zq.moved {C n d : String} {A : Nat → Prop} {u U : State} {H : Heap} (hvm : u.vm.Alike U.vm) (h : vx_Zq C n d A u H) : vx_Zq C n d A U H := ⟨va_Zq.moved hvm h.1, vx_L.moved hvm h.2⟩
theorem vx_Zq.kept {C n d : String} {A : Nat → Prop} {U : State} {H H1 : Heap} (h : vx_Zq C n d A U H) (hq : ∀ a : Nat, a < H.size → ¬ A a → H1[a]? = H[a]?) : vx_Zq C n d A U H1 := ⟨va_Zq.kept h.1 hq, vx_L.kept h.2 hq⟩
theorem vx_Zq.narrow {C n d : String} {A B : Nat → Prop} {U : State} {H : Heap} (h : vx_Zq C n d A U H) (hAB : ∀ q, B q → A q) : vx_Zq C n d B U H := ⟨va_Zq.narrow h.1 hAB, vx_L.narrow h.2 hAB⟩
theorem vx_Zqof {args : Array Value} {s : State} {C n d : String} {A : Nat → Prop} (hl : (Cond.laysStatic C n d).before args s = true) (hini : (Cond.initialized C).before args s = true) (h : (Cond.isRef (.static C n d)).before args s = true) (hA : ∀ a : Nat, a < s.heap.size → ¬ A a) : vx_Zq C n d A s s.heap := by
  refine ⟨va_Zqof hl hini h hA, ?_⟩
  obtain ⟨c, k, i, f, a, cell, h1, h2, h3, h4, h5, h6, h7, h8, h9⟩ := Cond.laysStatic_spec hl
  exact ⟨c, k, i, f, a, cell, h1, h2, h3, h4, h5, h6, h7, h8, h9, hA a (Array.getElem?_eq_some_iff.mp h5).1⟩
theorem vx_isRef {C n d : String} {v : Value} {A : Nat → Prop} {s : State} {args : Array Value} (h : va_Z C n d v A s s.heap) (hv : v.isRef = true) : (Cond.isRef (.static C n d)).before args s = true := by
  obtain ⟨cf, kf, fi, f, a, cell, h1, h2, h3, h4, h5, h6, h7, -⟩ := h
  have he : (Term.static C n d).eval args s none [] s = some v := by
    simp [Term.eval, State.fieldNamed?, h1, h2, h4, h5, h6, h7]
  simp only [Cond.before, Cond.holds, Cond.value, he]
  cases v <;> simp_all [Value.isRef]
theorem vx_isRefq {C n d : String} {A : Nat → Prop} {s : State} {args : Array Value} (h : va_Zq C n d A s s.heap) : (Cond.isRef (.static C n d)).before args s = true := by
  rcases h with h | ⟨t, h⟩
  · exact vx_isRef h rfl
  · exact vx_isRef h rfl
/-- the same frame, seen from here: as if the method were called anew in this heap -/
theorem vx_rebase {T : State} (X : Stand p l e R s m args below meth c T locs cells slots) {R' : Room} (hf : R'.frames ≤ R.frames) (hl : R'.locals ≤ R.locals) (hc : cells + R'.cells ≤ R.cells) (hs : slots + R'.slots ≤ R.slots) :
    Stand p l e R' ((T.setVm s.vm).setFrames (.invoking m args :: below)) m args below meth c T [] 0 0 := by
  have htop : (T.setVm s.vm).topJava?.isSome := X.here.top
  have hF : ((T.setVm s.vm).setFrames (.invoking m args :: below)).frames = .invoking m args :: below := State.frames_setFrames _ (State.cur_lt_of_top htop)
  obtain ⟨g₀, hg0⟩ := Option.isSome_iff_exists.mp htop
  obtain ⟨r, hr⟩ := State.topJava?_eq_some.mp hg0
  have hl9 : e.platform.stackLimits (T.setVm s.vm).me = e.platform.stackLimits s.me := X.limits
  have hb9 : (T.setVm s.vm).me.stackBytes = s.me.stackBytes := X.bytes
  refine ⟨X.admits, X.cas, X.clock, hF, ?_, X.hears, X.method, X.code, X.here, X.tail, X.warmed, ?_, ?_, ?_⟩
  · have h := X.room
    have hU : ((T.setVm s.vm).setFrames (.invoking m args :: below)).localsInUse = s.localsInUse := by
      rw [State.localsInUse_invoking hF (meth := meth) (c := c) X.method X.code, State.localsInUse_invoking X.frames X.method X.code]
    simp only [State.hasRoom, Bool.and_eq_true, decide_eq_true_eq] at h ⊢
    obtain ⟨⟨⟨⟨h1, h2, h3, h4, h5, h6⟩, h7⟩, h8⟩, h9⟩ := h
    rw [X.frames, List.length_cons] at h2 h3
    have q1 := X.heapSize
    have q2 := X.used
    simp only [hF, hU, List.length_cons, State.stackLimits_setFrames, State.stackBytes_setFrames, hl9, hb9]
    refine ⟨⟨⟨⟨by omega, by omega, by omega, by omega, by omega, h6⟩, ?_⟩, ?_⟩, X.book⟩
    · show T.heap.size + R'.cells ≤ e.platform.maxCells
      omega
    · show T.slotsUsed + R'.slots ≤ e.platform.maxSlots
      omega
  · rw [State.stackLimits_setFrames]; rfl
  · rw [State.stackBytes_setFrames]; rfl
  · refine ⟨?_, Nat.le_refl _, Nat.le_refl _, ?_, ?_, fun a c9 h9 => ⟨c9, h9, rfl, rfl, fun _ _ => rfl⟩⟩
    · obtain ⟨t, ht, -⟩ := State.frames_cons hr
      show T.setVm s.vm = { ((T.setVm s.vm).setFrames (.invoking m args :: below)).setFrames (T.setVm s.vm).frames with heap := T.heap, slotsUsed := T.slotsUsed }
      rw [State.setFrames_setFrames, State.setFrames_self ht]
      rfl
    · show T.slotsUsed = T.slotsUsed + ((T.heap.toList.drop T.heap.size).map (·.slots.size)).sum
      rw [List.drop_eq_nil_of_le (Nat.le_of_eq Array.length_toList)]
      rfl
    · show ((T.heap.toList.drop T.heap.size).map (·.slots.size)).sum ≤ 0
      rw [List.drop_eq_nil_of_le (Nat.le_of_eq Array.length_toList)]
      exact Nat.le_refl _
/-- 'throw new E()': new; dup; invokespecial; athrow -/
theorem vx_throw0 {cc : ByteArray} {pc : Nat} (hexec : p.tables.exec = Jvm.exec) (hb : c.code = cc) (hl : l.stackTraces = false) {own cls : String} {names : List String} {ik ic mc ms : Nat} {A : Nat → Prop}
    (hown : s.vm.findClass own = some m.cls) (hcls : Bundle.fit cls = true) (hnames : ∀ n ∈ names, Bundle.fit n = true)
    (hk : (Cond.classLink own ik cls).before args s = true) (hini : (Cond.initialized cls).before args s = true) (hat : ∀ w ∈ vx_at0 own ic cls names, w.before args s = true)
    (hgood : ∀ w ∈ Cond.classLink own ik cls :: Cond.initialized cls :: vx_at0 own ic cls names, vx_ot w = true)
    (hU : vx_Zq Bundle.tN "UNASSIGNED_STACK" Bundle.steD A s s.heap) (hN : vx_Zq Bundle.tN "SUPPRESSED_SENTINEL" Bundle.listD A s s.heap) (hS : va_S A s.heap H locs) (hsize : ls.size = c.maxLocals)
    (d0 : decode cc pc = .ok (.new ik, 3)) (d3 : decode cc (pc + 3) = .ok (.dup, 1)) (d4 : decode cc (pc + 4) = .ok (.invokespecial ic, 3)) (d7 : decode cc (pc + 7) = .ok (.athrow, 1))
    (hout : ∀ x ∈ c.exceptionTable.toList, covers x (pc + 7) = false)
    (hRframes : names.length + 3 < R.frames) (hRlocals : (rest.map fun v => v.category).sum + (13 * (names.length + 1) + 42) ≤ R.locals) (hRcells : cells + 1 ≤ R.cells) (hRslots : slots + 6 ≤ R.slots) (hlocks : meth.locks = false)
    (hx : ∀ t : State, s.vm.Alike t.vm → H.size ≤ t.heap.size → (∀ q : Nat, q < H.size → t.heap[q]? = H[q]?) → XC cls s t)
    (hf : ∀ z ∈ locs, free z.base) (hc : cells + 1 ≤ mc) (hs : slots + 6 ≤ ms) :
    W p l e R s m args below meth c H locs cells slots (vx_MQ below Qc XC args s mc ms free) (F0 m pc ls rest) := by
  intro T hT X
  have htr : e.platform.stackTraces = false := (show e.platform.stackTraces = l.stackTraces by rw [X.admits.platform]).trans hl
  have Y := vx_rebase X (R' := { frames := R.frames, locals := R.locals, cells := 1, slots := 6 }) (Nat.le_refl _) (Nat.le_refl _) hRcells hRslots
  obtain ⟨s', hA⟩ : ∃ z, z = (T.setVm s.vm).setFrames (.invoking m args :: below) := ⟨_, rfl⟩
  rw [← hA] at Y
  have hvm : s'.vm = s.vm := by rw [hA]; rfl
  have hhp : s'.heap = H := by rw [hA]; exact hT
  have hW0 : s.WarmedH s'.vm := by rw [hvm]; exact State.WarmedH.refl s
  have hat' : ∀ w ∈ vx_at0 own ic cls names, w.before args s' = true := fun w hw => vx_ot_at hW0 hvm.symm (hgood w (List.mem_cons_of_mem _ (List.mem_cons_of_mem _ hw))) (hat w hw)
  have hk' : (Cond.classLink own ik cls).before args s' = true := vx_ot_at hW0 hvm.symm (hgood _ List.mem_cons_self) hk
  have hini' : (Cond.initialized cls).before args s' = true := vx_ot_at hW0 hvm.symm (hgood _ (List.mem_cons_of_mem _ List.mem_cons_self)) hini
  have hU' : vx_Zq Bundle.tN "UNASSIGNED_STACK" Bundle.steD A s' s'.heap := by rw [hhp]; exact vx_Zq.moved hW0.alike (hU.kept hS.2.1)
  have hN' : vx_Zq Bundle.tN "SUPPRESSED_SENTINEL" Bundle.listD A s' s'.heap := by rw [hhp]; exact vx_Zq.moved hW0.alike (hN.kept hS.2.1)
  have h : ∀ w ∈ Bundle.ownAtoms0 own ic cls names, w.before args s' = true := vx_own hat' (vx_isRefq hU'.1) (vx_isRefq hN'.1) hU'.2.word hN'.2.word
  have hown' : s'.vm.findClass own = some m.cls := by rw [hvm]; exact hown
  have hins : (Cond.instantiable cls 6).before args s' = true := h _ (by simp [Bundle.ownAtoms0])
  obtain ⟨vm₁, cX, kX, hfX, hkX, -, -, X₁, st1⟩ := Y.newCold hexec (own := own) (C := cls) (index := ik) (n := 6) hown' hk' hins hini'
    (g := F0 m pc ls rest) rfl (by rw [hb]; exact d0) (Nat.le_refl _) (Nat.le_refl _)
  generalize hT1 : (T.setVm vm₁).pushCell { cls := cX, slots := kX.instanceTypes.map defaultValue, vm := .none } = T1 at X₁ st1
  have hcat : (Value.ref T.heap.size).category = 1 := rfl
  have hcellA : T1.heap[T.heap.size]? = some (freshCell cX kX) := by rw [← hT1]; exact State.heap_pushCell_size _ _
  have d3' : decode c.code (pc + 3) = .ok (.dup, 1) := by rw [hb]; exact d3
  obtain ⟨U, hsteps, hrun, hend, hW, hsame, ce, hce, hO⟩ := X₁.ctorThrow0 hexec htr (own := own) (cls := cls) (names := names) (ic := ic) hown' hcls hnames h (fun x hx => nomatch hx) hfX hkX hcellA (by rw [hhp, hT]; exact Nat.le_refl _)
    (g := { method := m, pc := pc + 4, locals := ls, stack := .ref T.heap.size :: .ref T.heap.size :: rest, locked := none }) rfl hsize rfl rfl (rest := rest) rfl
    (by rw [hb]; exact d4) (by rw [hb]; exact d7) hout hRframes (by simp only [List.map_cons, List.sum_cons, hcat]; omega) hlocks
  obtain ⟨f1, f2⟩ := vx_frame hsame
  rw [hhp] at f1 f2
  have hWs : s.WarmedH U.vm := State.WarmedH.trans hW0 hW
  have hcl : s.vm.findClass cls = some ce.cls := by
    have h9 := hO.cls
    rw [hvm] at h9
    exact h9
  have hall : s.sameButNew ({ U with vm := s.vm } : State) locs mc ms := by
    subst hA
    obtain ⟨e1, e2⟩ := hsame
    rw [State.setFrames_setFrames] at e1
    have h2 : (T.setVm s.vm).sameButNew ({ U with vm := s.vm } : State) [] (0 + 1) (0 + 6) := ⟨e1, e2⟩
    have h3 := X.same.trans h2
    rw [List.append_nil] at h3
    exact h3.mono hc hs
  refine ⟨U, ?_, .threw T.heap.size, hrun, hend, Or.inr ⟨T.heap.size, rfl, cls, ce, locs, hx U hWs.alike f1 (fun q hq => f2 q hq (fun z hz => nomatch hz)), hce, hO.vm, hcl, hWs, hall, hf⟩⟩
  refine st1 _ ?_
  show Steps p.tables e below (T1.setTop { method := m, pc := pc + 3, locals := ls, stack := .ref T.heap.size :: rest, locked := none }) _
  jvm_step X₁.here [X₁.here.top, hexec, d3', Value.category]
  exact hsteps
/-- 'throw new E("text")': new; dup; ldc; invokespecial; athrow -/
theorem vx_throwS {cc : ByteArray} {pc : Nat} (hexec : p.tables.exec = Jvm.exec) (hb : c.code = cc) (hl : l.stackTraces = false) {own cls text : String} {names : List String} {ik is ic mc ms sa : Nat} {A : Nat → Prop}
    (hown : s.vm.findClass own = some m.cls) (hcls : Bundle.fit cls = true) (hnames : ∀ n ∈ names, Bundle.fit n = true)
    (hk : (Cond.classLink own ik cls).before args s = true) (hini : (Cond.initialized cls).before args s = true) (hstr : vk_R own is text sa s) (hat : ∀ w ∈ vx_atS own ic cls names, w.before args s = true)
    (hgood : ∀ w ∈ Cond.classLink own ik cls :: Cond.initialized cls :: vx_atS own ic cls names, vx_ot w = true)
    (hU : vx_Zq Bundle.tN "UNASSIGNED_STACK" Bundle.steD A s s.heap) (hN : vx_Zq Bundle.tN "SUPPRESSED_SENTINEL" Bundle.listD A s s.heap) (hS : va_S A s.heap H locs) (hsize : ls.size = c.maxLocals)
    (d0 : decode cc pc = .ok (.new ik, 3)) (d3 : decode cc (pc + 3) = .ok (.dup, 1)) (d4 : decode cc (pc + 4) = .ok (.ldc is, 2)) (d6 : decode cc (pc + 6) = .ok (.invokespecial ic, 3)) (d9 : decode cc (pc + 9) = .ok (.athrow, 1))
    (hout : ∀ x ∈ c.exceptionTable.toList, covers x (pc + 9) = false)
    (hRframes : names.length + 3 < R.frames) (hRlocals : (rest.map fun v => v.category).sum + (13 * (names.length + 1) + 43) ≤ R.locals) (hRcells : cells + 1 ≤ R.cells) (hRslots : slots + 6 ≤ R.slots) (hlocks : meth.locks = false)
    (hx : ∀ t : State, s.vm.Alike t.vm → H.size ≤ t.heap.size → (∀ q : Nat, q < H.size → t.heap[q]? = H[q]?) → XC cls s t)
    (hf : ∀ z ∈ locs, free z.base) (hc : cells + 1 ≤ mc) (hs : slots + 6 ≤ ms) :
    W p l e R s m args below meth c H locs cells slots (vx_MQ below Qc XC args s mc ms free) (F0 m pc ls rest) := by
  intro T hT X
  have htr : e.platform.stackTraces = false := (show e.platform.stackTraces = l.stackTraces by rw [X.admits.platform]).trans hl
  have Y := vx_rebase X (R' := { frames := R.frames, locals := R.locals, cells := 1, slots := 6 }) (Nat.le_refl _) (Nat.le_refl _) hRcells hRslots
  obtain ⟨s', hA⟩ : ∃ z, z = (T.setVm s.vm).setFrames (.invoking m args :: below) := ⟨_, rfl⟩
  rw [← hA] at Y
  have hvm : s'.vm = s.vm := by rw [hA]; rfl
  have hhp : s'.heap = H := by rw [hA]; exact hT
  have hW0 : s.WarmedH s'.vm := by rw [hvm]; exact State.WarmedH.refl s
  have hat' : ∀ w ∈ vx_atS own ic cls names, w.before args s' = true := fun w hw => vx_ot_at hW0 hvm.symm (hgood w (List.mem_cons_of_mem _ (List.mem_cons_of_mem _ hw))) (hat w hw)
  have hk' : (Cond.classLink own ik cls).before args s' = true := vx_ot_at hW0 hvm.symm (hgood _ List.mem_cons_self) hk
  have hini' : (Cond.initialized cls).before args s' = true := vx_ot_at hW0 hvm.symm (hgood _ (List.mem_cons_of_mem _ List.mem_cons_self)) hini
  have hU' : vx_Zq Bundle.tN "UNASSIGNED_STACK" Bundle.steD A s' s'.heap := by rw [hhp]; exact vx_Zq.moved hW0.alike (hU.kept hS.2.1)
  have hN' : vx_Zq Bundle.tN "SUPPRESSED_SENTINEL" Bundle.listD A s' s'.heap := by rw [hhp]; exact vx_Zq.moved hW0.alike (hN.kept hS.2.1)
  have h : ∀ w ∈ Bundle.ownAtoms own ic cls names, w.before args s' = true := vx_own hat' (vx_isRefq hU'.1) (vx_isRefq hN'.1) hU'.2.word hN'.2.word
  have hown' : s'.vm.findClass own = some m.cls := by rw [hvm]; exact hown
  have hins : (Cond.instantiable cls 6).before args s' = true := h _ (by simp [Bundle.ownAtoms])
  obtain ⟨vm₁, cX, kX, hfX, hkX, -, -, X₁, st1⟩ := Y.newCold hexec (own := own) (C := cls) (index := ik) (n := 6) hown' hk' hins hini'
    (g := F0 m pc ls rest) rfl (by rw [hb]; exact d0) (Nat.le_refl _) (Nat.le_refl _)
  generalize hT1 : (T.setVm vm₁).pushCell { cls := cX, slots := kX.instanceTypes.map defaultValue, vm := .none } = T1 at X₁ st1
  have hcat : (Value.ref T.heap.size).category = 1 := rfl
  have hcellA : T1.heap[T.heap.size]? = some (freshCell cX kX) := by rw [← hT1]; exact State.heap_pushCell_size _ _
  have d3' : decode c.code (pc + 3) = .ok (.dup, 1) := by rw [hb]; exact d3
  have d4' : decode c.code (pc + 4) = .ok (.ldc is, 2) := by rw [hb]; exact d4
  have hstr' : vk_R own is text sa s' := vk_R.warm hW0 hstr
  obtain ⟨U, hsteps, hrun, hend, hW, hsame, ce, hce, hO⟩ := X₁.ctorThrowS hexec htr (own := own) (cls := cls) (names := names) (ic := ic) hown' hcls hnames h (fun x hx => nomatch hx) hfX hkX hcellA (by rw [hhp, hT]; exact Nat.le_refl _) (msg := .ref sa) rfl
    (g := { method := m, pc := pc + 6, locals := ls, stack := .ref sa :: .ref T.heap.size :: .ref T.heap.size :: rest, locked := none }) rfl hsize rfl rfl (rest := rest) rfl
    (by rw [hb]; exact d6) (by rw [hb]; exact d9) hout hRframes (by simp only [List.map_cons, List.sum_cons, hcat]; omega) hlocks
  obtain ⟨f1, f2⟩ := vx_frame hsame
  rw [hhp] at f1 f2
  have hWs : s.WarmedH U.vm := State.WarmedH.trans hW0 hW
  have hcl : s.vm.findClass cls = some ce.cls := by
    have h9 := hO.cls
    rw [hvm] at h9
    exact h9
  have hall : s.sameButNew ({ U with vm := s.vm } : State) locs mc ms := by
    subst hA
    obtain ⟨e1, e2⟩ := hsame
    rw [State.setFrames_setFrames] at e1
    have h2 : (T.setVm s.vm).sameButNew ({ U with vm := s.vm } : State) [] (0 + 1) (0 + 6) := ⟨e1, e2⟩
    have h3 := X.same.trans h2
    rw [List.append_nil] at h3
    exact h3.mono hc hs
  refine ⟨U, ?_, .threw T.heap.size, hrun, hend, Or.inr ⟨T.heap.size, rfl, cls, ce, locs, hx U hWs.alike f1 (fun q hq => f2 q hq (fun z hz => nomatch hz)), hce, hO.vm, hcl, hWs, hall, hf⟩⟩
  refine st1 _ ?_
  show Steps p.tables e below (T1.setTop { method := m, pc := pc + 3, locals := ls, stack := .ref T.heap.size :: rest, locked := none }) _
  jvm_step X₁.here [X₁.here.top, hexec, d3', Value.category]
  exact X₁.ldcString hexec (own := own) (text := text) (index := is) (a := sa) hown' hstr'.1 hstr'.2
    (g := { method := m, pc := pc + 4, locals := ls, stack := .ref T.heap.size :: .ref T.heap.size :: rest, locked := none }) rfl d4' _ hsteps
/-- 'throw new E("text")', the text by a wide index -/
theorem vx_throwSW {cc : ByteArray} {pc : Nat} (hexec : p.tables.exec = Jvm.exec) (hb : c.code = cc) (hl : l.stackTraces = false) {own cls text : String} {names : List String} {ik is ic mc ms sa : Nat} {A : Nat → Prop}
    (hown : s.vm.findClass own = some m.cls) (hcls : Bundle.fit cls = true) (hnames : ∀ n ∈ names, Bundle.fit n = true)
    (hk : (Cond.classLink own ik cls).before args s = true) (hini : (Cond.initialized cls).before args s = true) (hstr : vk_R own is text sa s) (hat : ∀ w ∈ vx_atS own ic cls names, w.before args s = true)
    (hgood : ∀ w ∈ Cond.classLink own ik cls :: Cond.initialized cls :: vx_atS own ic cls names, vx_ot w = true)
    (hU : vx_Zq Bundle.tN "UNASSIGNED_STACK" Bundle.steD A s s.heap) (hN : vx_Zq Bundle.tN "SUPPRESSED_SENTINEL" Bundle.listD A s s.heap) (hS : va_S A s.heap H locs) (hsize : ls.size = c.maxLocals)
    (d0 : decode cc pc = .ok (.new ik, 3)) (d3 : decode cc (pc + 3) = .ok (.dup, 1)) (d4 : decode cc (pc + 4) = .ok (.ldc_w is, 3)) (d7 : decode cc (pc + 7) = .ok (.invokespecial ic, 3)) (d10 : decode cc (pc + 10) = .ok (.athrow, 1))
    (hout : ∀ x ∈ c.exceptionTable.toList, covers x (pc + 10) = false)
    (hRframes : names.length + 3 < R.frames) (hRlocals : (rest.map fun v => v.category).sum + (13 * (names.length + 1) + 43) ≤ R.locals) (hRcells : cells + 1 ≤ R.cells) (hRslots : slots + 6 ≤ R.slots) (hlocks : meth.locks = false)
    (hx : ∀ t : State, s.vm.Alike t.vm → H.size ≤ t.heap.size → (∀ q : Nat, q < H.size → t.heap[q]? = H[q]?) → XC cls s t)
    (hf : ∀ z ∈ locs, free z.base) (hc : cells + 1 ≤ mc) (hs : slots + 6 ≤ ms) :
    W p l e R s m args below meth c H locs cells slots (vx_MQ below Qc XC args s mc ms free) (F0 m pc ls rest) := by
  intro T hT X
  have htr : e.platform.stackTraces = false := (show e.platform.stackTraces = l.stackTraces by rw [X.admits.platform]).trans hl
  have Y := vx_rebase X (R' := { frames := R.frames, locals := R.locals, cells := 1, slots := 6 }) (Nat.le_refl _) (Nat.le_refl _) hRcells hRslots
  obtain ⟨s', hA⟩ : ∃ z, z = (T.setVm s.vm).setFrames (.invoking m args :: below) := ⟨_, rfl⟩
  rw [← hA] at Y
  have hvm : s'.vm = s.vm := by rw [hA]; rfl
  have hhp : s'.heap = H := by rw [hA]; exact hT
  have hW0 : s.WarmedH s'.vm := by rw [hvm]; exact State.WarmedH.refl s
  have hat' : ∀ w ∈ vx_atS own ic cls names, w.before args s' = true := fun w hw => vx_ot_at hW0 hvm.symm (hgood w (List.mem_cons_of_mem _ (List.mem_cons_of_mem _ hw))) (hat w hw)
  have hk' : (Cond.classLink own ik cls).before args s' = true := vx_ot_at hW0 hvm.symm (hgood _ List.mem_cons_self) hk
  have hini' : (Cond.initialized cls).before args s' = true := vx_ot_at hW0 hvm.symm (hgood _ (List.mem_cons_of_mem _ List.mem_cons_self)) hini
  have hU' : vx_Zq Bundle.tN "UNASSIGNED_STACK" Bundle.steD A s' s'.heap := by rw [hhp]; exact vx_Zq.moved hW0.alike (hU.kept hS.2.1)
  have hN' : vx_Zq Bundle.tN "SUPPRESSED_SENTINEL" Bundle.listD A s' s'.heap := by rw [hhp]; exact vx_Zq.moved hW0.alike (hN.kept hS.2.1)
  have h : ∀ w ∈ Bundle.ownAtoms own ic cls names, w.before args s' = true := vx_own hat' (vx_isRefq hU'.1) (vx_isRefq hN'.1) hU'.2.word hN'.2.word
  have hown' : s'.vm.findClass own = some m.cls := by rw [hvm]; exact hown
  have hins : (Cond.instantiable cls 6).before args s' = true := h _ (by simp [Bundle.ownAtoms])
  obtain ⟨vm₁, cX, kX, hfX, hkX, -, -, X₁, st1⟩ := Y.newCold hexec (own := own) (C := cls) (index := ik) (n := 6) hown' hk' hins hini'
    (g := F0 m pc ls rest) rfl (by rw [hb]; exact d0) (Nat.le_refl _) (Nat.le_refl _)
  generalize hT1 : (T.setVm vm₁).pushCell { cls := cX, slots := kX.instanceTypes.map defaultValue, vm := .none } = T1 at X₁ st1
  have hcat : (Value.ref T.heap.size).category = 1 := rfl
  have hcellA : T1.heap[T.heap.size]? = some (freshCell cX kX) := by rw [← hT1]; exact State.heap_pushCell_size _ _
  have d3' : decode c.code (pc + 3) = .ok (.dup, 1) := by rw [hb]; exact d3
  have d4' : decode c.code (pc + 4) = .ok (.ldc_w is, 3) := by rw [hb]; exact d4
  have hstr' : vk_R own is text sa s' := vk_R.warm hW0 hstr
  obtain ⟨U, hsteps, hrun, hend, hW, hsame, ce, hce, hO⟩ := X₁.ctorThrowS hexec htr (own := own) (cls := cls) (names := names) (ic := ic) hown' hcls hnames h (fun x hx => nomatch hx) hfX hkX hcellA (by rw [hhp, hT]; exact Nat.le_refl _) (msg := .ref sa) rfl
    (g := { method := m, pc := pc + 7, locals := ls, stack := .ref sa :: .ref T.heap.size :: .ref T.heap.size :: rest, locked := none }) rfl hsize rfl rfl (rest := rest) rfl
    (by rw [hb]; exact d7) (by rw [hb]; exact d10) hout hRframes (by simp only [List.map_cons, List.sum_cons, hcat]; omega) hlocks
  obtain ⟨f1, f2⟩ := vx_frame hsame
  rw [hhp] at f1 f2
  have hWs : s.WarmedH U.vm := State.WarmedH.trans hW0 hW
  have hcl : s.vm.findClass cls = some ce.cls := by
    have h9 := hO.cls
    rw [hvm] at h9
    exact h9
  have hall : s.sameButNew ({ U with vm := s.vm } : State) locs mc ms := by
    subst hA
    obtain ⟨e1, e2⟩ := hsame
    rw [State.setFrames_setFrames] at e1
    have h2 : (T.setVm s.vm).sameButNew ({ U with vm := s.vm } : State) [] (0 + 1) (0 + 6) := ⟨e1, e2⟩
    have h3 := X.same.trans h2
    rw [List.append_nil] at h3
    exact h3.mono hc hs
  refine ⟨U, ?_, .threw T.heap.size, hrun, hend, Or.inr ⟨T.heap.size, rfl, cls, ce, locs, hx U hWs.alike f1 (fun q hq => f2 q hq (fun z hz => nomatch hz)), hce, hO.vm, hcl, hWs, hall, hf⟩⟩
  refine st1 _ ?_
  show Steps p.tables e below (T1.setTop { method := m, pc := pc + 3, locals := ls, stack := .ref T.heap.size :: rest, locked := none }) _
  jvm_step X₁.here [X₁.here.top, hexec, d3', Value.category]
  exact X₁.ldcStringW hexec (own := own) (text := text) (index := is) (a := sa) hown' hstr'.1 hstr'.2
    (g := { method := m, pc := pc + 4, locals := ls, stack := .ref T.heap.size :: .ref T.heap.size :: rest, locked := none }) rfl d4' _ hsteps
end Ends
section Bodies
variable {l : Launch}
theorem vx_ofW {y : MethodName} {ws ws' : List Cond} {rm : Room} {Pc : Array Value → State → Prop} {Qc : Array Value → State → Outcome → State → Prop} {XC : String → State → State → Prop} {mc ms : Nat} {free : Addr → Prop} {cc : ByteArray} {maxL : Nat} {ret : Option FieldType}
    (hy : plainName y.cls = true) (hw : ws = Cond.code y cc maxL ret :: ws')
    (body : ∀ p e s m args below meth c s₁, BodyLoose p l y (headSpec ws rm) cc maxL ret e s m args below meth c s₁ → c.maxLocals = maxL → (∀ x ∈ c.exceptionTable.toList, False) → Pc args s →
      W p l e (headSpec ws rm).room s m args below meth c s.heap [] 0 0 (vx_MQ below Qc XC args s mc ms free) (entryFrame m args maxL)) : vx_Met l y ws rm Pc Qc XC mc ms free := by
  refine MetFree.of_bodyS (code := cc) (maxLocals := maxL) (ret := ret) hy ?_ ?_
  · intro args s m h hn
    obtain ⟨meth, c, h1, h2, h3, h4, h5, h6, -, -⟩ := Cond.code_spec hn (atoms_spec (ws := ws) h _ (by rw [hw]; exact List.mem_cons_self))
    exact ⟨meth, c, h1, h2, h3, h4, h5, h6⟩
  · intro p e s m args below meth c s₁ B hml hP _
    have hh0 : s₁.heap = s.heap := by rw [B.state]; rfl
    have ht : ∀ x ∈ c.exceptionTable.toList, False := by
      obtain ⟨meth9, c9, h1, h2, -, -, -, -, h7, -⟩ := Cond.code_spec B.named (atoms_spec (ws := ws) B.pre _ (by rw [hw]; exact List.mem_cons_self))
      cases Option.some.inj (h1.symm.trans B.method)
      cases Option.some.inj (h2.symm.trans (Stand.of_body B).code)
      intro x hx
      rw [Array.isEmpty_iff.mp h7] at hx
      cases hx
    obtain ⟨t, a1, o, b1, b2, b3⟩ := body p e s m args below meth c s₁ B hml ht hP s₁ hh0 (Stand.of_body B)
    exact ⟨t, o, a1, b1, b2, b3⟩
/-- the table of a body with handlers -/
theorem vx_table {p : Program} {x y : MethodName} {S : Spec} {cc bytes : ByteArray} {maxL maxL' : Nat} {ret ret' : Option FieldType} {e : Env} {s s₁ : State} {m : MethodId} {args : Array Value} {below : List Frame} {meth : Method} {c : Code} {hh : List (Nat × Nat × Nat × Nat)}
    (B : BodyLoose p l y S cc maxL ret e s m args below meth c s₁) (h : (Cond.codeWith y bytes maxL' ret' hh).before args s = true) : c.exceptionTable.toList = tableOf hh := by
  obtain ⟨m9, meth9, c9, hn9, h1, h2, -, -, h6, -⟩ := Cond.codeWith_spec h
  cases Option.some.inj (hn9.symm.trans B.named)
  cases Option.some.inj (h1.symm.trans B.method)
  cases Option.some.inj (h2.symm.trans (Stand.of_body B).code)
  rw [← h6, table_eq]
end Bodies
end VXA
/-! ===== END ===== -/
/-! ===== BEGIN a static call of a method with an exception table ===== -/
section VXS
variable {p : Program} {l : Launch} {e : Env} {R : Room} {s : State} {m : MethodId} {args : Array Value} {below : List Frame} {meth : Method} {c : Code} {T : State} {H : Heap} {locs : List Loc} {cells slots : Nat}
abbrev vx_CSW (R : Room) (s : State) (args : Array Value) (own : String) (index : Nat) (y : MethodName) (bytes : ByteArray) (maxL : Nat) (ret : Option FieldType) (hh : List (Nat × Nat × Nat × Nat)) (ws : List Cond) (rm : Room) (mc ms n : Nat) : Prop :=
  (rm.cells = mc ∧ rm.slots = ms ∧ rm.frames + 1 ≤ R.frames ∧ 8 + (maxL + 11) + rm.locals ≤ R.locals ∧ (∀ w ∈ ws, ∀ (a' : Array Value) (U : State), s.WarmedH U.vm → w.before a' U = true) ∧ Cond.codeWith y bytes maxL ret hh ∈ ws) ∧
  (Cond.codeWith y bytes maxL ret hh).before args s = true ∧ (Cond.initialized y.cls).before args s = true ∧ (y.cls ≠ "java/lang/invoke/MethodHandle" ∧ y.cls ≠ "java/lang/invoke/VarHandle") ∧
  (∀ sig, parseMethodDescriptor y.desc = some sig → n = sig.parameters.length) ∧ (Cond.methodLink own index y).before args s = true ∧ (Cond.static y).before args s = true
theorem vx_cwSW {own : String} {index maxL mc ms : Nat} {y : MethodName} {bytes : ByteArray} {ret : Option FieldType} {hh : List (Nat × Nat × Nat × Nat)} {Ts ws ws' : List Cond} {rm : Room} (n : Nat) (ht : ∀ w ∈ Ts, w.before args s = true) (hT : GoodIn Ts (va_wsS own index y ws)) (hw : ws = Cond.codeWith y bytes maxL ret hh :: ws') (hrc : rm.cells = mc) (hrs : rm.slots = ms)
    (hd : y.cls ≠ "java/lang/invoke/MethodHandle" ∧ y.cls ≠ "java/lang/invoke/VarHandle" ∧ (parseMethodDescriptor y.desc).map (fun d => d.parameters.length) = some n) (hR : rm.frames + 1 ≤ R.frames ∧ 8 + (maxL + 11) + rm.locals ≤ R.locals) :
    vx_CSW R s args own index y bytes maxL ret hh ws rm mc ms n := by
  have ok : ∀ w ∈ va_wsS own index y ws, w.before args s = true := fun w h => ht w (hT w h).1
  have hG : GoodIn Ts ws := fun w h => hT w (by unfold va_wsS; exact List.mem_append_right _ h)
  have hc : Cond.codeWith y bytes maxL ret hh ∈ ws := by rw [hw]; exact List.mem_cons_self
  refine ⟨⟨hrc, hrs, hR.1, hR.2, pay_in ht hG, hc⟩, ht _ (hG _ hc).1, ok _ (by simp [va_wsS]), ⟨hd.1, hd.2.1⟩, fun sig h => ?_, ok _ (by simp [va_wsS]), ok _ (by simp [va_wsS])⟩
  have h2 := hd.2.2
  rw [h] at h2
  exact (Option.some.inj h2).symm
theorem vx_callSW (X : Stand p l e R s m args below meth c T locs cells slots) (hexec : p.tables.exec = Jvm.exec) {own : String} {index : Nat} {y : MethodName} {bytes : ByteArray} {maxL : Nat} {ret : Option FieldType} {hh : List (Nat × Nat × Nat × Nat)}
    (hown : s.vm.findClass own = some m.cls) (hlink : (Cond.methodLink own index y).before args s = true) (hstat : (Cond.static y).before args s = true) (hinit : (Cond.initialized y.cls).before args s = true)
    (hcode : (Cond.codeWith y bytes maxL ret hh).before args s = true) (hy : y.cls ≠ "java/lang/invoke/MethodHandle" ∧ y.cls ≠ "java/lang/invoke/VarHandle")
    {W9 : Nat} {Pre : Pt → Array Value → Prop} {Post : Pt → Array Value → Option Value → Pt → Prop} (hK : Back l R p e below s args y 3 W9 Pre Post)
    {g : JFrame} (hg : g.method = m) (hsize : g.locals.size = c.maxLocals) {argsL rest : List Value} (hlen : ∀ sig, parseMethodDescriptor y.desc = some sig → argsL.length = sig.parameters.length)
    (hstack : g.stack = argsL.reverse ++ rest) (hW : 2 * g.monitorRoom + (rest.map fun v => v.category).sum ≤ W9) (hdg : decode c.code g.pc = .ok (.invokestatic index, 3))
    (hpre : ∀ vm₁, s.WarmedH vm₁ → Pre ⟨T.setVm vm₁, locs, cells, slots⟩ argsL.toArray) :
    ∃ (v : Option Value) (vm₁ : Vm) (B : Pt), s.WarmedH vm₁ ∧ Stand p l e R s m args below meth c B.U B.locs B.cells B.slots ∧ Post ⟨T.setVm vm₁, locs, cells, slots⟩ argsL.toArray v B ∧
      ∀ target, Steps p.tables e below (B.U.setTop { g with pc := g.pc + 3, stack := v.toList ++ rest }) target → Steps p.tables e below (T.setTop g) target := by
  obtain ⟨mk, methM, cM, hnamed, hmethM, -, -, -, -, -, -, hsigM⟩ := Cond.codeWith_spec hcode
  have hstatic : methM.isStatic = true := Cond.static_spec hnamed hmethM hstat
  obtain ⟨kP, hkP, -⟩ := className_of_methodNamed hnamed
  have hinitP : kP.init = .initialized := Cond.initialized_spec (findClass_of_methodNamed hnamed) hkP hinit
  obtain ⟨vm₁, X₁, hstep₁⟩ := X.invokestatic hexec hown hlink hnamed hmethM hstatic hkP hinitP hy (g := g) hg (argsL := argsL) (rest := rest) (hlen _ hsigM) hstack hdg
  obtain ⟨v, B, X', hpost, hsteps⟩ := hK m meth c ⟨T.setVm vm₁, locs, cells, slots⟩ { g with stack := rest } (.invokestatic index) mk argsL.toArray X₁ hg hsize hdg hW (X₁.named hnamed) (hpre vm₁ X₁.warmed)
  exact ⟨v, vm₁, B, X₁.warmed, X', hpost, fun target h => hstep₁ _ fun acts => by rw [doInvoke_state]; exact hsteps.trans h⟩
theorem vx_runSW {y : MethodName} {bytes cc : ByteArray} {maxL nL mc ms n index : Nat} {ret : Option FieldType} {hh : List (Nat × Nat × Nat × Nat)} {ws : List Cond} {rm : Room} {Pc : Array Value → State → Prop} {Qc : Array Value → State → Outcome → State → Prop} {free : Addr → Prop} {Ts : List Cond} {own : String} {As rest : List Value} {g : JFrame}
    (S : CallFix p m c cc nL s args Ts own) (hM : Met l y ws rm Pc Qc mc ms free) (cw : vx_CSW R s args own index y bytes maxL ret hh ws rm mc ms n) (hp : PreS s H Pc As)
    (hg : g.method = m) (hn : As.length = n) (hsize : g.locals.size = nL) (hstack : g.stack = As.reverse ++ rest) (hW : 2 * g.monitorRoom + (rest.map fun v => v.category).sum ≤ 8) (hdg : decode cc g.pc = .ok (.invokestatic index, 3)) (hf : cells + mc ≤ R.cells ∧ slots + ms ≤ R.slots) :
    va_Run p l e R s m args below meth c H locs cells slots mc ms g rest (Qc As.toArray) (free) := by
  obtain ⟨⟨hrc, hrs, hfr, hlo, hws, hcw⟩, hcode, hini, hy, hlen, hl, hstt⟩ := cw
  have hK : Back l R p e below s args y 3 8 (PreOf R mc ms Pc) (PostOf Qc mc ms free) := va_backW (hh := hh) (bytes := bytes) (maxL := maxL) (ret := ret) hM hp.1 hrc hrs hfr hlo hws hcw (fun a' U hW => word_at hW (Or.inl (by first | rfl | simp [Cond.onTables, Cond.keeps, Cond.steady])) hini)
  obtain ⟨hx, hb, hml, ho, -⟩ := S
  intro T hT X
  obtain ⟨v, vm₁, ⟨U', l2, c2, s2⟩, hW₁, X', ⟨g', mk, t, L, e1, e2, hq, h1, hL, h2, h3⟩, st⟩ := vx_callSW X hx (hh := hh) (bytes := bytes) (maxL := maxL) (ret := ret) ho hl hstt hini hcode hy hK hg (hsize.trans hml.symm) (argsL := As) (rest := rest) (fun sig h => hn.trans (hlen sig h)) hstack hW (by rw [hb]; exact hdg)
    (fun vm₁ hW₁ => ⟨hf.1, hf.2, hp.2 (T.setVm vm₁) hT hW₁⟩)
  dsimp only [Pt.U, Pt.locs, Pt.cells, Pt.slots] at X' e1 e2 h1 h2 h3 st
  subst h1; subst h2; subst h3
  exact ⟨v, (T.setVm vm₁).calling g' mk As.toArray, t, U', L, hT, X', hL, e1, e2, hq, st⟩
/-- not caught here, past rows that name other classes: it goes on to the caller -/
theorem vx_outP {p : Program} {l : Launch} {e : Env} {R : Room} {s : State} {m : MethodId} {args : Array Value} {below : List Frame} {meth : Method} {c : Code} {H : Heap} {locs : List Loc} {cells slots : Nat} {free : Addr → Prop} {ls : Array Slot} {rest : List Value} {Qc : Array Value → State → Outcome → State → Prop} {XC : String → State → State → Prop}
    {pc : Nat} {own E : String} {ce : Cell} {q : Addr} {mc ms : Nat} (hown : s.vm.findClass own = some m.cls) (hlocks : meth.locks = false)
    (hpass : ∀ z ∈ c.exceptionTable.toList, covers z pc = false ∨ (z.catchType ≠ 0 ∧ ∃ nm : String, (Cond.classLink own z.catchType nm).before args s = true ∧ va_Nc E nm s)) (hcell : H[q]? = some ce) (hv : ce.vm = .none) (hcl : s.vm.findClass E = some ce.cls)
    (hx : ∀ t : State, t.heap = H → s.vm.Alike t.vm → XC E s t) (hf : ∀ z ∈ locs, free z.base) (hc : cells ≤ mc) (hs : slots ≤ ms) :
    vx_W p l e R s m args below meth c H locs cells slots (vx_MQ below Qc XC args s mc ms free) (F0 m pc ls rest) q := by
  intro T hT X
  have hpl : e.platform.magicAccessors = ({} : Platform).magicAccessors := by rw [X.admits.platform]
  obtain ⟨vm', hW', X', st⟩ := X.outThrough hlocks q (g := F0 m pc ls rest) rfl rfl rfl (cell := ce) (by rw [hT]; exact hcell) (by rw [hv]; rfl)
    (by obtain ⟨k9, h9, -⟩ := Vm.findClass_spec hcl; exact ⟨k9, h9⟩) (fun z hz => by
      rcases hpass z hz with h | ⟨hz0, nm, hl1, hn1⟩
      · exact Or.inl h
      · obtain ⟨c6, hc6, hcl6⟩ := Cond.classLink_spec hown hl1 e.platform hpl
        obtain ⟨a8, b8, h1, h2, h3⟩ := hn1
        cases Option.some.inj (h1.symm.trans hcl)
        cases Option.some.inj (h2.symm.trans hc6)
        exact Or.inr ⟨hz0, _, hcl6, h3⟩)
  obtain ⟨g₀, hfr⟩ := X'.frames_eq
  have hcell9 : ((T.setVm vm').setFrames (.throwing q :: below)).heap[q]? = some ce := by
    show T.heap[q]? = some ce
    rw [hT]; exact hcell
  have hend : Ended ((T.setVm vm').setFrames (.throwing q :: below)) below (.threw q) := State.frames_setFrames _ (State.cur_lt_of_frames hfr)
  refine ⟨(T.setVm vm').setFrames (.throwing q :: below), ?_, .threw q, X'.here.running, hend, Or.inr ⟨q, rfl, E, ce, locs, hx _ hT (X'.ends _).1.alike, hcell9, hv, hcl, (X'.ends _).1, (X'.ends _).2.mono hc hs, hf⟩⟩
  rw [X.pushThrowing_eq]
  exact st
/-- a thing of a world lies in the heap -/
theorem vx_lt {D : va_G} {cl : List vw_C} {ws : va_W} {H1 : Heap} (h : va_P D cl ws H1) {k : Nat} {q : Nat × va_E} (hk : ws[k]? = some q) : q.1 < H1.size := (h k q hk).lt
end VXS
/-! ===== END ===== -/
/-! ===== BEGIN methods with a table of their own: called by a name, returning or throwing ===== -/
section VXH
/-! vx_backW, vx_callVX, vx_callSX, vx_callVW, vx_runVW, vx_runVX, vx_runSX, vx_ofWH follow the same proofs as their sisters above (Free/Laws.lean, Shelf42/LK1.lean); vx_outP calls Shelf42/NT130.lean (outThrough). -/
section
variable {l : Launch} {R : Room} {p : Program} {e : Env} {below : List Frame} {s : State} {sargs : Array Value} {y : MethodName} {len W9 : Nat}
theorem vx_backW {ws : List Cond} {rm : Room} {Pc : Array Value → State → Prop} {Qc : Array Value → State → Outcome → State → Prop} {XC : String → State → State → Prop} {mc ms : Nat} {free : Addr → Prop} {bytes : ByteArray} {maxL : Nat} {ret : Option FieldType} {hh : List (Nat × Nat × Nat × Nat)}
    (hM : vx_Met l y ws rm Pc Qc XC mc ms free) (hblind : FrameBlind Pc) (hrc : rm.cells = mc) (hrs : rm.slots = ms)
    (hframes : rm.frames + 1 ≤ R.frames) (hlocals : W9 + (maxL + 11) + rm.locals ≤ R.locals)
    (hws : ∀ w ∈ ws, ∀ a' U, s.WarmedH U.vm → w.before a' U = true) (hcode : Cond.codeWith y bytes maxL ret hh ∈ ws) (hinit : ∀ a' U, s.WarmedH U.vm → (Cond.initialized y.cls).before a' U = true) :
    vx_Back l R p e below s sargs y len W9 (PreOf R mc ms Pc) (PostOf Qc mc ms free) (vx_Post XC mc ms free) := by
  intro m meth c A g ig mk a X hg hsize hdg hW hn hp
  have h1 : (headSpec ws rm).pre.before a A.U = true := atoms_intro fun w hw => hws w hw _ _ X.warmed
  have h2 : (Cond.codeWith y bytes maxL ret hh).before a A.U = true := hws _ hcode _ _ X.warmed
  have h3 : (Cond.initialized y.cls).before a A.U = true := hinit _ _ X.warmed
  have h4 : A.cells + (headSpec ws rm).room.cells ≤ R.cells := by rw [show (headSpec ws rm).room.cells = mc from hrc]; exact hp.1
  have h5 : A.slots + (headSpec ws rm).room.slots ≤ R.slots := by rw [show (headSpec ws rm).room.slots = ms from hrs]; exact hp.2.1
  have hPc : Pc a (A.U.calling g mk a) := hblind _ _ _ _ hp.2.2
  obtain ⟨U, Ls, c0, s0⟩ := A
  dsimp only [Pt.U, Pt.locs, Pt.cells, Pt.slots] at h1 h2 h3 h4 h5 X hn hPc ⊢
  obtain ⟨m9, methY, cY, hn9, hmY, hcY, -, hlY, -⟩ := Cond.codeWith_spec h2
  cases Option.some.inj (hn9.symm.trans hn)
  obtain ⟨kY, hkY, -⟩ := className_of_methodNamed hn
  have hinitY : kY.init = .initialized := Cond.initialized_spec (findClass_of_methodNamed hn) hkY h3
  have h : At U g.method c below := by rw [hg]; exact X.here
  have hlocals9 : W9 + (maxL + 11) + (headSpec ws rm).room.locals ≤ R.locals := hlocals
  have happ : (headSpec ws rm).appliesLoose y e.platform (U.calling g mk a) = true :=
    Spec.appliesLoose_calling (g := g) h hdg hn hkY hinitY
      (X.room_calling (g := g) (R' := (headSpec ws rm).room) hsize hmY hcY hframes (by rw [hlY]; omega) h4 h5) h1
  obtain ⟨mid, hmid⟩ := h.above
  have hfr : (U.setTop g).frames = (.java g :: mid) ++ below := by rw [State.frames_setTop' g h.top, hmid]; rfl
  obtain ⟨o, s₂, hsteps, -, hend, hq⟩ := Steps.callFree hM p X.admits X.cas X.clock (acts := []) hfr happ hPc trivial
  have hq' : vx_Q Qc XC mc ms free a (U.calling g mk a) o s₂ := hq
  rw [State.frames_setTop' g h.top] at hend
  obtain ⟨g₀, hg0⟩ := Option.isSome_iff_exists.mp h.top
  obtain ⟨r, hr⟩ := State.topJava?_eq_some.mp hg0
  have hr' : (({ U with heap := s₂.heap, slotsUsed := s₂.slotsUsed } : State).setVm s₂.vm).frames = .java g₀ :: r := hr
  rcases hq' with ⟨hqc, L, hfe, hL⟩ | ⟨q, rfl, E, ce, L, hx, hce, hcv, hcl, hW₂, hsm, hL⟩
  · obtain ⟨⟨v, rfl⟩, hW₂, e2, q2, q3, q4, q5, q6⟩ := id hfe
    have e3 : s₂ = ({ (U.calling g mk a).setFrames s₂.frames with heap := s₂.heap, slotsUsed := s₂.slotsUsed } : State).setVm s₂.vm := by
      have : s₂ = ({ s₂ with vm := (U.calling g mk a).vm } : State).setVm s₂.vm := rfl
      rw [e2] at this
      exact this
    obtain ⟨c₂, i₂, len₂, hc₂, hd₂, hf₂⟩ := hend
    have hW' : U.WarmedH s₂.vm := hW₂
    have hcc : c₂ = c := by
      have h1 : s₂.code? g.method = U.code? g.method := by
        rw [State.code?_eq, State.code?_eq, hW'.alike.method?]
      exact Option.some.inj (hc₂.symm.trans (h1.trans h.code))
    subst hcc
    have hlen : len₂ = len := by rw [hdg] at hd₂; cases hd₂; rfl
    subst hlen
    have hs₂ : s₂ = (({ U with heap := s₂.heap, slotsUsed := s₂.slotsUsed } : State).setVm s₂.vm).setTop { g with pc := g.pc + len₂, stack := v.toList ++ g.stack } := by
      refine e3.trans ?_
      rw [hf₂, State.calling_eq h.top, State.setFrames_setFrames, State.setTop_of_frames _ hr', hr]
      rfl
    have hsame : U.sameButNew ({ U with heap := s₂.heap, slotsUsed := s₂.slotsUsed } : State) L mc ms := by
      refine ⟨?_, q2, q3, q4, q5, q6⟩
      obtain ⟨t, ht, -⟩ := State.frames_cons hr
      show ({ U with heap := s₂.heap, slotsUsed := s₂.slotsUsed } : State) = { U.setFrames U.frames with heap := s₂.heap, slotsUsed := s₂.slotsUsed }
      rw [State.setFrames_self ht]
    subst hg
    refine Or.inl ⟨v, ⟨(({ U with heap := s₂.heap, slotsUsed := s₂.slotsUsed } : State).setVm s₂.vm), Ls ++ L, c0 + mc, s0 + ms⟩,
      ⟨X.admits, X.cas, X.clock, X.frames, X.room, X.hears, X.method, X.code, (X.here.setHeapUsed s₂.heap s₂.slotsUsed).setVm hW'.alike, X.tail, State.WarmedH.trans X.warmed hW', X.limits, X.bytes, X.same.trans (hsame.setVm s.vm)⟩,
      ⟨g, mk, s₂, L, rfl, rfl, hqc, rfl, hL, rfl, rfl⟩, ?_⟩
    show Steps p.tables e below _ ((({ U with heap := s₂.heap, slotsUsed := s₂.slotsUsed } : State).setVm s₂.vm).setTop { g with pc := g.pc + len₂, stack := v.toList ++ g.stack })
    rw [← hs₂]
    exact hsteps
  · obtain ⟨e2, q2, q3, q4, q5, q6⟩ := id hsm
    have e3 : s₂ = ({ (U.calling g mk a).setFrames s₂.frames with heap := s₂.heap, slotsUsed := s₂.slotsUsed } : State).setVm s₂.vm := by
      have : s₂ = ({ s₂ with vm := (U.calling g mk a).vm } : State).setVm s₂.vm := rfl
      rw [e2] at this
      exact this
    have hf₂ : s₂.frames = .throwing q :: .java g :: U.frames.tail := hend
    have hW' : U.WarmedH s₂.vm := hW₂
    have hs₂ : s₂ = ((({ U with heap := s₂.heap, slotsUsed := s₂.slotsUsed } : State).setVm s₂.vm).setTop g).pushFrame (.throwing q) := by
      refine e3.trans ?_
      rw [hf₂, State.calling_eq h.top, State.setFrames_setFrames, State.pushFrame, State.frames_setTop _ hr', State.setTop_of_frames _ hr', State.setFrames_setFrames, hr]
      rfl
    have hsame : U.sameButNew ({ U with heap := s₂.heap, slotsUsed := s₂.slotsUsed } : State) L mc ms := by
      refine ⟨?_, q2, q3, q4, q5, q6⟩
      obtain ⟨t, ht, -⟩ := State.frames_cons hr
      show ({ U with heap := s₂.heap, slotsUsed := s₂.slotsUsed } : State) = { U.setFrames U.frames with heap := s₂.heap, slotsUsed := s₂.slotsUsed }
      rw [State.setFrames_self ht]
    subst hg
    refine Or.inr ⟨q, ⟨(({ U with heap := s₂.heap, slotsUsed := s₂.slotsUsed } : State).setVm s₂.vm), Ls ++ L, c0 + mc, s0 + ms⟩,
      ⟨X.admits, X.cas, X.clock, X.frames, X.room, X.hears, X.method, X.code, (X.here.setHeapUsed s₂.heap s₂.slotsUsed).setVm hW'.alike, X.tail, State.WarmedH.trans X.warmed hW', X.limits, X.bytes, X.same.trans (hsame.setVm s.vm)⟩,
      ⟨g, mk, s₂, L, E, ce, rfl, rfl, hx, hce, hcv, hcl, rfl, hL, rfl, rfl⟩, ?_⟩
    show Steps p.tables e below _ (((({ U with heap := s₂.heap, slotsUsed := s₂.slotsUsed } : State).setVm s₂.vm).setTop g).pushFrame (.throwing q))
    rw [← hs₂]
    exact hsteps
end
variable {p : Program} {l : Launch} {e : Env} {R : Room} {s : State} {m : MethodId} {args : Array Value} {below : List Frame} {meth : Method} {c : Code} {T : State} {H : Heap} {locs : List Loc} {cells slots : Nat}
theorem vx_callVX (X : Stand p l e R s m args below meth c T locs cells slots) (hexec : p.tables.exec = Jvm.exec) {own C : String} {index : Nat} {y : MethodName} {bytes : ByteArray} {maxL : Nat} {ret : Option FieldType} {hh : List (Nat × Nat × Nat × Nat)}
    (hown : s.vm.findClass own = some m.cls) (hlink : (Cond.methodLink own index y).before args s = true) (hinst : (Cond.instanceMethod y).before args s = true) (hsel : (Cond.selects C y y).before args s = true)
    (hcode : (Cond.codeWith y bytes maxL ret hh).before args s = true) (hy : y.cls ≠ "java/lang/invoke/MethodHandle" ∧ y.cls ≠ "java/lang/invoke/VarHandle")
    {W9 : Nat} {Pre : Pt → Array Value → Prop} {Post : Pt → Array Value → Option Value → Pt → Prop} {PostX : Pt → Array Value → Addr → Pt → Prop} (hK : vx_Back l R p e below s args y 3 W9 Pre Post PostX)
    {b : Addr} {cellB : Cell} (hcell : T.heap[b]? = some cellB) (hobj : cellB.vm.isStatics = false) (hcls : s.vm.findClass C = some cellB.cls)
    {g : JFrame} (hg : g.method = m) (hsize : g.locals.size = c.maxLocals) {argsL rest : List Value} (hlen : ∀ sig, parseMethodDescriptor y.desc = some sig → argsL.length = sig.parameters.length)
    (hstack : g.stack = argsL.reverse ++ .ref b :: rest) (hW : 2 * g.monitorRoom + (rest.map fun v => v.category).sum ≤ W9) (hdg : decode c.code g.pc = .ok (.invokevirtual index, 3))
    (hpre : ∀ vm₁, s.WarmedH vm₁ → Pre ⟨T.setVm vm₁, locs, cells, slots⟩ (Value.ref b :: argsL).toArray) :
    (∃ (v : Option Value) (vm₁ : Vm) (B : Pt), s.WarmedH vm₁ ∧ Stand p l e R s m args below meth c B.U B.locs B.cells B.slots ∧ Post ⟨T.setVm vm₁, locs, cells, slots⟩ (Value.ref b :: argsL).toArray v B ∧
      ∀ target, Steps p.tables e below (B.U.setTop { g with pc := g.pc + 3, stack := v.toList ++ rest }) target → Steps p.tables e below (T.setTop g) target) ∨
    (∃ (q : Addr) (vm₁ : Vm) (B : Pt), s.WarmedH vm₁ ∧ Stand p l e R s m args below meth c B.U B.locs B.cells B.slots ∧ PostX ⟨T.setVm vm₁, locs, cells, slots⟩ (Value.ref b :: argsL).toArray q B ∧
      Steps p.tables e below (T.setTop g) ((B.U.setTop { g with stack := rest }).pushFrame (.throwing q))) := by
  obtain ⟨mk, methM, hnamed, hmethM, hstM, habM⟩ := Cond.instanceMethod_spec hinst
  obtain ⟨m8, methM', cM, hn8, hmethM', -, -, -, -, -, -, hsigM⟩ := Cond.codeWith_spec hcode
  cases Option.some.inj (hn8.symm.trans hnamed)
  cases hmethM.symm.trans hmethM'
  obtain ⟨c2, r2, m2, q1, q2, q3, q4, kP, hkP, hkPi⟩ := Cond.selects_spec hsel
  cases hcls.symm.trans q1
  cases (State.methodFound?_of_named hnamed hy).symm.trans q2
  cases hnamed.symm.trans q3
  have hselP : selectMethod e.platform s.vm cellB.cls mk = .method mk := by rw [Launch.admits_selectMethod X.admits]; exact q4
  obtain ⟨vm₁, X₁, hstep₁⟩ := X.invokevirtual hexec hown hlink hnamed hmethM hstM hkP hkPi hy (a := b) (cell := cellB) hcell
    (fun z h => by rw [h] at hobj; cases hobj) hselP hmethM habM hkP hkPi (g := g) hg (argsL := argsL) (rest := rest) (hlen _ hsigM) hstack hdg
  rcases hK m meth c ⟨T.setVm vm₁, locs, cells, slots⟩ { g with stack := rest } (.invokevirtual index) mk (Value.ref b :: argsL).toArray X₁ hg hsize hdg hW (X₁.named hnamed) (hpre vm₁ X₁.warmed) with ⟨v, B, X', hpost, hsteps⟩ | ⟨q, B, X', hpost, hsteps⟩
  · exact Or.inl ⟨v, vm₁, B, X₁.warmed, X', hpost, fun target h => hstep₁ _ fun acts => by rw [doInvoke_state]; exact hsteps.trans h⟩
  · exact Or.inr ⟨q, vm₁, B, X₁.warmed, X', hpost, hstep₁ _ fun acts => by rw [doInvoke_state]; exact hsteps⟩
theorem vx_callSX (X : Stand p l e R s m args below meth c T locs cells slots) (hexec : p.tables.exec = Jvm.exec) {own : String} {index : Nat} {y : MethodName} {bytes : ByteArray} {maxL : Nat} {ret : Option FieldType} {hh : List (Nat × Nat × Nat × Nat)}
    (hown : s.vm.findClass own = some m.cls) (hlink : (Cond.methodLink own index y).before args s = true) (hstat : (Cond.static y).before args s = true) (hinit : (Cond.initialized y.cls).before args s = true)
    (hcode : (Cond.codeWith y bytes maxL ret hh).before args s = true) (hy : y.cls ≠ "java/lang/invoke/MethodHandle" ∧ y.cls ≠ "java/lang/invoke/VarHandle")
    {W9 : Nat} {Pre : Pt → Array Value → Prop} {Post : Pt → Array Value → Option Value → Pt → Prop} {PostX : Pt → Array Value → Addr → Pt → Prop} (hK : vx_Back l R p e below s args y 3 W9 Pre Post PostX)
    {g : JFrame} (hg : g.method = m) (hsize : g.locals.size = c.maxLocals) {argsL rest : List Value} (hlen : ∀ sig, parseMethodDescriptor y.desc = some sig → argsL.length = sig.parameters.length)
    (hstack : g.stack = argsL.reverse ++ rest) (hW : 2 * g.monitorRoom + (rest.map fun v => v.category).sum ≤ W9) (hdg : decode c.code g.pc = .ok (.invokestatic index, 3))
    (hpre : ∀ vm₁, s.WarmedH vm₁ → Pre ⟨T.setVm vm₁, locs, cells, slots⟩ argsL.toArray) :
    (∃ (v : Option Value) (vm₁ : Vm) (B : Pt), s.WarmedH vm₁ ∧ Stand p l e R s m args below meth c B.U B.locs B.cells B.slots ∧ Post ⟨T.setVm vm₁, locs, cells, slots⟩ argsL.toArray v B ∧
      ∀ target, Steps p.tables e below (B.U.setTop { g with pc := g.pc + 3, stack := v.toList ++ rest }) target → Steps p.tables e below (T.setTop g) target) ∨
    (∃ (q : Addr) (vm₁ : Vm) (B : Pt), s.WarmedH vm₁ ∧ Stand p l e R s m args below meth c B.U B.locs B.cells B.slots ∧ PostX ⟨T.setVm vm₁, locs, cells, slots⟩ argsL.toArray q B ∧
      Steps p.tables e below (T.setTop g) ((B.U.setTop { g with stack := rest }).pushFrame (.throwing q))) := by
  obtain ⟨mk, methM, cM, hnamed, hmethM, -, -, -, -, -, -, hsigM⟩ := Cond.codeWith_spec hcode
  have hstatic : methM.isStatic = true := Cond.static_spec hnamed hmethM hstat
  obtain ⟨kP, hkP, -⟩ := className_of_methodNamed hnamed
  have hinitP : kP.init = .initialized := Cond.initialized_spec (findClass_of_methodNamed hnamed) hkP hinit
  obtain ⟨vm₁, X₁, hstep₁⟩ := X.invokestatic hexec hown hlink hnamed hmethM hstatic hkP hinitP hy (g := g) hg (argsL := argsL) (rest := rest) (hlen _ hsigM) hstack hdg
  rcases hK m meth c ⟨T.setVm vm₁, locs, cells, slots⟩ { g with stack := rest } (.invokestatic index) mk argsL.toArray X₁ hg hsize hdg hW (X₁.named hnamed) (hpre vm₁ X₁.warmed) with ⟨v, B, X', hpost, hsteps⟩ | ⟨q, B, X', hpost, hsteps⟩
  · exact Or.inl ⟨v, vm₁, B, X₁.warmed, X', hpost, fun target h => hstep₁ _ fun acts => by rw [doInvoke_state]; exact hsteps.trans h⟩
  · exact Or.inr ⟨q, vm₁, B, X₁.warmed, X', hpost, hstep₁ _ fun acts => by rw [doInvoke_state]; exact hsteps⟩
theorem vx_callVW (X : Stand p l e R s m args below meth c T locs cells slots) (hexec : p.tables.exec = Jvm.exec) {own C : String} {index : Nat} {y : MethodName} {bytes : ByteArray} {maxL : Nat} {ret : Option FieldType} {hh : List (Nat × Nat × Nat × Nat)}
    (hown : s.vm.findClass own = some m.cls) (hlink : (Cond.methodLink own index y).before args s = true) (hinst : (Cond.instanceMethod y).before args s = true) (hsel : (Cond.selects C y y).before args s = true)
    (hcode : (Cond.codeWith y bytes maxL ret hh).before args s = true) (hy : y.cls ≠ "java/lang/invoke/MethodHandle" ∧ y.cls ≠ "java/lang/invoke/VarHandle")
    {W9 : Nat} {Pre : Pt → Array Value → Prop} {Post : Pt → Array Value → Option Value → Pt → Prop} (hK : Back l R p e below s args y 3 W9 Pre Post)
    {b : Addr} {cellB : Cell} (hcell : T.heap[b]? = some cellB) (hobj : cellB.vm.isStatics = false) (hcls : s.vm.findClass C = some cellB.cls)
    {g : JFrame} (hg : g.method = m) (hsize : g.locals.size = c.maxLocals) {argsL rest : List Value} (hlen : ∀ sig, parseMethodDescriptor y.desc = some sig → argsL.length = sig.parameters.length)
    (hstack : g.stack = argsL.reverse ++ .ref b :: rest) (hW : 2 * g.monitorRoom + (rest.map fun v => v.category).sum ≤ W9) (hdg : decode c.code g.pc = .ok (.invokevirtual index, 3))
    (hpre : ∀ vm₁, s.WarmedH vm₁ → Pre ⟨T.setVm vm₁, locs, cells, slots⟩ (Value.ref b :: argsL).toArray) :
    ∃ (v : Option Value) (vm₁ : Vm) (B : Pt), s.WarmedH vm₁ ∧ Stand p l e R s m args below meth c B.U B.locs B.cells B.slots ∧ Post ⟨T.setVm vm₁, locs, cells, slots⟩ (Value.ref b :: argsL).toArray v B ∧
      ∀ target, Steps p.tables e below (B.U.setTop { g with pc := g.pc + 3, stack := v.toList ++ rest }) target → Steps p.tables e below (T.setTop g) target := by
  obtain ⟨mk, methM, hnamed, hmethM, hstM, habM⟩ := Cond.instanceMethod_spec hinst
  obtain ⟨m8, methM', cM, hn8, hmethM', -, -, -, -, -, -, hsigM⟩ := Cond.codeWith_spec hcode
  cases Option.some.inj (hn8.symm.trans hnamed)
  cases hmethM.symm.trans hmethM'
  obtain ⟨c2, r2, m2, q1, q2, q3, q4, kP, hkP, hkPi⟩ := Cond.selects_spec hsel
  cases hcls.symm.trans q1
  cases (State.methodFound?_of_named hnamed hy).symm.trans q2
  cases hnamed.symm.trans q3
  have hselP : selectMethod e.platform s.vm cellB.cls mk = .method mk := by rw [Launch.admits_selectMethod X.admits]; exact q4
  obtain ⟨vm₁, X₁, hstep₁⟩ := X.invokevirtual hexec hown hlink hnamed hmethM hstM hkP hkPi hy (a := b) (cell := cellB) hcell
    (fun z h => by rw [h] at hobj; cases hobj) hselP hmethM habM hkP hkPi (g := g) hg (argsL := argsL) (rest := rest) (hlen _ hsigM) hstack hdg
  obtain ⟨v, B, X', hpost, hsteps⟩ := hK m meth c ⟨T.setVm vm₁, locs, cells, slots⟩ { g with stack := rest } (.invokevirtual index) mk (Value.ref b :: argsL).toArray X₁ hg hsize hdg hW (X₁.named hnamed) (hpre vm₁ X₁.warmed)
  exact ⟨v, vm₁, B, X₁.warmed, X', hpost, fun target h => hstep₁ _ fun acts => by rw [doInvoke_state]; exact hsteps.trans h⟩
abbrev vx_CVW (R : Room) (s : State) (args : Array Value) (own C : String) (index : Nat) (y : MethodName) (bytes : ByteArray) (maxL : Nat) (ret : Option FieldType) (hh : List (Nat × Nat × Nat × Nat)) (ws : List Cond) (rm : Room) (mc ms n : Nat) : Prop :=
  (rm.cells = mc ∧ rm.slots = ms ∧ rm.frames + 1 ≤ R.frames ∧ 8 + (maxL + 11) + rm.locals ≤ R.locals ∧ (∀ w ∈ ws, ∀ (a' : Array Value) (U : State), s.WarmedH U.vm → w.before a' U = true) ∧ Cond.codeWith y bytes maxL ret hh ∈ ws) ∧
  (Cond.codeWith y bytes maxL ret hh).before args s = true ∧ (Cond.initialized y.cls).before args s = true ∧ (y.cls ≠ "java/lang/invoke/MethodHandle" ∧ y.cls ≠ "java/lang/invoke/VarHandle") ∧
  (∀ sig, parseMethodDescriptor y.desc = some sig → n = sig.parameters.length) ∧ (Cond.methodLink own index y).before args s = true ∧ (Cond.instanceMethod y).before args s = true ∧ (Cond.selects C y y).before args s = true
theorem vx_cwVW {own C : String} {index maxL mc ms : Nat} {y : MethodName} {bytes : ByteArray} {ret : Option FieldType} {hh : List (Nat × Nat × Nat × Nat)} {Ts ws ws' : List Cond} {rm : Room} (n : Nat) (ht : ∀ w ∈ Ts, w.before args s = true) (hT : GoodIn Ts (wsV own index C y ws)) (hw : ws = Cond.codeWith y bytes maxL ret hh :: ws') (hrc : rm.cells = mc) (hrs : rm.slots = ms)
    (hd : y.cls = C ∧ y.cls ≠ "java/lang/invoke/MethodHandle" ∧ y.cls ≠ "java/lang/invoke/VarHandle" ∧ (parseMethodDescriptor y.desc).map (fun d => d.parameters.length) = some n) (hR : rm.frames + 1 ≤ R.frames ∧ 8 + (maxL + 11) + rm.locals ≤ R.locals) :
    vx_CVW R s args own C index y bytes maxL ret hh ws rm mc ms n := by
  obtain ⟨hC, hd⟩ := hd
  subst hC
  have ok : ∀ w ∈ wsV own index y.cls y ws, w.before args s = true := fun w h => ht w (hT w h).1
  have hG : GoodIn Ts ws := fun w h => hT w (by unfold wsV; exact List.mem_append_right _ h)
  have hc : Cond.codeWith y bytes maxL ret hh ∈ ws := by rw [hw]; exact List.mem_cons_self
  refine ⟨⟨hrc, hrs, hR.1, hR.2, pay_in ht hG, hc⟩, ht _ (hG _ hc).1, ok _ (by simp [wsV]), ⟨hd.1, hd.2.1⟩, fun sig h => ?_, ok _ (by simp [wsV]), ok _ (by simp [wsV]), ok _ (by simp [wsV])⟩
  have h2 := hd.2.2
  rw [h] at h2
  exact (Option.some.inj h2).symm
theorem vx_runVW {y : MethodName} {bytes cc : ByteArray} {maxL nL mc ms n index : Nat} {ret : Option FieldType} {hh : List (Nat × Nat × Nat × Nat)} {ws : List Cond} {rm : Room} {Pc : Array Value → State → Prop} {Qc : Array Value → State → Outcome → State → Prop} {free : Addr → Prop} {Ts : List Cond} {own C : String} {b : Addr} {As rest : List Value} {g : JFrame}
    (S : CallFix p m c cc nL s args Ts own) (hM : Met l y ws rm Pc Qc mc ms free) (cw : vx_CVW R s args own C index y bytes maxL ret hh ws rm mc ms n) (hp : PreV s H C b Pc As)
    (hg : g.method = m) (hn : As.length = n) (hsize : g.locals.size = nL) (hstack : g.stack = As.reverse ++ .ref b :: rest) (hW : 2 * g.monitorRoom + (rest.map fun v => v.category).sum ≤ 8) (hdg : decode cc g.pc = .ok (.invokevirtual index, 3)) (hf : cells + mc ≤ R.cells ∧ slots + ms ≤ R.slots) :
    va_Run p l e R s m args below meth c H locs cells slots mc ms g rest (Qc (Value.ref b :: As).toArray) free := by
  obtain ⟨⟨hrc, hrs, hfr, hlo, hws, hcw⟩, hcode, hini, hy, hlen, hl, hin, hse⟩ := cw
  have hK : Back l R p e below s args y 3 8 (PreOf R mc ms Pc) (PostOf Qc mc ms free) := va_backW (hh := hh) (bytes := bytes) (maxL := maxL) (ret := ret) hM hp.1 hrc hrs hfr hlo hws hcw (fun a' U hW => word_at hW (Or.inl (by first | rfl | simp [Cond.onTables, Cond.keeps, Cond.steady])) hini)
  obtain ⟨hx, hb, hml, ho, -⟩ := S
  obtain ⟨-, ⟨cellB, hcB, hoB, hclB⟩, hPc⟩ := hp
  intro T hT X
  obtain ⟨v, vm₁, ⟨U', l2, c2, s2⟩, hW₁, X', ⟨g', mk, t, L, e1, e2, hq, h1, hL, h2, h3⟩, st⟩ := vx_callVW X hx (C := C) (hh := hh) (bytes := bytes) (maxL := maxL) (ret := ret) ho hl hin hse hcode hy hK (by rw [hT]; exact hcB) hoB hclB hg (hsize.trans hml.symm) (argsL := As) (rest := rest) (fun sig h => hn.trans (hlen sig h)) hstack hW (by rw [hb]; exact hdg)
    (fun vm₁ hW₁ => ⟨hf.1, hf.2, hPc (T.setVm vm₁) hT hW₁⟩)
  dsimp only [Pt.U, Pt.locs, Pt.cells, Pt.slots] at X' e1 e2 h1 h2 h3 st
  subst h1; subst h2; subst h3
  exact ⟨v, (T.setVm vm₁).calling g' mk (Value.ref b :: As).toArray, t, U', L, hT, X', hL, e1, e2, hq, st⟩
section
variable {y : MethodName} {bytes cc : ByteArray} {maxL nL mc ms n index : Nat} {ret : Option FieldType} {ws : List Cond} {rm : Room} {Pc : Array Value → State → Prop} {Qc : Array Value → State → Outcome → State → Prop} {XC : String → State → State → Prop} {free : Addr → Prop} {Ts : List Cond} {own C : String} {b : Addr} {As rest : List Value} {g : JFrame}
theorem vx_runVX {hh : List (Nat × Nat × Nat × Nat)} (S : CallFix p m c cc nL s args Ts own) (hM : vx_Met l y ws rm Pc Qc XC mc ms free) (cw : vx_CVW R s args own C index y bytes maxL ret hh ws rm mc ms n) (hp : PreV s H C b Pc As)
    (hg : g.method = m) (hn : As.length = n) (hsize : g.locals.size = nL) (hstack : g.stack = As.reverse ++ .ref b :: rest) (hW : 2 * g.monitorRoom + (rest.map fun v => v.category).sum ≤ 8) (hdg : decode cc g.pc = .ok (.invokevirtual index, 3)) (hf : cells + mc ≤ R.cells ∧ slots + ms ≤ R.slots) :
    vx_Run p l e R s m args below meth c H locs cells slots mc ms g rest (Qc (Value.ref b :: As).toArray) XC free := by
  obtain ⟨⟨hrc, hrs, hfr, hlo, hws, hcw⟩, hcode, hini, hy, hlen, hl, hin, hse⟩ := cw
  have hK : vx_Back l R p e below s args y 3 8 (PreOf R mc ms Pc) (PostOf Qc mc ms free) (vx_Post XC mc ms free) := vx_backW (hh := hh) (bytes := bytes) (maxL := maxL) (ret := ret) hM hp.1 hrc hrs hfr hlo hws hcw (fun a' U hW => word_at hW (Or.inl (by first | rfl | simp [Cond.onTables, Cond.keeps, Cond.steady])) hini)
  obtain ⟨hx, hb, hml, ho, -⟩ := S
  obtain ⟨-, ⟨cellB, hcB, hoB, hclB⟩, hPc⟩ := hp
  intro T hT X
  rcases vx_callVX X hx (C := C) (hh := hh) (bytes := bytes) (maxL := maxL) (ret := ret) ho hl hin hse hcode hy hK (by rw [hT]; exact hcB) hoB hclB hg (hsize.trans hml.symm) (argsL := As) (rest := rest) (fun sig h => hn.trans (hlen sig h)) hstack hW (by rw [hb]; exact hdg)
    (fun vm₁ hW₁ => ⟨hf.1, hf.2, hPc (T.setVm vm₁) hT hW₁⟩) with ⟨v, vm₁, ⟨U', l2, c2, s2⟩, hW₁, X', ⟨g', mk, t, L, e1, e2, hq, h1, hL, h2, h3⟩, st⟩ | ⟨q, vm₁, ⟨U', l2, c2, s2⟩, hW₁, X', ⟨g', mk, t, L, E, ce, e1, e2, hq, hce, hcv, hcl, h1, hL, h2, h3⟩, st⟩
  · dsimp only [Pt.U, Pt.locs, Pt.cells, Pt.slots] at X' e1 e2 h1 h2 h3 st
    subst h1; subst h2; subst h3
    exact Or.inl ⟨v, (T.setVm vm₁).calling g' mk (Value.ref b :: As).toArray, t, U', L, hT, X', hL, e1, e2, hq, st⟩
  · dsimp only [Pt.U, Pt.locs, Pt.cells, Pt.slots] at X' e1 e2 h1 h2 h3 st hcl
    subst h1; subst h2; subst h3
    exact Or.inr ⟨q, (T.setVm vm₁).calling g' mk (Value.ref b :: As).toArray, t, U', L, E, ce, hT, X', hL, e1, e2, hq, hce, hcv, vx_cls hW₁ hcl, st⟩
theorem vx_runSX {hh : List (Nat × Nat × Nat × Nat)} (S : CallFix p m c cc nL s args Ts own) (hM : vx_Met l y ws rm Pc Qc XC mc ms free) (cw : vx_CSW R s args own index y bytes maxL ret hh ws rm mc ms n) (hp : PreS s H Pc As)
    (hg : g.method = m) (hn : As.length = n) (hsize : g.locals.size = nL) (hstack : g.stack = As.reverse ++ rest) (hW : 2 * g.monitorRoom + (rest.map fun v => v.category).sum ≤ 8) (hdg : decode cc g.pc = .ok (.invokestatic index, 3)) (hf : cells + mc ≤ R.cells ∧ slots + ms ≤ R.slots) :
    vx_Run p l e R s m args below meth c H locs cells slots mc ms g rest (Qc As.toArray) XC free := by
  obtain ⟨⟨hrc, hrs, hfr, hlo, hws, hcw⟩, hcode, hini, hy, hlen, hl, hstt⟩ := cw
  have hK : vx_Back l R p e below s args y 3 8 (PreOf R mc ms Pc) (PostOf Qc mc ms free) (vx_Post XC mc ms free) := vx_backW (hh := hh) (bytes := bytes) (maxL := maxL) (ret := ret) hM hp.1 hrc hrs hfr hlo hws hcw (fun a' U hW => word_at hW (Or.inl (by first | rfl | simp [Cond.onTables, Cond.keeps, Cond.steady])) hini)
  obtain ⟨hx, hb, hml, ho, -⟩ := S
  intro T hT X
  rcases vx_callSX X hx (hh := hh) (bytes := bytes) (maxL := maxL) (ret := ret) ho hl hstt hini hcode hy hK hg (hsize.trans hml.symm) (argsL := As) (rest := rest) (fun sig h => hn.trans (hlen sig h)) hstack hW (by rw [hb]; exact hdg)
    (fun vm₁ hW₁ => ⟨hf.1, hf.2, hp.2 (T.setVm vm₁) hT hW₁⟩) with ⟨v, vm₁, ⟨U', l2, c2, s2⟩, hW₁, X', ⟨g', mk, t, L, e1, e2, hq, h1, hL, h2, h3⟩, st⟩ | ⟨q, vm₁, ⟨U', l2, c2, s2⟩, hW₁, X', ⟨g', mk, t, L, E, ce, e1, e2, hq, hce, hcv, hcl, h1, hL, h2, h3⟩, st⟩
  · dsimp only [Pt.U, Pt.locs, Pt.cells, Pt.slots] at X' e1 e2 h1 h2 h3 st
    subst h1; subst h2; subst h3
    exact Or.inl ⟨v, (T.setVm vm₁).calling g' mk As.toArray, t, U', L, hT, X', hL, e1, e2, hq, st⟩
  · dsimp only [Pt.U, Pt.locs, Pt.cells, Pt.slots] at X' e1 e2 h1 h2 h3 st hcl
    subst h1; subst h2; subst h3
    exact Or.inr ⟨q, (T.setVm vm₁).calling g' mk As.toArray, t, U', L, E, ce, hT, X', hL, e1, e2, hq, hce, hcv, vx_cls hW₁ hcl, st⟩
end
end VXH
theorem vx_ofWH {l : Launch} {y : MethodName} {ws ws' : List Cond} {rm : Room} {Pc : Array Value → State → Prop} {Qc : Array Value → State → Outcome → State → Prop} {XC : String → State → State → Prop} {mc ms : Nat} {free : Addr → Prop} {cc : ByteArray} {maxL : Nat} {ret : Option FieldType} {hh : List (Nat × Nat × Nat × Nat)}
    (hy : plainName y.cls = true) (hw : ws = Cond.codeWith y cc maxL ret hh :: ws')
    (body : ∀ p e s m args below meth c s₁, BodyLoose p l y (headSpec ws rm) cc maxL ret e s m args below meth c s₁ → c.maxLocals = maxL → Pc args s →
      W p l e (headSpec ws rm).room s m args below meth c s.heap [] 0 0 (vx_MQ below Qc XC args s mc ms free) (entryFrame m args maxL)) : vx_Met l y ws rm Pc Qc XC mc ms free := by
  refine MetFree.of_bodyS (code := cc) (maxLocals := maxL) (ret := ret) hy ?_ ?_
  · intro args s m h hn
    obtain ⟨m9, meth, c, hn9, h1, h2, h3, h4, -, h5, h6, -⟩ := Cond.codeWith_spec (atoms_spec (ws := ws) h _ (by rw [hw]; exact List.mem_cons_self))
    cases hn.symm.trans hn9
    exact ⟨meth, c, h1, h2, h3, h4, h5, h6⟩
  · intro p e s m args below meth c s₁ B hml hP _
    have hh0 : s₁.heap = s.heap := by rw [B.state]; rfl
    obtain ⟨t, a1, o, b1, b2, b3⟩ := body p e s m args below meth c s₁ B hml hP s₁ hh0 (Stand.of_body B)
    exact ⟨t, o, a1, b1, b2, b3⟩
/-! ===== END ===== -/

def RX0 : String := "WheelWorks$Event"
def TX0 : u_T := fun k => match k with
  | 0 => ("WheelWorks$Event", "part", "I", true)
  | 1 => ("WheelWorks$Event", "to", "I", true)
  | _ => ("WheelWorks$Event", "kilometres", "I", true)
def tyX0 : Nat → FieldType := fun k => match k with
  | 0 => .int
  | 1 => .int
  | _ => .int
abbrev wsX00 : List Cond := u_ws RX0 TX0 3
theorem nmX0 : ∀ a, a < 3 → ∀ b, b < 3 → a ≠ b → (TX0 a).2.1 ≠ (TX0 b).2.1 := by decide +kernel
theorem tyX0_ok : ∀ k, k < 3 → parseFieldDescriptor (TX0 k).2.2.1 = some (tyX0 k) := by decide +kernel
abbrev cX0_init : ByteArray := prog_2_method_1_code
def yX0_init : MethodName := ⟨RX0, "<init>", "(III)V"⟩
def RX1 : String := "WheelWorks$KindLimits"
def TX1 : u_T := fun k => match k with
  | 0 => ("WheelWorks$KindLimits", "life", "I", false)
  | 1 => ("WheelWorks$KindLimits", "interval", "I", false)
  | _ => ("WheelWorks$KindLimits", "window", "I", false)
def tyX1 : Nat → FieldType := fun k => match k with
  | 0 => .int
  | 1 => .int
  | _ => .int
abbrev wsX10 : List Cond := u_ws RX1 TX1 3
theorem nmX1 : ∀ a, a < 3 → ∀ b, b < 3 → a ≠ b → (TX1 a).2.1 ≠ (TX1 b).2.1 := by decide +kernel
theorem tyX1_ok : ∀ k, k < 3 → parseFieldDescriptor (TX1 k).2.2.1 = some (tyX1 k) := by decide +kernel
abbrev cX1_init : ByteArray := prog_3_method_1_code
def yX1_init : MethodName := ⟨RX1, "<init>", "()V"⟩
def RX2 : String := "WheelWorks$Log"
def TX2 : u_T := fun k => match k with
  | 0 => ("WheelWorks$Log", "events", "Ljava/util/ArrayList;", true)
  | _ => ("WheelWorks$Log", "hosts", "[I", true)
def tyX2 : Nat → FieldType := fun k => match k with
  | 0 => .object "java/util/ArrayList"
  | _ => .array .int
abbrev wsX20 : List Cond := u_ws RX2 TX2 2
theorem nmX2 : ∀ a, a < 2 → ∀ b, b < 2 → a ≠ b → (TX2 a).2.1 ≠ (TX2 b).2.1 := by decide +kernel
theorem tyX2_ok : ∀ k, k < 2 → parseFieldDescriptor (TX2 k).2.2.1 = some (tyX2 k) := by decide +kernel
abbrev cX2_init : ByteArray := prog_4_method_1_code
def yX2_init : MethodName := ⟨RX2, "<init>", "()V"⟩
abbrev cX2_addMove : ByteArray := prog_4_method_2_code
def yX2_addMove : MethodName := ⟨RX2, "addMove", "(II)V"⟩
abbrev cX2_addRun : ByteArray := prog_4_method_3_code
def yX2_addRun : MethodName := ⟨RX2, "addRun", "(II)V"⟩
abbrev cX2_add : ByteArray := prog_4_method_4_code
def yX2_add : MethodName := ⟨RX2, "add", "(LWheelWorks$Event;)V"⟩
abbrev cX2_movesOf : ByteArray := prog_4_method_5_code
def yX2_movesOf : MethodName := ⟨RX2, "movesOf", "(I)I"⟩
abbrev cX2_moveOf : ByteArray := prog_4_method_6_code
def yX2_moveOf : MethodName := ⟨RX2, "moveOf", "(II)LWheelWorks$Event;"⟩
abbrev cX2_isMoveOf : ByteArray := prog_4_method_7_code
def yX2_isMoveOf : MethodName := ⟨RX2, "isMoveOf", "(LWheelWorks$Event;I)Z"⟩
abbrev cX2_lifeOf : ByteArray := prog_4_method_8_code
def yX2_lifeOf : MethodName := ⟨RX2, "lifeOf", "(I)I"⟩
abbrev cX2_topThen : ByteArray := prog_4_method_9_code
def yX2_topThen : MethodName := ⟨RX2, "topThen", "(I)I"⟩
abbrev cX2_isPart : ByteArray := prog_4_method_10_code
def yX2_isPart : MethodName := ⟨RX2, "isPart", "(I)Z"⟩
def RX3 : String := "WheelWorks$Part"
def TX3 : u_T := fun k => match k with
  | 0 => ("WheelWorks$Part", "number", "I", true)
  | 1 => ("WheelWorks$Part", "kind", "I", true)
  | 2 => ("WheelWorks$Part", "melt", "I", true)
  | 3 => ("WheelWorks$Part", "mod", "I", true)
  | 4 => ("WheelWorks$Part", "limits", "LWheelWorks$KindLimits;", true)
  | 5 => ("WheelWorks$Part", "wheel", "LWheelWorks$Wheel;", true)
  | 6 => ("WheelWorks$Part", "host", "LWheelWorks$Part;", false)
  | 7 => ("WheelWorks$Part", "scrapped", "Z", false)
  | 8 => ("WheelWorks$Part", "life", "I", false)
  | 9 => ("WheelWorks$Part", "sinceExamination", "I", false)
  | 10 => ("WheelWorks$Part", "waived", "I", false)
  | 11 => ("WheelWorks$Part", "quarantined", "Z", false)
  | 12 => ("WheelWorks$Part", "recalled", "Z", false)
  | 13 => ("WheelWorks$Part", "flaw", "I", false)
  | 14 => ("WheelWorks$Part", "lifeAtFlaw", "I", false)
  | 15 => ("WheelWorks$Part", "released", "Z", false)
  | 16 => ("WheelWorks$Part", "road", "I", false)
  | _ => ("WheelWorks$Part", "time", "I", false)
def tyX3 : Nat → FieldType := fun k => match k with
  | 0 => .int
  | 1 => .int
  | 2 => .int
  | 3 => .int
  | 4 => .object "WheelWorks$KindLimits"
  | 5 => .object "WheelWorks$Wheel"
  | 6 => .object "WheelWorks$Part"
  | 7 => .boolean
  | 8 => .int
  | 9 => .int
  | 10 => .int
  | 11 => .boolean
  | 12 => .boolean
  | 13 => .int
  | 14 => .int
  | 15 => .boolean
  | 16 => .int
  | _ => .int
abbrev wsX30 : List Cond := u_ws RX3 TX3 18
theorem nmX3 : ∀ a, a < 18 → ∀ b, b < 18 → a ≠ b → (TX3 a).2.1 ≠ (TX3 b).2.1 := by decide +kernel
theorem tyX3_ok : ∀ k, k < 18 → parseFieldDescriptor (TX3 k).2.2.1 = some (tyX3 k) := by decide +kernel
abbrev cX3_init : ByteArray := prog_5_method_1_code
def yX3_init : MethodName := ⟨RX3, "<init>", "(IIIILWheelWorks$KindLimits;)V"⟩
abbrev cX3_whereabouts : ByteArray := prog_5_method_2_code
def yX3_whereabouts : MethodName := ⟨RX3, "whereabouts", "()I"⟩
abbrev cX3_isInStore : ByteArray := prog_5_method_3_code
def yX3_isInStore : MethodName := ⟨RX3, "isInStore", "()Z"⟩
abbrev cX3_top : ByteArray := prog_5_method_4_code
def yX3_top : MethodName := ⟨RX3, "top", "()LWheelWorks$Part;"⟩
abbrev cX3_isWithin : ByteArray := prog_5_method_5_code
def yX3_isWithin : MethodName := ⟨RX3, "isWithin", "(LWheelWorks$Part;)Z"⟩
abbrev cX3_isBound : ByteArray := prog_5_method_6_code
def yX3_isBound : MethodName := ⟨RX3, "isBound", "()Z"⟩
abbrev cX3_mayBeExamined : ByteArray := prog_5_method_7_code
def yX3_mayBeExamined : MethodName := ⟨RX3, "mayBeExamined", "()Z"⟩
abbrev cX3_isExaminationDue : ByteArray := prog_5_method_8_code
def yX3_isExaminationDue : MethodName := ⟨RX3, "isExaminationDue", "()Z"⟩
abbrev cX3_runs : ByteArray := prog_5_method_9_code
def yX3_runs : MethodName := ⟨RX3, "runs", "(II)V"⟩
abbrev cX3_growFlaw : ByteArray := prog_5_method_10_code
def yX3_growFlaw : MethodName := ⟨RX3, "growFlaw", "(I)V"⟩
def RX4 : String := "WheelWorks$Wheel"
def TX4 : u_T := fun k => match k with
  | 0 => ("WheelWorks$Wheel", "diameter", "I", false)
  | 1 => ("WheelWorks$Wheel", "flange", "I", false)
  | 2 => ("WheelWorks$Wheel", "told", "I", false)
  | _ => ("WheelWorks$Wheel", "rubbed", "I", false)
def tyX4 : Nat → FieldType := fun k => match k with
  | 0 => .int
  | 1 => .int
  | 2 => .int
  | _ => .int
abbrev wsX40 : List Cond := u_ws RX4 TX4 4
theorem nmX4 : ∀ a, a < 4 → ∀ b, b < 4 → a ≠ b → (TX4 a).2.1 ≠ (TX4 b).2.1 := by decide +kernel
theorem tyX4_ok : ∀ k, k < 4 → parseFieldDescriptor (TX4 k).2.2.1 = some (tyX4 k) := by decide +kernel
abbrev cX4_init : ByteArray := prog_6_method_1_code
def yX4_init : MethodName := ⟨RX4, "<init>", "()V"⟩
abbrev cX4_wear : ByteArray := prog_6_method_2_code
def yX4_wear : MethodName := ⟨RX4, "wear", "(II)V"⟩
abbrev cX4_renewFlange : ByteArray := prog_6_method_3_code
def yX4_renewFlange : MethodName := ⟨RX4, "renewFlange", "()V"⟩
abbrev cX4_isWorn : ByteArray := prog_6_method_4_code
def yX4_isWorn : MethodName := ⟨RX4, "isWorn", "()Z"⟩
def RX5 : String := "WheelWorks$Yard"
def TX5 : u_T := fun k => match k with
  | 0 => ("WheelWorks$Yard", "waiting", "Ljava/util/ArrayList;", true)
  | 1 => ("WheelWorks$Yard", "standing", "Ljava/util/ArrayList;", true)
  | 2 => ("WheelWorks$Yard", "blocked", "[I", true)
  | 3 => ("WheelWorks$Yard", "bestMoves", "I", false)
  | _ => ("WheelWorks$Yard", "bestPlan", "I", false)
def tyX5 : Nat → FieldType := fun k => match k with
  | 0 => .object "java/util/ArrayList"
  | 1 => .object "java/util/ArrayList"
  | 2 => .array .int
  | 3 => .int
  | _ => .int
abbrev wsX50 : List Cond := u_ws RX5 TX5 5
theorem nmX5 : ∀ a, a < 5 → ∀ b, b < 5 → a ≠ b → (TX5 a).2.1 ≠ (TX5 b).2.1 := by decide +kernel
theorem tyX5_ok : ∀ k, k < 5 → parseFieldDescriptor (TX5 k).2.2.1 = some (tyX5 k) := by decide +kernel
abbrev cX5_init : ByteArray := prog_7_method_1_code
def yX5_init : MethodName := ⟨RX5, "<init>", "()V"⟩
abbrev cX5_isWaiting : ByteArray := prog_7_method_2_code
def yX5_isWaiting : MethodName := ⟨RX5, "isWaiting", "(LWheelWorks$Part;)Z"⟩
abbrev cX5_isTaken : ByteArray := prog_7_method_3_code
def yX5_isTaken : MethodName := ⟨RX5, "isTaken", "(I)Z"⟩
abbrev cX5_makePlan : ByteArray := prog_7_method_4_code
def yX5_makePlan : MethodName := ⟨RX5, "makePlan", "()I"⟩
abbrev cX5_makePlanAnew : ByteArray := prog_7_method_5_code
def yX5_makePlanAnew : MethodName := ⟨RX5, "makePlanAnew", "()I"⟩
abbrev cX5_park : ByteArray := prog_7_method_6_code
def yX5_park : MethodName := ⟨RX5, "park", "()I"⟩
abbrev cX5_sendFirst : ByteArray := prog_7_method_7_code
def yX5_sendFirst : MethodName := ⟨RX5, "sendFirst", "()I"⟩
abbrev cX5_trainOn : ByteArray := prog_7_method_8_code
def yX5_trainOn : MethodName := ⟨RX5, "trainOn", "(II)I"⟩
abbrev cX5_markBlocked : ByteArray := prog_7_method_9_code
def yX5_markBlocked : MethodName := ⟨RX5, "markBlocked", "()V"⟩
abbrev cX5_searchPlan : ByteArray := prog_7_method_10_code
def yX5_searchPlan : MethodName := ⟨RX5, "searchPlan", "(LWheelWorks$Yard;III)V"⟩
abbrev cX5_fewestMoves : ByteArray := prog_7_method_11_code
def yX5_fewestMoves : MethodName := ⟨RX5, "fewestMoves", "(LWheelWorks$Yard;II)I"⟩
abbrev cX5_trainsIn : ByteArray := prog_7_method_12_code
def yX5_trainsIn : MethodName := ⟨RX5, "trainsIn", "(II)I"⟩
abbrev cX5_bitOf : ByteArray := prog_7_method_13_code
def yX5_bitOf : MethodName := ⟨RX5, "bitOf", "(II)I"⟩
abbrev cX5_roadIn : ByteArray := prog_7_method_14_code
def yX5_roadIn : MethodName := ⟨RX5, "roadIn", "(II)I"⟩
def RX6 : String := "WheelWorks"
def TX6 : u_T := fun k => match k with
  | 0 => ("WheelWorks", "parts", "Ljava/util/ArrayList;", true)
  | 1 => ("WheelWorks", "kinds", "[LWheelWorks$KindLimits;", true)
  | 2 => ("WheelWorks", "log", "LWheelWorks$Log;", true)
  | _ => ("WheelWorks", "yard", "LWheelWorks$Yard;", true)
def tyX6 : Nat → FieldType := fun k => match k with
  | 0 => .object "java/util/ArrayList"
  | 1 => .array (.object "WheelWorks$KindLimits")
  | 2 => .object "WheelWorks$Log"
  | _ => .object "WheelWorks$Yard"
abbrev wsX60 : List Cond := u_ws RX6 TX6 4
theorem nmX6 : ∀ a, a < 4 → ∀ b, b < 4 → a ≠ b → (TX6 a).2.1 ≠ (TX6 b).2.1 := by decide +kernel
theorem tyX6_ok : ∀ k, k < 4 → parseFieldDescriptor (TX6 k).2.2.1 = some (tyX6 k) := by decide +kernel
abbrev cX6_init : ByteArray := prog_1_method_1_code
def yX6_init : MethodName := ⟨RX6, "<init>", "()V"⟩
abbrev cX6_part : ByteArray := prog_1_method_2_code
def yX6_part : MethodName := ⟨RX6, "part", "(III)I"⟩
abbrev cX6_limits : ByteArray := prog_1_method_3_code
def yX6_limits : MethodName := ⟨RX6, "limits", "(IIII)I"⟩
abbrev cX6_fit : ByteArray := prog_1_method_4_code
def yX6_fit : MethodName := ⟨RX6, "fit", "(II)I"⟩
abbrev cX6_take : ByteArray := prog_1_method_5_code
def yX6_take : MethodName := ⟨RX6, "take", "(I)I"⟩
abbrev cX6_scrap : ByteArray := prog_1_method_6_code
def yX6_scrap : MethodName := ⟨RX6, "scrap", "(I)V"⟩
abbrev cX6_run : ByteArray := prog_1_method_7_code
def yX6_run : MethodName := ⟨RX6, "run", "(III)I"⟩
abbrev cX6_turn : ByteArray := prog_1_method_8_code
def yX6_turn : MethodName := ⟨RX6, "turn", "(I)I"⟩
abbrev cX6_gate : ByteArray := prog_1_method_9_code
def yX6_gate : MethodName := ⟨RX6, "gate", "(II)I"⟩
abbrev cX6_examine : ByteArray := prog_1_method_10_code
def yX6_examine : MethodName := ⟨RX6, "examine", "(I)I"⟩
abbrev cX6_waive : ByteArray := prog_1_method_11_code
def yX6_waive : MethodName := ⟨RX6, "waive", "(II)V"⟩
abbrev cX6_flaw : ByteArray := prog_1_method_12_code
def yX6_flaw : MethodName := ⟨RX6, "flaw", "(II)I"⟩
abbrev cX6_look : ByteArray := prog_1_method_13_code
def yX6_look : MethodName := ⟨RX6, "look", "(IZ)I"⟩
abbrev cX6_clear : ByteArray := prog_1_method_14_code
def yX6_clear : MethodName := ⟨RX6, "clear", "(I)I"⟩
abbrev cX6_recall : ByteArray := prog_1_method_15_code
def yX6_recall : MethodName := ⟨RX6, "recall", "(I)I"⟩
abbrev cX6_release : ByteArray := prog_1_method_16_code
def yX6_release : MethodName := ⟨RX6, "release", "(I)I"⟩
abbrev cX6_comes : ByteArray := prog_1_method_17_code
def yX6_comes : MethodName := ⟨RX6, "comes", "(II)I"⟩
abbrev cX6_night : ByteArray := prog_1_method_18_code
def yX6_night : MethodName := ⟨RX6, "night", "()I"⟩
abbrev cX6_out : ByteArray := prog_1_method_19_code
def yX6_out : MethodName := ⟨RX6, "out", "()I"⟩
abbrev cX6_host : ByteArray := prog_1_method_20_code
def yX6_host : MethodName := ⟨RX6, "host", "(I)I"⟩
abbrev cX6_head : ByteArray := prog_1_method_21_code
def yX6_head : MethodName := ⟨RX6, "head", "(I)I"⟩
abbrev cX6_ofPart : ByteArray := prog_1_method_22_code
def yX6_ofPart : MethodName := ⟨RX6, "ofPart", "(II)I"⟩
abbrev cX6_trace : ByteArray := prog_1_method_23_code
def yX6_trace : MethodName := ⟨RX6, "trace", "(II)I"⟩
abbrev cX6_lifeAnew : ByteArray := prog_1_method_24_code
def yX6_lifeAnew : MethodName := ⟨RX6, "lifeAnew", "(I)I"⟩
abbrev cX6_wheel : ByteArray := prog_1_method_25_code
def yX6_wheel : MethodName := ⟨RX6, "wheel", "(II)I"⟩
abbrev cX6_foretell : ByteArray := prog_1_method_26_code
def yX6_foretell : MethodName := ⟨RX6, "foretell", "(III)I"⟩
abbrev cX6_bars : ByteArray := prog_1_method_27_code
def yX6_bars : MethodName := ⟨RX6, "bars", "(I)I"⟩
abbrev cX6_barredBy : ByteArray := prog_1_method_28_code
def yX6_barredBy : MethodName := ⟨RX6, "barredBy", "(I)I"⟩
abbrev cX6_isReleased : ByteArray := prog_1_method_29_code
def yX6_isReleased : MethodName := ⟨RX6, "isReleased", "(I)Z"⟩
abbrev cX6_plan : ByteArray := prog_1_method_30_code
def yX6_plan : MethodName := ⟨RX6, "plan", "()I"⟩
abbrev cX6_planAnew : ByteArray := prog_1_method_31_code
def yX6_planAnew : MethodName := ⟨RX6, "planAnew", "()I"⟩
abbrev cX6_road : ByteArray := prog_1_method_32_code
def yX6_road : MethodName := ⟨RX6, "road", "(II)I"⟩
abbrev cX6_isOutside : ByteArray := prog_1_method_33_code
def yX6_isOutside : MethodName := ⟨RX6, "isOutside", "(III)Z"⟩
abbrev cX6_checkRun : ByteArray := prog_1_method_34_code
def yX6_checkRun : MethodName := ⟨RX6, "checkRun", "(II)V"⟩
abbrev cX6_limitsOf : ByteArray := prog_1_method_35_code
def yX6_limitsOf : MethodName := ⟨RX6, "limitsOf", "(I)LWheelWorks$KindLimits;"⟩
abbrev cX6_existing : ByteArray := prog_1_method_36_code
def yX6_existing : MethodName := ⟨RX6, "existing", "(I)LWheelWorks$Part;"⟩
abbrev cX6_existingTrain : ByteArray := prog_1_method_37_code
def yX6_existingTrain : MethodName := ⟨RX6, "existingTrain", "(I)LWheelWorks$Part;"⟩
abbrev cX6_existingWheel : ByteArray := prog_1_method_38_code
def yX6_existingWheel : MethodName := ⟨RX6, "existingWheel", "(I)LWheelWorks$Wheel;"⟩
abbrev cX6_placesFor : ByteArray := prog_1_method_39_code
def yX6_placesFor : MethodName := ⟨RX6, "placesFor", "(II)I"⟩
abbrev cX6_inside : ByteArray := prog_1_method_40_code
def yX6_inside : MethodName := ⟨RX6, "inside", "(LWheelWorks$Part;I)I"⟩
abbrev cX6_inside_ : ByteArray := prog_1_method_41_code
def yX6_inside_ : MethodName := ⟨RX6, "inside", "(LWheelWorks$Part;)I"⟩
abbrev cX6_wheelIn : ByteArray := prog_1_method_42_code
def yX6_wheelIn : MethodName := ⟨RX6, "wheelIn", "(LWheelWorks$Part;I)LWheelWorks$Wheel;"⟩
abbrev cX6_quarantineTree : ByteArray := prog_1_method_43_code
def yX6_quarantineTree : MethodName := ⟨RX6, "quarantineTree", "(LWheelWorks$Part;)V"⟩
abbrev cX6_rubbing : ByteArray := prog_1_method_44_code
def yX6_rubbing : MethodName := ⟨RX6, "rubbing", "(I)I"⟩
abbrev cX6_firstBar : ByteArray := prog_1_method_45_code
def yX6_firstBar : MethodName := ⟨RX6, "firstBar", "(LWheelWorks$Part;)I"⟩
abbrev cX6_lowestBarring : ByteArray := prog_1_method_46_code
def yX6_lowestBarring : MethodName := ⟨RX6, "lowestBarring", "(LWheelWorks$Part;I)I"⟩
abbrev cX6_isSo : ByteArray := prog_1_method_47_code
def yX6_isSo : MethodName := ⟨RX6, "isSo", "(LWheelWorks$Part;I)Z"⟩
abbrev cX6_hasEmptyPlace : ByteArray := prog_1_method_48_code
def yX6_hasEmptyPlace : MethodName := ⟨RX6, "hasEmptyPlace", "(LWheelWorks$Part;)Z"⟩
abbrev cX6_isApart : ByteArray := prog_1_method_49_code
def yX6_isApart : MethodName := ⟨RX6, "isApart", "(LWheelWorks$Part;)Z"⟩
abbrev cX6_spreadIn : ByteArray := prog_1_method_50_code
def yX6_spreadIn : MethodName := ⟨RX6, "spreadIn", "(LWheelWorks$Part;)I"⟩
def RX7 : String := "WheelWorksModel"
def TX7 : u_T := fun k => match k with
  | _ => ("", "", "", false)
def tyX7 : Nat → FieldType := fun k => match k with
  | _ => .int
abbrev wsX70 : List Cond := u_ws RX7 TX7 0
theorem nmX7 : ∀ a, a < 0 → ∀ b, b < 0 → a ≠ b → (TX7 a).2.1 ≠ (TX7 b).2.1 := by decide +kernel
theorem tyX7_ok : ∀ k, k < 0 → parseFieldDescriptor (TX7 k).2.2.1 = some (tyX7 k) := by decide +kernel
def RJx145de : String := "java/io/Serializable"
def TJx145de : u_T := fun k => match k with
  | _ => ("", "", "", false)
def tyJx145de : Nat → FieldType := fun k => match k with
  | _ => .int
abbrev wsJx145de0 : List Cond := u_ws RJx145de TJx145de 0
theorem nmJx145de : ∀ a, a < 0 → ∀ b, b < 0 → a ≠ b → (TJx145de a).2.1 ≠ (TJx145de b).2.1 := by decide +kernel
theorem tyJx145de_ok : ∀ k, k < 0 → parseFieldDescriptor (TJx145de k).2.2.1 = some (tyJx145de k) := by decide +kernel
def RJx8e188 : String := "java/lang/Cloneable"
def TJx8e188 : u_T := fun k => match k with
  | _ => ("", "", "", false)
def tyJx8e188 : Nat → FieldType := fun k => match k with
  | _ => .int
abbrev wsJx8e1880 : List Cond := u_ws RJx8e188 TJx8e188 0
theorem nmJx8e188 : ∀ a, a < 0 → ∀ b, b < 0 → a ≠ b → (TJx8e188 a).2.1 ≠ (TJx8e188 b).2.1 := by decide +kernel
theorem tyJx8e188_ok : ∀ k, k < 0 → parseFieldDescriptor (TJx8e188 k).2.2.1 = some (tyJx8e188 k) := by decide +kernel
def RJ6 : String := "java/lang/Integer"
def TJ6 : u_T := fun k => match k with
  | _ => ("", "", "", false)
def tyJ6 : Nat → FieldType := fun k => match k with
  | _ => .int
abbrev wsJ60 : List Cond := u_ws RJ6 TJ6 0
theorem nmJ6 : ∀ a, a < 0 → ∀ b, b < 0 → a ≠ b → (TJ6 a).2.1 ≠ (TJ6 b).2.1 := by decide +kernel
theorem tyJ6_ok : ∀ k, k < 0 → parseFieldDescriptor (TJ6 k).2.2.1 = some (tyJ6 k) := by decide +kernel
abbrev cJ6_bitCount_0f7a4 : ByteArray := prog_16_method_49_code
def yJ6_bitCount_0f7a4 : MethodName := ⟨RJ6, "bitCount", "(I)I"⟩
def RJxab1ab : String := "java/lang/Iterable"
def TJxab1ab : u_T := fun k => match k with
  | _ => ("", "", "", false)
def tyJxab1ab : Nat → FieldType := fun k => match k with
  | _ => .int
abbrev wsJxab1ab0 : List Cond := u_ws RJxab1ab TJxab1ab 0
theorem nmJxab1ab : ∀ a, a < 0 → ∀ b, b < 0 → a ≠ b → (TJxab1ab a).2.1 ≠ (TJxab1ab b).2.1 := by decide +kernel
theorem tyJxab1ab_ok : ∀ k, k < 0 → parseFieldDescriptor (TJxab1ab k).2.2.1 = some (tyJxab1ab k) := by decide +kernel
def RJ9 : String := "java/lang/Math"
def TJ9 : u_T := fun k => match k with
  | _ => ("", "", "", false)
def tyJ9 : Nat → FieldType := fun k => match k with
  | _ => .int
abbrev wsJ90 : List Cond := u_ws RJ9 TJ9 0
theorem nmJ9 : ∀ a, a < 0 → ∀ b, b < 0 → a ≠ b → (TJ9 a).2.1 ≠ (TJ9 b).2.1 := by decide +kernel
theorem tyJ9_ok : ∀ k, k < 0 → parseFieldDescriptor (TJ9 k).2.2.1 = some (tyJ9 k) := by decide +kernel
abbrev cJ9_abs_0f7a4 : ByteArray := prog_18_method_59_code
def yJ9_abs_0f7a4 : MethodName := ⟨RJ9, "abs", "(I)I"⟩
abbrev cJ9_max_7cf53 : ByteArray := prog_18_method_65_code
def yJ9_max_7cf53 : MethodName := ⟨RJ9, "max", "(II)I"⟩
abbrev cJ9_min_7cf53 : ByteArray := prog_18_method_69_code
def yJ9_min_7cf53 : MethodName := ⟨RJ9, "min", "(II)I"⟩
def RJ0 : String := "java/lang/String"
def TJ0 : u_T := fun k => match k with
  | _ => ("", "", "", false)
def tyJ0 : Nat → FieldType := fun k => match k with
  | _ => .int
abbrev wsJ00 : List Cond := u_ws RJ0 TJ0 0
theorem nmJ0 : ∀ a, a < 0 → ∀ b, b < 0 → a ≠ b → (TJ0 a).2.1 ≠ (TJ0 b).2.1 := by decide +kernel
theorem tyJ0_ok : ∀ k, k < 0 → parseFieldDescriptor (TJ0 k).2.2.1 = some (tyJ0 k) := by decide +kernel
def RJ10 : String := "java/lang/System"
def TJ10 : u_T := fun k => match k with
  | _ => ("", "", "", false)
def tyJ10 : Nat → FieldType := fun k => match k with
  | _ => .int
abbrev wsJ100 : List Cond := u_ws RJ10 TJ10 0
theorem nmJ10 : ∀ a, a < 0 → ∀ b, b < 0 → a ≠ b → (TJ10 a).2.1 ≠ (TJ10 b).2.1 := by decide +kernel
theorem tyJ10_ok : ∀ k, k < 0 → parseFieldDescriptor (TJ10 k).2.2.1 = some (tyJ10 k) := by decide +kernel
def RJxa1e45 : String := "java/util/AbstractCollection"
def TJxa1e45 : u_T := fun k => match k with
  | _ => ("", "", "", false)
def tyJxa1e45 : Nat → FieldType := fun k => match k with
  | _ => .int
abbrev wsJxa1e450 : List Cond := u_ws RJxa1e45 TJxa1e45 0
theorem nmJxa1e45 : ∀ a, a < 0 → ∀ b, b < 0 → a ≠ b → (TJxa1e45 a).2.1 ≠ (TJxa1e45 b).2.1 := by decide +kernel
theorem tyJxa1e45_ok : ∀ k, k < 0 → parseFieldDescriptor (TJxa1e45 k).2.2.1 = some (tyJxa1e45 k) := by decide +kernel
abbrev cJxa1e45_init_da8c8 : ByteArray := prog_23_method_1_code
def yJxa1e45_init_da8c8 : MethodName := ⟨RJxa1e45, "<init>", "()V"⟩
def RJxc12de : String := "java/util/AbstractList"
def TJxc12de : u_T := fun k => match k with
  | _ => ("", "", "", false)
def tyJxc12de : Nat → FieldType := fun k => match k with
  | _ => .int
abbrev wsJxc12de0 : List Cond := u_ws RJxc12de TJxc12de 0
theorem nmJxc12de : ∀ a, a < 0 → ∀ b, b < 0 → a ≠ b → (TJxc12de a).2.1 ≠ (TJxc12de b).2.1 := by decide +kernel
theorem tyJxc12de_ok : ∀ k, k < 0 → parseFieldDescriptor (TJxc12de k).2.2.1 = some (tyJxc12de k) := by decide +kernel
abbrev cJxc12de_init_da8c8 : ByteArray := prog_24_method_1_code
def yJxc12de_init_da8c8 : MethodName := ⟨RJxc12de, "<init>", "()V"⟩
def RJx4a65c : String := "java/util/ArrayList"
def TJx4a65c : u_T := fun k => match k with
  | 0 => ("java/util/AbstractList", "modCount", "I", false)
  | 1 => ("java/util/ArrayList", "elementData", "[Ljava/lang/Object;", false)
  | _ => ("java/util/ArrayList", "size", "I", false)
def tyJx4a65c : Nat → FieldType := fun k => match k with
  | 0 => .int
  | 1 => .array (.object "java/lang/Object")
  | _ => .int
abbrev wsJx4a65c0 : List Cond := u_ws RJx4a65c TJx4a65c 3
theorem nmJx4a65c : ∀ a, a < 3 → ∀ b, b < 3 → a ≠ b → (TJx4a65c a).2.1 ≠ (TJx4a65c b).2.1 := by decide +kernel
theorem tyJx4a65c_ok : ∀ k, k < 3 → parseFieldDescriptor (TJx4a65c k).2.2.1 = some (tyJx4a65c k) := by decide +kernel
abbrev cJx4a65c_init_da8c8 : ByteArray := prog_25_method_2_code
def yJx4a65c_init_da8c8 : MethodName := ⟨RJx4a65c, "<init>", "()V"⟩
abbrev cJx4a65c_grow_92f84 : ByteArray := prog_25_method_6_code
def yJx4a65c_grow_92f84 : MethodName := ⟨RJx4a65c, "grow", "(I)[Ljava/lang/Object;"⟩
abbrev cJx4a65c_grow_d5877 : ByteArray := prog_25_method_7_code
def yJx4a65c_grow_d5877 : MethodName := ⟨RJx4a65c, "grow", "()[Ljava/lang/Object;"⟩
abbrev cJx4a65c_size_8abf5 : ByteArray := prog_25_method_8_code
def yJx4a65c_size_8abf5 : MethodName := ⟨RJx4a65c, "size", "()I"⟩
abbrev cJx4a65c_isEmpty_aae02 : ByteArray := prog_25_method_9_code
def yJx4a65c_isEmpty_aae02 : MethodName := ⟨RJx4a65c, "isEmpty", "()Z"⟩
abbrev cJx4a65c_elementData_915e3 : ByteArray := prog_25_method_18_code
def yJx4a65c_elementData_915e3 : MethodName := ⟨RJx4a65c, "elementData", "(I)Ljava/lang/Object;"⟩
abbrev cJx4a65c_get_915e3 : ByteArray := prog_25_method_20_code
def yJx4a65c_get_915e3 : MethodName := ⟨RJx4a65c, "get", "(I)Ljava/lang/Object;"⟩
abbrev cJx4a65c_add_72be8 : ByteArray := prog_25_method_24_code
def yJx4a65c_add_72be8 : MethodName := ⟨RJx4a65c, "add", "(Ljava/lang/Object;[Ljava/lang/Object;I)V"⟩
abbrev cJx4a65c_add_9ea2d : ByteArray := prog_25_method_25_code
def yJx4a65c_add_9ea2d : MethodName := ⟨RJx4a65c, "add", "(Ljava/lang/Object;)Z"⟩
abbrev cJx4a65c_remove_915e3 : ByteArray := prog_25_method_29_code
def yJx4a65c_remove_915e3 : MethodName := ⟨RJx4a65c, "remove", "(I)Ljava/lang/Object;"⟩
abbrev cJx4a65c_fastRemove_b59b0 : ByteArray := prog_25_method_39_code
def yJx4a65c_fastRemove_b59b0 : MethodName := ⟨RJx4a65c, "fastRemove", "([Ljava/lang/Object;I)V"⟩
abbrev cJx4a65c_clear_da8c8 : ByteArray := prog_25_method_40_code
def yJx4a65c_clear_da8c8 : MethodName := ⟨RJx4a65c, "clear", "()V"⟩
def RJ7 : String := "java/util/Arrays"
def TJ7 : u_T := fun k => match k with
  | _ => ("", "", "", false)
def tyJ7 : Nat → FieldType := fun k => match k with
  | _ => .int
abbrev wsJ70 : List Cond := u_ws RJ7 TJ7 0
theorem nmJ7 : ∀ a, a < 0 → ∀ b, b < 0 → a ≠ b → (TJ7 a).2.1 ≠ (TJ7 b).2.1 := by decide +kernel
theorem tyJ7_ok : ∀ k, k < 0 → parseFieldDescriptor (TJ7 k).2.2.1 = some (tyJ7 k) := by decide +kernel
abbrev cJ7_copyOf_1904c : ByteArray := prog_26_method_119_code
def yJ7_copyOf_1904c : MethodName := ⟨RJ7, "copyOf", "([Ljava/lang/Object;I)[Ljava/lang/Object;"⟩
abbrev cJ7_copyOf_6403c : ByteArray := prog_26_method_120_code
def yJ7_copyOf_6403c : MethodName := ⟨RJ7, "copyOf", "([Ljava/lang/Object;ILjava/lang/Class;)[Ljava/lang/Object;"⟩
def RJx5ef63 : String := "java/util/Collection"
def TJx5ef63 : u_T := fun k => match k with
  | _ => ("", "", "", false)
def tyJx5ef63 : Nat → FieldType := fun k => match k with
  | _ => .int
abbrev wsJx5ef630 : List Cond := u_ws RJx5ef63 TJx5ef63 0
theorem nmJx5ef63 : ∀ a, a < 0 → ∀ b, b < 0 → a ≠ b → (TJx5ef63 a).2.1 ≠ (TJx5ef63 b).2.1 := by decide +kernel
theorem tyJx5ef63_ok : ∀ k, k < 0 → parseFieldDescriptor (TJx5ef63 k).2.2.1 = some (tyJx5ef63 k) := by decide +kernel
def RJxbd725 : String := "java/util/List"
def TJxbd725 : u_T := fun k => match k with
  | _ => ("", "", "", false)
def tyJxbd725 : Nat → FieldType := fun k => match k with
  | _ => .int
abbrev wsJxbd7250 : List Cond := u_ws RJxbd725 TJxbd725 0
theorem nmJxbd725 : ∀ a, a < 0 → ∀ b, b < 0 → a ≠ b → (TJxbd725 a).2.1 ≠ (TJxbd725 b).2.1 := by decide +kernel
theorem tyJxbd725_ok : ∀ k, k < 0 → parseFieldDescriptor (TJxbd725 k).2.2.1 = some (tyJxbd725 k) := by decide +kernel
def RJ15 : String := "java/util/Objects"
def TJ15 : u_T := fun k => match k with
  | _ => ("", "", "", false)
def tyJ15 : Nat → FieldType := fun k => match k with
  | _ => .int
abbrev wsJ150 : List Cond := u_ws RJ15 TJ15 0
theorem nmJ15 : ∀ a, a < 0 → ∀ b, b < 0 → a ≠ b → (TJ15 a).2.1 ≠ (TJ15 b).2.1 := by decide +kernel
theorem tyJ15_ok : ∀ k, k < 0 → parseFieldDescriptor (TJ15 k).2.2.1 = some (tyJ15 k) := by decide +kernel
abbrev cJ15_checkIndex_7cf53 : ByteArray := prog_29_method_17_code
def yJ15_checkIndex_7cf53 : MethodName := ⟨RJ15, "checkIndex", "(II)I"⟩
def RJxf0a74 : String := "java/util/RandomAccess"
def TJxf0a74 : u_T := fun k => match k with
  | _ => ("", "", "", false)
def tyJxf0a74 : Nat → FieldType := fun k => match k with
  | _ => .int
abbrev wsJxf0a740 : List Cond := u_ws RJxf0a74 TJxf0a74 0
theorem nmJxf0a74 : ∀ a, a < 0 → ∀ b, b < 0 → a ≠ b → (TJxf0a74 a).2.1 ≠ (TJxf0a74 b).2.1 := by decide +kernel
theorem tyJxf0a74_ok : ∀ k, k < 0 → parseFieldDescriptor (TJxf0a74 k).2.2.1 = some (tyJxf0a74 k) := by decide +kernel
def RJxa66e6 : String := "java/util/SequencedCollection"
def TJxa66e6 : u_T := fun k => match k with
  | _ => ("", "", "", false)
def tyJxa66e6 : Nat → FieldType := fun k => match k with
  | _ => .int
abbrev wsJxa66e60 : List Cond := u_ws RJxa66e6 TJxa66e6 0
theorem nmJxa66e6 : ∀ a, a < 0 → ∀ b, b < 0 → a ≠ b → (TJxa66e6 a).2.1 ≠ (TJxa66e6 b).2.1 := by decide +kernel
theorem tyJxa66e6_ok : ∀ k, k < 0 → parseFieldDescriptor (TJxa66e6 k).2.2.1 = some (tyJxa66e6 k) := by decide +kernel
def RJ8 : String := "jdk/internal/util/ArraysSupport"
def TJ8 : u_T := fun k => match k with
  | _ => ("", "", "", false)
def tyJ8 : Nat → FieldType := fun k => match k with
  | _ => .int
abbrev wsJ80 : List Cond := u_ws RJ8 TJ8 0
theorem nmJ8 : ∀ a, a < 0 → ∀ b, b < 0 → a ≠ b → (TJ8 a).2.1 ≠ (TJ8 b).2.1 := by decide +kernel
theorem tyJ8_ok : ∀ k, k < 0 → parseFieldDescriptor (TJ8 k).2.2.1 = some (tyJ8 k) := by decide +kernel
abbrev cJ8_newLength_cabcc : ByteArray := prog_32_method_27_code
def yJ8_newLength_cabcc : MethodName := ⟨RJ8, "newLength", "(III)I"⟩
abbrev cJ8_hugeLength_7cf53 : ByteArray := prog_32_method_28_code
def yJ8_hugeLength_7cf53 : MethodName := ⟨RJ8, "hugeLength", "(II)I"⟩
def RJ3 : String := "jdk/internal/util/Preconditions"
def TJ3 : u_T := fun k => match k with
  | _ => ("", "", "", false)
def tyJ3 : Nat → FieldType := fun k => match k with
  | _ => .int
abbrev wsJ30 : List Cond := u_ws RJ3 TJ3 0
theorem nmJ3 : ∀ a, a < 0 → ∀ b, b < 0 → a ≠ b → (TJ3 a).2.1 ≠ (TJ3 b).2.1 := by decide +kernel
theorem tyJ3_ok : ∀ k, k < 0 → parseFieldDescriptor (TJ3 k).2.2.1 = some (tyJ3 k) := by decide +kernel
abbrev cJ3_checkIndex_8e157 : ByteArray := prog_33_method_11_code
def yJ3_checkIndex_8e157 : MethodName := ⟨RJ3, "checkIndex", "(IILjava/util/function/BiFunction;)I"⟩
def RL : String := "WheelWorksLaw"
abbrev cL_cell : ByteArray := method_2_code
def yL_cell : MethodName := ⟨RL, "cell", "([II)I"⟩
abbrev cL_low : ByteArray := method_3_code
def yL_low : MethodName := ⟨RL, "low", "(II)I"⟩
abbrev cL_build : ByteArray := method_4_code
def yL_build : MethodName := ⟨RL, "build", "(LWheelWorks;)Z"⟩
abbrev cL_inside : ByteArray := method_5_code
def yL_inside : MethodName := ⟨RL, "inside", "(LWheelWorks;II)I"⟩
abbrev cL_room : ByteArray := method_6_code
def yL_room : MethodName := ⟨RL, "room", "(II)I"⟩
abbrev cL_stands : ByteArray := method_7_code
def yL_stands : MethodName := ⟨RL, "stands", "(LWheelWorks;I)Z"⟩
abbrev cL_law : ByteArray := code
def yL_law : MethodName := ⟨RL, "law", "([I)Z"⟩
abbrev vwCl : List vw_C := [(RJx4a65c, TJx4a65c, 3), (RX0, TX0, 3), (RX1, TX1, 3), (RX2, TX2, 2), (RX3, TX3, 18), (RX4, TX4, 4), (RX5, TX5, 5), (RX6, TX6, 4)]
end
section
theorem dX0_init_0 : decode cX0_init 0 = .ok (.aload_n 0, 1) := by decide +kernel
theorem dX0_init_1 : decode cX0_init 1 = .ok (.invokespecial 1, 3) := by decide +kernel
theorem dX0_init_4 : decode cX0_init 4 = .ok (.aload_n 0, 1) := by decide +kernel
theorem dX0_init_5 : decode cX0_init 5 = .ok (.iload_n 1, 1) := by decide +kernel
theorem dX0_init_6 : decode cX0_init 6 = .ok (.putfield 7, 3) := by decide +kernel
theorem dX0_init_9 : decode cX0_init 9 = .ok (.aload_n 0, 1) := by decide +kernel
theorem dX0_init_10 : decode cX0_init 10 = .ok (.iload_n 2, 1) := by decide +kernel
theorem dX0_init_11 : decode cX0_init 11 = .ok (.putfield 13, 3) := by decide +kernel
theorem dX0_init_14 : decode cX0_init 14 = .ok (.aload_n 0, 1) := by decide +kernel
theorem dX0_init_15 : decode cX0_init 15 = .ok (.iload_n 3, 1) := by decide +kernel
theorem dX0_init_16 : decode cX0_init 16 = .ok (.putfield 16, 3) := by decide +kernel
theorem dX0_init_19 : decode cX0_init 19 = .ok (.return_, 1) := by decide +kernel
theorem dX1_init_0 : decode cX1_init 0 = .ok (.aload_n 0, 1) := by decide +kernel
theorem dX1_init_1 : decode cX1_init 1 = .ok (.invokespecial 1, 3) := by decide +kernel
theorem dX1_init_4 : decode cX1_init 4 = .ok (.return_, 1) := by decide +kernel
theorem dX2_init_0 : decode cX2_init 0 = .ok (.aload_n 0, 1) := by decide +kernel
theorem dX2_init_1 : decode cX2_init 1 = .ok (.invokespecial 3, 3) := by decide +kernel
theorem dX2_init_4 : decode cX2_init 4 = .ok (.aload_n 0, 1) := by decide +kernel
theorem dX2_init_5 : decode cX2_init 5 = .ok (.new 9, 3) := by decide +kernel
theorem dX2_init_8 : decode cX2_init 8 = .ok (.dup, 1) := by decide +kernel
theorem dX2_init_9 : decode cX2_init 9 = .ok (.invokespecial 11, 3) := by decide +kernel
theorem dX2_init_12 : decode cX2_init 12 = .ok (.putfield 12, 3) := by decide +kernel
theorem dX2_init_15 : decode cX2_init 15 = .ok (.aload_n 0, 1) := by decide +kernel
theorem dX2_init_16 : decode cX2_init 16 = .ok (.bipush 60, 2) := by decide +kernel
theorem dX2_init_18 : decode cX2_init 18 = .ok (.newarray .int, 2) := by decide +kernel
theorem dX2_init_20 : decode cX2_init 20 = .ok (.putfield 18, 3) := by decide +kernel
theorem dX2_init_23 : decode cX2_init 23 = .ok (.return_, 1) := by decide +kernel
theorem dX2_addMove_0 : decode cX2_addMove 0 = .ok (.aload_n 0, 1) := by decide +kernel
theorem dX2_addMove_1 : decode cX2_addMove 1 = .ok (.new 22, 3) := by decide +kernel
theorem dX2_addMove_4 : decode cX2_addMove 4 = .ok (.dup, 1) := by decide +kernel
theorem dX2_addMove_5 : decode cX2_addMove 5 = .ok (.iload_n 1, 1) := by decide +kernel
theorem dX2_addMove_6 : decode cX2_addMove 6 = .ok (.iload_n 2, 1) := by decide +kernel
theorem dX2_addMove_7 : decode cX2_addMove 7 = .ok (.iconst 0, 1) := by decide +kernel
theorem dX2_addMove_8 : decode cX2_addMove 8 = .ok (.invokespecial 24, 3) := by decide +kernel
theorem dX2_addMove_11 : decode cX2_addMove 11 = .ok (.invokevirtual 27, 3) := by decide +kernel
theorem dX2_addMove_14 : decode cX2_addMove 14 = .ok (.return_, 1) := by decide +kernel
theorem dX2_addRun_0 : decode cX2_addRun 0 = .ok (.aload_n 0, 1) := by decide +kernel
theorem dX2_addRun_1 : decode cX2_addRun 1 = .ok (.new 22, 3) := by decide +kernel
theorem dX2_addRun_4 : decode cX2_addRun 4 = .ok (.dup, 1) := by decide +kernel
theorem dX2_addRun_5 : decode cX2_addRun 5 = .ok (.iload_n 1, 1) := by decide +kernel
theorem dX2_addRun_6 : decode cX2_addRun 6 = .ok (.iconst (-1), 1) := by decide +kernel
theorem dX2_addRun_7 : decode cX2_addRun 7 = .ok (.iload_n 2, 1) := by decide +kernel
theorem dX2_addRun_8 : decode cX2_addRun 8 = .ok (.invokespecial 24, 3) := by decide +kernel
theorem dX2_addRun_11 : decode cX2_addRun 11 = .ok (.invokevirtual 27, 3) := by decide +kernel
theorem dX2_addRun_14 : decode cX2_addRun 14 = .ok (.return_, 1) := by decide +kernel
theorem dX2_add_0 : decode cX2_add 0 = .ok (.aload_n 0, 1) := by decide +kernel
theorem dX2_add_1 : decode cX2_add 1 = .ok (.getfield 12, 3) := by decide +kernel
theorem dX2_add_4 : decode cX2_add 4 = .ok (.invokevirtual 31, 3) := by decide +kernel
theorem dX2_add_7 : decode cX2_add 7 = .ok (.sipush 512, 3) := by decide +kernel
theorem dX2_add_10 : decode cX2_add 10 = .ok (.if_icmp .ge 12, 3) := by decide +kernel
theorem dX2_add_13 : decode cX2_add 13 = .ok (.aload_n 0, 1) := by decide +kernel
theorem dX2_add_14 : decode cX2_add 14 = .ok (.getfield 12, 3) := by decide +kernel
theorem dX2_add_17 : decode cX2_add 17 = .ok (.aload_n 1, 1) := by decide +kernel
theorem dX2_add_18 : decode cX2_add 18 = .ok (.invokevirtual 35, 3) := by decide +kernel
theorem dX2_add_21 : decode cX2_add 21 = .ok (.pop, 1) := by decide +kernel
theorem dX2_add_22 : decode cX2_add 22 = .ok (.return_, 1) := by decide +kernel
theorem dX2_movesOf_0 : decode cX2_movesOf 0 = .ok (.iconst 0, 1) := by decide +kernel
theorem dX2_movesOf_1 : decode cX2_movesOf 1 = .ok (.istore_n 2, 1) := by decide +kernel
theorem dX2_movesOf_2 : decode cX2_movesOf 2 = .ok (.iconst 0, 1) := by decide +kernel
theorem dX2_movesOf_3 : decode cX2_movesOf 3 = .ok (.istore_n 3, 1) := by decide +kernel
theorem dX2_movesOf_4 : decode cX2_movesOf 4 = .ok (.iload_n 3, 1) := by decide +kernel
theorem dX2_movesOf_5 : decode cX2_movesOf 5 = .ok (.aload_n 0, 1) := by decide +kernel
theorem dX2_movesOf_6 : decode cX2_movesOf 6 = .ok (.getfield 12, 3) := by decide +kernel
theorem dX2_movesOf_9 : decode cX2_movesOf 9 = .ok (.invokevirtual 31, 3) := by decide +kernel
theorem dX2_movesOf_12 : decode cX2_movesOf 12 = .ok (.if_icmp .ge 30, 3) := by decide +kernel
theorem dX2_movesOf_15 : decode cX2_movesOf 15 = .ok (.aload_n 0, 1) := by decide +kernel
theorem dX2_movesOf_16 : decode cX2_movesOf 16 = .ok (.getfield 12, 3) := by decide +kernel
theorem dX2_movesOf_19 : decode cX2_movesOf 19 = .ok (.iload_n 3, 1) := by decide +kernel
theorem dX2_movesOf_20 : decode cX2_movesOf 20 = .ok (.invokevirtual 38, 3) := by decide +kernel
theorem dX2_movesOf_23 : decode cX2_movesOf 23 = .ok (.checkcast 22, 3) := by decide +kernel
theorem dX2_movesOf_26 : decode cX2_movesOf 26 = .ok (.iload_n 1, 1) := by decide +kernel
theorem dX2_movesOf_27 : decode cX2_movesOf 27 = .ok (.invokestatic 42, 3) := by decide +kernel
theorem dX2_movesOf_30 : decode cX2_movesOf 30 = .ok (.ifCond .eq 6, 3) := by decide +kernel
theorem dX2_movesOf_33 : decode cX2_movesOf 33 = .ok (.iinc 2 1, 3) := by decide +kernel
theorem dX2_movesOf_36 : decode cX2_movesOf 36 = .ok (.iinc 3 1, 3) := by decide +kernel
theorem dX2_movesOf_39 : decode cX2_movesOf 39 = .ok (.goto (-35), 3) := by decide +kernel
theorem dX2_movesOf_42 : decode cX2_movesOf 42 = .ok (.iload_n 2, 1) := by decide +kernel
theorem dX2_movesOf_43 : decode cX2_movesOf 43 = .ok (.ireturn, 1) := by decide +kernel
theorem dX2_moveOf_0 : decode cX2_moveOf 0 = .ok (.iconst 0, 1) := by decide +kernel
theorem dX2_moveOf_1 : decode cX2_moveOf 1 = .ok (.istore_n 3, 1) := by decide +kernel
theorem dX2_moveOf_2 : decode cX2_moveOf 2 = .ok (.iconst 0, 1) := by decide +kernel
theorem dX2_moveOf_3 : decode cX2_moveOf 3 = .ok (.istore 4, 2) := by decide +kernel
theorem dX2_moveOf_5 : decode cX2_moveOf 5 = .ok (.iload 4, 2) := by decide +kernel
theorem dX2_moveOf_7 : decode cX2_moveOf 7 = .ok (.aload_n 0, 1) := by decide +kernel
theorem dX2_moveOf_8 : decode cX2_moveOf 8 = .ok (.getfield 12, 3) := by decide +kernel
theorem dX2_moveOf_11 : decode cX2_moveOf 11 = .ok (.invokevirtual 31, 3) := by decide +kernel
theorem dX2_moveOf_14 : decode cX2_moveOf 14 = .ok (.if_icmp .ge 43, 3) := by decide +kernel
theorem dX2_moveOf_17 : decode cX2_moveOf 17 = .ok (.aload_n 0, 1) := by decide +kernel
theorem dX2_moveOf_18 : decode cX2_moveOf 18 = .ok (.getfield 12, 3) := by decide +kernel
theorem dX2_moveOf_21 : decode cX2_moveOf 21 = .ok (.iload 4, 2) := by decide +kernel
theorem dX2_moveOf_23 : decode cX2_moveOf 23 = .ok (.invokevirtual 38, 3) := by decide +kernel
theorem dX2_moveOf_26 : decode cX2_moveOf 26 = .ok (.checkcast 22, 3) := by decide +kernel
theorem dX2_moveOf_29 : decode cX2_moveOf 29 = .ok (.astore 5, 2) := by decide +kernel
theorem dX2_moveOf_31 : decode cX2_moveOf 31 = .ok (.aload 5, 2) := by decide +kernel
theorem dX2_moveOf_33 : decode cX2_moveOf 33 = .ok (.iload_n 1, 1) := by decide +kernel
theorem dX2_moveOf_34 : decode cX2_moveOf 34 = .ok (.invokestatic 42, 3) := by decide +kernel
theorem dX2_moveOf_37 : decode cX2_moveOf 37 = .ok (.ifCond .eq 14, 3) := by decide +kernel
theorem dX2_moveOf_40 : decode cX2_moveOf 40 = .ok (.iload_n 3, 1) := by decide +kernel
theorem dX2_moveOf_41 : decode cX2_moveOf 41 = .ok (.iload_n 2, 1) := by decide +kernel
theorem dX2_moveOf_42 : decode cX2_moveOf 42 = .ok (.if_icmp .ne 6, 3) := by decide +kernel
theorem dX2_moveOf_45 : decode cX2_moveOf 45 = .ok (.aload 5, 2) := by decide +kernel
theorem dX2_moveOf_47 : decode cX2_moveOf 47 = .ok (.areturn, 1) := by decide +kernel
theorem dX2_moveOf_48 : decode cX2_moveOf 48 = .ok (.iinc 3 1, 3) := by decide +kernel
theorem dX2_moveOf_51 : decode cX2_moveOf 51 = .ok (.iinc 4 1, 3) := by decide +kernel
theorem dX2_moveOf_54 : decode cX2_moveOf 54 = .ok (.goto (-49), 3) := by decide +kernel
theorem dX2_moveOf_57 : decode cX2_moveOf 57 = .ok (.aconst_null, 1) := by decide +kernel
theorem dX2_moveOf_58 : decode cX2_moveOf 58 = .ok (.areturn, 1) := by decide +kernel
theorem dX2_isMoveOf_0 : decode cX2_isMoveOf 0 = .ok (.aload_n 0, 1) := by decide +kernel
theorem dX2_isMoveOf_1 : decode cX2_isMoveOf 1 = .ok (.getfield 46, 3) := by decide +kernel
theorem dX2_isMoveOf_4 : decode cX2_isMoveOf 4 = .ok (.iload_n 1, 1) := by decide +kernel
theorem dX2_isMoveOf_5 : decode cX2_isMoveOf 5 = .ok (.if_icmp .ne 14, 3) := by decide +kernel
theorem dX2_isMoveOf_8 : decode cX2_isMoveOf 8 = .ok (.aload_n 0, 1) := by decide +kernel
theorem dX2_isMoveOf_9 : decode cX2_isMoveOf 9 = .ok (.getfield 50, 3) := by decide +kernel
theorem dX2_isMoveOf_12 : decode cX2_isMoveOf 12 = .ok (.ifCond .ne 7, 3) := by decide +kernel
theorem dX2_isMoveOf_15 : decode cX2_isMoveOf 15 = .ok (.iconst 1, 1) := by decide +kernel
theorem dX2_isMoveOf_16 : decode cX2_isMoveOf 16 = .ok (.goto 4, 3) := by decide +kernel
theorem dX2_isMoveOf_19 : decode cX2_isMoveOf 19 = .ok (.iconst 0, 1) := by decide +kernel
theorem dX2_isMoveOf_20 : decode cX2_isMoveOf 20 = .ok (.ireturn, 1) := by decide +kernel
theorem dX2_lifeOf_0 : decode cX2_lifeOf 0 = .ok (.iconst 0, 1) := by decide +kernel
theorem dX2_lifeOf_1 : decode cX2_lifeOf 1 = .ok (.istore_n 2, 1) := by decide +kernel
theorem dX2_lifeOf_2 : decode cX2_lifeOf 2 = .ok (.iload_n 2, 1) := by decide +kernel
theorem dX2_lifeOf_3 : decode cX2_lifeOf 3 = .ok (.aload_n 0, 1) := by decide +kernel
theorem dX2_lifeOf_4 : decode cX2_lifeOf 4 = .ok (.getfield 18, 3) := by decide +kernel
theorem dX2_lifeOf_7 : decode cX2_lifeOf 7 = .ok (.arraylength, 1) := by decide +kernel
theorem dX2_lifeOf_8 : decode cX2_lifeOf 8 = .ok (.if_icmp .ge 16, 3) := by decide +kernel
theorem dX2_lifeOf_11 : decode cX2_lifeOf 11 = .ok (.aload_n 0, 1) := by decide +kernel
theorem dX2_lifeOf_12 : decode cX2_lifeOf 12 = .ok (.getfield 18, 3) := by decide +kernel
theorem dX2_lifeOf_15 : decode cX2_lifeOf 15 = .ok (.iload_n 2, 1) := by decide +kernel
theorem dX2_lifeOf_16 : decode cX2_lifeOf 16 = .ok (.iconst (-1), 1) := by decide +kernel
theorem dX2_lifeOf_17 : decode cX2_lifeOf 17 = .ok (.iastore, 1) := by decide +kernel
theorem dX2_lifeOf_18 : decode cX2_lifeOf 18 = .ok (.iinc 2 1, 3) := by decide +kernel
theorem dX2_lifeOf_21 : decode cX2_lifeOf 21 = .ok (.goto (-19), 3) := by decide +kernel
theorem dX2_lifeOf_24 : decode cX2_lifeOf 24 = .ok (.iconst 0, 1) := by decide +kernel
theorem dX2_lifeOf_25 : decode cX2_lifeOf 25 = .ok (.istore_n 2, 1) := by decide +kernel
theorem dX2_lifeOf_26 : decode cX2_lifeOf 26 = .ok (.iconst 0, 1) := by decide +kernel
theorem dX2_lifeOf_27 : decode cX2_lifeOf 27 = .ok (.istore_n 3, 1) := by decide +kernel
theorem dX2_lifeOf_28 : decode cX2_lifeOf 28 = .ok (.iload_n 3, 1) := by decide +kernel
theorem dX2_lifeOf_29 : decode cX2_lifeOf 29 = .ok (.aload_n 0, 1) := by decide +kernel
theorem dX2_lifeOf_30 : decode cX2_lifeOf 30 = .ok (.getfield 12, 3) := by decide +kernel
theorem dX2_lifeOf_33 : decode cX2_lifeOf 33 = .ok (.invokevirtual 31, 3) := by decide +kernel
theorem dX2_lifeOf_36 : decode cX2_lifeOf 36 = .ok (.if_icmp .ge 85, 3) := by decide +kernel
theorem dX2_lifeOf_39 : decode cX2_lifeOf 39 = .ok (.aload_n 0, 1) := by decide +kernel
theorem dX2_lifeOf_40 : decode cX2_lifeOf 40 = .ok (.getfield 12, 3) := by decide +kernel
theorem dX2_lifeOf_43 : decode cX2_lifeOf 43 = .ok (.iload_n 3, 1) := by decide +kernel
theorem dX2_lifeOf_44 : decode cX2_lifeOf 44 = .ok (.invokevirtual 38, 3) := by decide +kernel
theorem dX2_lifeOf_47 : decode cX2_lifeOf 47 = .ok (.checkcast 22, 3) := by decide +kernel
theorem dX2_lifeOf_50 : decode cX2_lifeOf 50 = .ok (.astore 4, 2) := by decide +kernel
theorem dX2_lifeOf_52 : decode cX2_lifeOf 52 = .ok (.aload 4, 2) := by decide +kernel
theorem dX2_lifeOf_54 : decode cX2_lifeOf 54 = .ok (.getfield 50, 3) := by decide +kernel
theorem dX2_lifeOf_57 : decode cX2_lifeOf 57 = .ok (.ifCond .le 31, 3) := by decide +kernel
theorem dX2_lifeOf_60 : decode cX2_lifeOf 60 = .ok (.iload_n 2, 1) := by decide +kernel
theorem dX2_lifeOf_61 : decode cX2_lifeOf 61 = .ok (.aload_n 0, 1) := by decide +kernel
theorem dX2_lifeOf_62 : decode cX2_lifeOf 62 = .ok (.iload_n 1, 1) := by decide +kernel
theorem dX2_lifeOf_63 : decode cX2_lifeOf 63 = .ok (.invokevirtual 53, 3) := by decide +kernel
theorem dX2_lifeOf_66 : decode cX2_lifeOf 66 = .ok (.aload 4, 2) := by decide +kernel
theorem dX2_lifeOf_68 : decode cX2_lifeOf 68 = .ok (.getfield 46, 3) := by decide +kernel
theorem dX2_lifeOf_71 : decode cX2_lifeOf 71 = .ok (.if_icmp .ne 11, 3) := by decide +kernel
theorem dX2_lifeOf_74 : decode cX2_lifeOf 74 = .ok (.aload 4, 2) := by decide +kernel
theorem dX2_lifeOf_76 : decode cX2_lifeOf 76 = .ok (.getfield 50, 3) := by decide +kernel
theorem dX2_lifeOf_79 : decode cX2_lifeOf 79 = .ok (.goto 4, 3) := by decide +kernel
theorem dX2_lifeOf_82 : decode cX2_lifeOf 82 = .ok (.iconst 0, 1) := by decide +kernel
theorem dX2_lifeOf_83 : decode cX2_lifeOf 83 = .ok (.iadd, 1) := by decide +kernel
theorem dX2_lifeOf_84 : decode cX2_lifeOf 84 = .ok (.istore_n 2, 1) := by decide +kernel
theorem dX2_lifeOf_85 : decode cX2_lifeOf 85 = .ok (.goto 30, 3) := by decide +kernel
theorem dX2_lifeOf_88 : decode cX2_lifeOf 88 = .ok (.aload_n 0, 1) := by decide +kernel
theorem dX2_lifeOf_89 : decode cX2_lifeOf 89 = .ok (.aload 4, 2) := by decide +kernel
theorem dX2_lifeOf_91 : decode cX2_lifeOf 91 = .ok (.getfield 46, 3) := by decide +kernel
theorem dX2_lifeOf_94 : decode cX2_lifeOf 94 = .ok (.invokevirtual 57, 3) := by decide +kernel
theorem dX2_lifeOf_97 : decode cX2_lifeOf 97 = .ok (.ifCond .eq 18, 3) := by decide +kernel
theorem dX2_lifeOf_100 : decode cX2_lifeOf 100 = .ok (.aload_n 0, 1) := by decide +kernel
theorem dX2_lifeOf_101 : decode cX2_lifeOf 101 = .ok (.getfield 18, 3) := by decide +kernel
theorem dX2_lifeOf_104 : decode cX2_lifeOf 104 = .ok (.aload 4, 2) := by decide +kernel
theorem dX2_lifeOf_106 : decode cX2_lifeOf 106 = .ok (.getfield 46, 3) := by decide +kernel
theorem dX2_lifeOf_109 : decode cX2_lifeOf 109 = .ok (.aload 4, 2) := by decide +kernel
theorem dX2_lifeOf_111 : decode cX2_lifeOf 111 = .ok (.getfield 61, 3) := by decide +kernel
theorem dX2_lifeOf_114 : decode cX2_lifeOf 114 = .ok (.iastore, 1) := by decide +kernel
theorem dX2_lifeOf_115 : decode cX2_lifeOf 115 = .ok (.iinc 3 1, 3) := by decide +kernel
theorem dX2_lifeOf_118 : decode cX2_lifeOf 118 = .ok (.goto (-90), 3) := by decide +kernel
theorem dX2_lifeOf_121 : decode cX2_lifeOf 121 = .ok (.iload_n 2, 1) := by decide +kernel
theorem dX2_lifeOf_122 : decode cX2_lifeOf 122 = .ok (.ireturn, 1) := by decide +kernel
theorem dX2_topThen_0 : decode cX2_topThen 0 = .ok (.iload_n 1, 1) := by decide +kernel
theorem dX2_topThen_1 : decode cX2_topThen 1 = .ok (.istore_n 2, 1) := by decide +kernel
theorem dX2_topThen_2 : decode cX2_topThen 2 = .ok (.iconst 0, 1) := by decide +kernel
theorem dX2_topThen_3 : decode cX2_topThen 3 = .ok (.istore_n 3, 1) := by decide +kernel
theorem dX2_topThen_4 : decode cX2_topThen 4 = .ok (.iload_n 3, 1) := by decide +kernel
theorem dX2_topThen_5 : decode cX2_topThen 5 = .ok (.iconst 4, 1) := by decide +kernel
theorem dX2_topThen_6 : decode cX2_topThen 6 = .ok (.if_icmp .gt 33, 3) := by decide +kernel
theorem dX2_topThen_9 : decode cX2_topThen 9 = .ok (.aload_n 0, 1) := by decide +kernel
theorem dX2_topThen_10 : decode cX2_topThen 10 = .ok (.iload_n 2, 1) := by decide +kernel
theorem dX2_topThen_11 : decode cX2_topThen 11 = .ok (.invokevirtual 57, 3) := by decide +kernel
theorem dX2_topThen_14 : decode cX2_topThen 14 = .ok (.ifCond .eq 25, 3) := by decide +kernel
theorem dX2_topThen_17 : decode cX2_topThen 17 = .ok (.aload_n 0, 1) := by decide +kernel
theorem dX2_topThen_18 : decode cX2_topThen 18 = .ok (.getfield 18, 3) := by decide +kernel
theorem dX2_topThen_21 : decode cX2_topThen 21 = .ok (.iload_n 2, 1) := by decide +kernel
theorem dX2_topThen_22 : decode cX2_topThen 22 = .ok (.iaload, 1) := by decide +kernel
theorem dX2_topThen_23 : decode cX2_topThen 23 = .ok (.ifCond .lt 16, 3) := by decide +kernel
theorem dX2_topThen_26 : decode cX2_topThen 26 = .ok (.aload_n 0, 1) := by decide +kernel
theorem dX2_topThen_27 : decode cX2_topThen 27 = .ok (.getfield 18, 3) := by decide +kernel
theorem dX2_topThen_30 : decode cX2_topThen 30 = .ok (.iload_n 2, 1) := by decide +kernel
theorem dX2_topThen_31 : decode cX2_topThen 31 = .ok (.iaload, 1) := by decide +kernel
theorem dX2_topThen_32 : decode cX2_topThen 32 = .ok (.istore_n 2, 1) := by decide +kernel
theorem dX2_topThen_33 : decode cX2_topThen 33 = .ok (.iinc 3 1, 3) := by decide +kernel
theorem dX2_topThen_36 : decode cX2_topThen 36 = .ok (.goto (-32), 3) := by decide +kernel
theorem dX2_topThen_39 : decode cX2_topThen 39 = .ok (.iload_n 2, 1) := by decide +kernel
theorem dX2_topThen_40 : decode cX2_topThen 40 = .ok (.ireturn, 1) := by decide +kernel
theorem dX2_isPart_0 : decode cX2_isPart 0 = .ok (.iload_n 1, 1) := by decide +kernel
theorem dX2_isPart_1 : decode cX2_isPart 1 = .ok (.ifCond .lt 16, 3) := by decide +kernel
theorem dX2_isPart_4 : decode cX2_isPart 4 = .ok (.iload_n 1, 1) := by decide +kernel
theorem dX2_isPart_5 : decode cX2_isPart 5 = .ok (.aload_n 0, 1) := by decide +kernel
theorem dX2_isPart_6 : decode cX2_isPart 6 = .ok (.getfield 18, 3) := by decide +kernel
theorem dX2_isPart_9 : decode cX2_isPart 9 = .ok (.arraylength, 1) := by decide +kernel
theorem dX2_isPart_10 : decode cX2_isPart 10 = .ok (.if_icmp .ge 7, 3) := by decide +kernel
theorem dX2_isPart_13 : decode cX2_isPart 13 = .ok (.iconst 1, 1) := by decide +kernel
theorem dX2_isPart_14 : decode cX2_isPart 14 = .ok (.goto 4, 3) := by decide +kernel
theorem dX2_isPart_17 : decode cX2_isPart 17 = .ok (.iconst 0, 1) := by decide +kernel
theorem dX2_isPart_18 : decode cX2_isPart 18 = .ok (.ireturn, 1) := by decide +kernel
theorem dX3_init_0 : decode cX3_init 0 = .ok (.aload_n 0, 1) := by decide +kernel
theorem dX3_init_1 : decode cX3_init 1 = .ok (.invokespecial 3, 3) := by decide +kernel
theorem dX3_init_4 : decode cX3_init 4 = .ok (.aload_n 0, 1) := by decide +kernel
theorem dX3_init_5 : decode cX3_init 5 = .ok (.iconst (-1), 1) := by decide +kernel
theorem dX3_init_6 : decode cX3_init 6 = .ok (.putfield 9, 3) := by decide +kernel
theorem dX3_init_9 : decode cX3_init 9 = .ok (.aload_n 0, 1) := by decide +kernel
theorem dX3_init_10 : decode cX3_init 10 = .ok (.iload_n 1, 1) := by decide +kernel
theorem dX3_init_11 : decode cX3_init 11 = .ok (.putfield 15, 3) := by decide +kernel
theorem dX3_init_14 : decode cX3_init 14 = .ok (.aload_n 0, 1) := by decide +kernel
theorem dX3_init_15 : decode cX3_init 15 = .ok (.iload_n 2, 1) := by decide +kernel
theorem dX3_init_16 : decode cX3_init 16 = .ok (.putfield 18, 3) := by decide +kernel
theorem dX3_init_19 : decode cX3_init 19 = .ok (.aload_n 0, 1) := by decide +kernel
theorem dX3_init_20 : decode cX3_init 20 = .ok (.iload_n 3, 1) := by decide +kernel
theorem dX3_init_21 : decode cX3_init 21 = .ok (.putfield 21, 3) := by decide +kernel
theorem dX3_init_24 : decode cX3_init 24 = .ok (.aload_n 0, 1) := by decide +kernel
theorem dX3_init_25 : decode cX3_init 25 = .ok (.iload 4, 2) := by decide +kernel
theorem dX3_init_27 : decode cX3_init 27 = .ok (.putfield 24, 3) := by decide +kernel
theorem dX3_init_30 : decode cX3_init 30 = .ok (.aload_n 0, 1) := by decide +kernel
theorem dX3_init_31 : decode cX3_init 31 = .ok (.aload 5, 2) := by decide +kernel
theorem dX3_init_33 : decode cX3_init 33 = .ok (.putfield 27, 3) := by decide +kernel
theorem dX3_init_36 : decode cX3_init 36 = .ok (.aload_n 0, 1) := by decide +kernel
theorem dX3_init_37 : decode cX3_init 37 = .ok (.iload_n 2, 1) := by decide +kernel
theorem dX3_init_38 : decode cX3_init 38 = .ok (.iconst 3, 1) := by decide +kernel
theorem dX3_init_39 : decode cX3_init 39 = .ok (.if_icmp .ne 13, 3) := by decide +kernel
theorem dX3_init_42 : decode cX3_init 42 = .ok (.new 31, 3) := by decide +kernel
theorem dX3_init_45 : decode cX3_init 45 = .ok (.dup, 1) := by decide +kernel
theorem dX3_init_46 : decode cX3_init 46 = .ok (.invokespecial 33, 3) := by decide +kernel
theorem dX3_init_49 : decode cX3_init 49 = .ok (.goto 4, 3) := by decide +kernel
theorem dX3_init_52 : decode cX3_init 52 = .ok (.aconst_null, 1) := by decide +kernel
theorem dX3_init_53 : decode cX3_init 53 = .ok (.putfield 34, 3) := by decide +kernel
theorem dX3_init_56 : decode cX3_init 56 = .ok (.return_, 1) := by decide +kernel
theorem dX3_whereabouts_0 : decode cX3_whereabouts 0 = .ok (.aload_n 0, 1) := by decide +kernel
theorem dX3_whereabouts_1 : decode cX3_whereabouts 1 = .ok (.getfield 38, 3) := by decide +kernel
theorem dX3_whereabouts_4 : decode cX3_whereabouts 4 = .ok (.ifnull 11, 3) := by decide +kernel
theorem dX3_whereabouts_7 : decode cX3_whereabouts 7 = .ok (.aload_n 0, 1) := by decide +kernel
theorem dX3_whereabouts_8 : decode cX3_whereabouts 8 = .ok (.getfield 38, 3) := by decide +kernel
theorem dX3_whereabouts_11 : decode cX3_whereabouts 11 = .ok (.getfield 15, 3) := by decide +kernel
theorem dX3_whereabouts_14 : decode cX3_whereabouts 14 = .ok (.ireturn, 1) := by decide +kernel
theorem dX3_whereabouts_15 : decode cX3_whereabouts 15 = .ok (.aload_n 0, 1) := by decide +kernel
theorem dX3_whereabouts_16 : decode cX3_whereabouts 16 = .ok (.getfield 42, 3) := by decide +kernel
theorem dX3_whereabouts_19 : decode cX3_whereabouts 19 = .ok (.ifCond .eq 8, 3) := by decide +kernel
theorem dX3_whereabouts_22 : decode cX3_whereabouts 22 = .ok (.bipush (-2), 2) := by decide +kernel
theorem dX3_whereabouts_24 : decode cX3_whereabouts 24 = .ok (.goto 4, 3) := by decide +kernel
theorem dX3_whereabouts_27 : decode cX3_whereabouts 27 = .ok (.iconst (-1), 1) := by decide +kernel
theorem dX3_whereabouts_28 : decode cX3_whereabouts 28 = .ok (.ireturn, 1) := by decide +kernel
theorem dX3_isInStore_0 : decode cX3_isInStore 0 = .ok (.aload_n 0, 1) := by decide +kernel
theorem dX3_isInStore_1 : decode cX3_isInStore 1 = .ok (.getfield 38, 3) := by decide +kernel
theorem dX3_isInStore_4 : decode cX3_isInStore 4 = .ok (.ifnonnull 14, 3) := by decide +kernel
theorem dX3_isInStore_7 : decode cX3_isInStore 7 = .ok (.aload_n 0, 1) := by decide +kernel
theorem dX3_isInStore_8 : decode cX3_isInStore 8 = .ok (.getfield 42, 3) := by decide +kernel
theorem dX3_isInStore_11 : decode cX3_isInStore 11 = .ok (.ifCond .ne 7, 3) := by decide +kernel
theorem dX3_isInStore_14 : decode cX3_isInStore 14 = .ok (.iconst 1, 1) := by decide +kernel
theorem dX3_isInStore_15 : decode cX3_isInStore 15 = .ok (.goto 4, 3) := by decide +kernel
theorem dX3_isInStore_18 : decode cX3_isInStore 18 = .ok (.iconst 0, 1) := by decide +kernel
theorem dX3_isInStore_19 : decode cX3_isInStore 19 = .ok (.ireturn, 1) := by decide +kernel
theorem dX3_top_0 : decode cX3_top 0 = .ok (.aload_n 0, 1) := by decide +kernel
theorem dX3_top_1 : decode cX3_top 1 = .ok (.astore_n 1, 1) := by decide +kernel
theorem dX3_top_2 : decode cX3_top 2 = .ok (.iconst 0, 1) := by decide +kernel
theorem dX3_top_3 : decode cX3_top 3 = .ok (.istore_n 2, 1) := by decide +kernel
theorem dX3_top_4 : decode cX3_top 4 = .ok (.iload_n 2, 1) := by decide +kernel
theorem dX3_top_5 : decode cX3_top 5 = .ok (.iconst 4, 1) := by decide +kernel
theorem dX3_top_6 : decode cX3_top 6 = .ok (.if_icmp .gt 21, 3) := by decide +kernel
theorem dX3_top_9 : decode cX3_top 9 = .ok (.aload_n 1, 1) := by decide +kernel
theorem dX3_top_10 : decode cX3_top 10 = .ok (.getfield 38, 3) := by decide +kernel
theorem dX3_top_13 : decode cX3_top 13 = .ok (.ifnull 14, 3) := by decide +kernel
theorem dX3_top_16 : decode cX3_top 16 = .ok (.aload_n 1, 1) := by decide +kernel
theorem dX3_top_17 : decode cX3_top 17 = .ok (.getfield 38, 3) := by decide +kernel
theorem dX3_top_20 : decode cX3_top 20 = .ok (.astore_n 1, 1) := by decide +kernel
theorem dX3_top_21 : decode cX3_top 21 = .ok (.iinc 2 1, 3) := by decide +kernel
theorem dX3_top_24 : decode cX3_top 24 = .ok (.goto (-20), 3) := by decide +kernel
theorem dX3_top_27 : decode cX3_top 27 = .ok (.aload_n 1, 1) := by decide +kernel
theorem dX3_top_28 : decode cX3_top 28 = .ok (.areturn, 1) := by decide +kernel
theorem dX3_isWithin_0 : decode cX3_isWithin 0 = .ok (.aload_n 0, 1) := by decide +kernel
theorem dX3_isWithin_1 : decode cX3_isWithin 1 = .ok (.getfield 38, 3) := by decide +kernel
theorem dX3_isWithin_4 : decode cX3_isWithin 4 = .ok (.astore_n 2, 1) := by decide +kernel
theorem dX3_isWithin_5 : decode cX3_isWithin 5 = .ok (.iconst 0, 1) := by decide +kernel
theorem dX3_isWithin_6 : decode cX3_isWithin 6 = .ok (.istore_n 3, 1) := by decide +kernel
theorem dX3_isWithin_7 : decode cX3_isWithin 7 = .ok (.iload_n 3, 1) := by decide +kernel
theorem dX3_isWithin_8 : decode cX3_isWithin 8 = .ok (.iconst 4, 1) := by decide +kernel
theorem dX3_isWithin_9 : decode cX3_isWithin 9 = .ok (.if_icmp .gt 25, 3) := by decide +kernel
theorem dX3_isWithin_12 : decode cX3_isWithin 12 = .ok (.aload_n 2, 1) := by decide +kernel
theorem dX3_isWithin_13 : decode cX3_isWithin 13 = .ok (.ifnull 21, 3) := by decide +kernel
theorem dX3_isWithin_16 : decode cX3_isWithin 16 = .ok (.aload_n 2, 1) := by decide +kernel
theorem dX3_isWithin_17 : decode cX3_isWithin 17 = .ok (.aload_n 1, 1) := by decide +kernel
theorem dX3_isWithin_18 : decode cX3_isWithin 18 = .ok (.if_acmp .ne 5, 3) := by decide +kernel
theorem dX3_isWithin_21 : decode cX3_isWithin 21 = .ok (.iconst 1, 1) := by decide +kernel
theorem dX3_isWithin_22 : decode cX3_isWithin 22 = .ok (.ireturn, 1) := by decide +kernel
theorem dX3_isWithin_23 : decode cX3_isWithin 23 = .ok (.aload_n 2, 1) := by decide +kernel
theorem dX3_isWithin_24 : decode cX3_isWithin 24 = .ok (.getfield 38, 3) := by decide +kernel
theorem dX3_isWithin_27 : decode cX3_isWithin 27 = .ok (.astore_n 2, 1) := by decide +kernel
theorem dX3_isWithin_28 : decode cX3_isWithin 28 = .ok (.iinc 3 1, 3) := by decide +kernel
theorem dX3_isWithin_31 : decode cX3_isWithin 31 = .ok (.goto (-24), 3) := by decide +kernel
theorem dX3_isWithin_34 : decode cX3_isWithin 34 = .ok (.iconst 0, 1) := by decide +kernel
theorem dX3_isWithin_35 : decode cX3_isWithin 35 = .ok (.ireturn, 1) := by decide +kernel
theorem dX3_isBound_0 : decode cX3_isBound 0 = .ok (.aload_n 0, 1) := by decide +kernel
theorem dX3_isBound_1 : decode cX3_isBound 1 = .ok (.invokevirtual 46, 3) := by decide +kernel
theorem dX3_isBound_4 : decode cX3_isBound 4 = .ok (.getfield 9, 3) := by decide +kernel
theorem dX3_isBound_7 : decode cX3_isBound 7 = .ok (.iconst (-1), 1) := by decide +kernel
theorem dX3_isBound_8 : decode cX3_isBound 8 = .ok (.if_icmp .eq 7, 3) := by decide +kernel
theorem dX3_isBound_11 : decode cX3_isBound 11 = .ok (.iconst 1, 1) := by decide +kernel
theorem dX3_isBound_12 : decode cX3_isBound 12 = .ok (.goto 4, 3) := by decide +kernel
theorem dX3_isBound_15 : decode cX3_isBound 15 = .ok (.iconst 0, 1) := by decide +kernel
theorem dX3_isBound_16 : decode cX3_isBound 16 = .ok (.ireturn, 1) := by decide +kernel
theorem dX3_mayBeExamined_0 : decode cX3_mayBeExamined 0 = .ok (.aload_n 0, 1) := by decide +kernel
theorem dX3_mayBeExamined_1 : decode cX3_mayBeExamined 1 = .ok (.getfield 27, 3) := by decide +kernel
theorem dX3_mayBeExamined_4 : decode cX3_mayBeExamined 4 = .ok (.getfield 50, 3) := by decide +kernel
theorem dX3_mayBeExamined_7 : decode cX3_mayBeExamined 7 = .ok (.ifCond .le 29, 3) := by decide +kernel
theorem dX3_mayBeExamined_10 : decode cX3_mayBeExamined 10 = .ok (.aload_n 0, 1) := by decide +kernel
theorem dX3_mayBeExamined_11 : decode cX3_mayBeExamined 11 = .ok (.getfield 55, 3) := by decide +kernel
theorem dX3_mayBeExamined_14 : decode cX3_mayBeExamined 14 = .ok (.aload_n 0, 1) := by decide +kernel
theorem dX3_mayBeExamined_15 : decode cX3_mayBeExamined 15 = .ok (.getfield 27, 3) := by decide +kernel
theorem dX3_mayBeExamined_18 : decode cX3_mayBeExamined 18 = .ok (.getfield 50, 3) := by decide +kernel
theorem dX3_mayBeExamined_21 : decode cX3_mayBeExamined 21 = .ok (.aload_n 0, 1) := by decide +kernel
theorem dX3_mayBeExamined_22 : decode cX3_mayBeExamined 22 = .ok (.getfield 27, 3) := by decide +kernel
theorem dX3_mayBeExamined_25 : decode cX3_mayBeExamined 25 = .ok (.getfield 58, 3) := by decide +kernel
theorem dX3_mayBeExamined_28 : decode cX3_mayBeExamined 28 = .ok (.isub, 1) := by decide +kernel
theorem dX3_mayBeExamined_29 : decode cX3_mayBeExamined 29 = .ok (.if_icmp .lt 7, 3) := by decide +kernel
theorem dX3_mayBeExamined_32 : decode cX3_mayBeExamined 32 = .ok (.iconst 1, 1) := by decide +kernel
theorem dX3_mayBeExamined_33 : decode cX3_mayBeExamined 33 = .ok (.goto 4, 3) := by decide +kernel
theorem dX3_mayBeExamined_36 : decode cX3_mayBeExamined 36 = .ok (.iconst 0, 1) := by decide +kernel
theorem dX3_mayBeExamined_37 : decode cX3_mayBeExamined 37 = .ok (.ireturn, 1) := by decide +kernel
theorem dX3_isExaminationDue_0 : decode cX3_isExaminationDue 0 = .ok (.aload_n 0, 1) := by decide +kernel
theorem dX3_isExaminationDue_1 : decode cX3_isExaminationDue 1 = .ok (.getfield 27, 3) := by decide +kernel
theorem dX3_isExaminationDue_4 : decode cX3_isExaminationDue 4 = .ok (.getfield 50, 3) := by decide +kernel
theorem dX3_isExaminationDue_7 : decode cX3_isExaminationDue 7 = .ok (.ifCond .le 26, 3) := by decide +kernel
theorem dX3_isExaminationDue_10 : decode cX3_isExaminationDue 10 = .ok (.aload_n 0, 1) := by decide +kernel
theorem dX3_isExaminationDue_11 : decode cX3_isExaminationDue 11 = .ok (.getfield 55, 3) := by decide +kernel
theorem dX3_isExaminationDue_14 : decode cX3_isExaminationDue 14 = .ok (.aload_n 0, 1) := by decide +kernel
theorem dX3_isExaminationDue_15 : decode cX3_isExaminationDue 15 = .ok (.getfield 27, 3) := by decide +kernel
theorem dX3_isExaminationDue_18 : decode cX3_isExaminationDue 18 = .ok (.getfield 50, 3) := by decide +kernel
theorem dX3_isExaminationDue_21 : decode cX3_isExaminationDue 21 = .ok (.aload_n 0, 1) := by decide +kernel
theorem dX3_isExaminationDue_22 : decode cX3_isExaminationDue 22 = .ok (.getfield 61, 3) := by decide +kernel
theorem dX3_isExaminationDue_25 : decode cX3_isExaminationDue 25 = .ok (.iadd, 1) := by decide +kernel
theorem dX3_isExaminationDue_26 : decode cX3_isExaminationDue 26 = .ok (.if_icmp .le 7, 3) := by decide +kernel
theorem dX3_isExaminationDue_29 : decode cX3_isExaminationDue 29 = .ok (.iconst 1, 1) := by decide +kernel
theorem dX3_isExaminationDue_30 : decode cX3_isExaminationDue 30 = .ok (.goto 4, 3) := by decide +kernel
theorem dX3_isExaminationDue_33 : decode cX3_isExaminationDue 33 = .ok (.iconst 0, 1) := by decide +kernel
theorem dX3_isExaminationDue_34 : decode cX3_isExaminationDue 34 = .ok (.ireturn, 1) := by decide +kernel
theorem dX3_runs_0 : decode cX3_runs 0 = .ok (.aload_n 0, 1) := by decide +kernel
theorem dX3_runs_1 : decode cX3_runs 1 = .ok (.getfield 64, 3) := by decide +kernel
theorem dX3_runs_4 : decode cX3_runs 4 = .ok (.istore_n 3, 1) := by decide +kernel
theorem dX3_runs_5 : decode cX3_runs 5 = .ok (.aload_n 0, 1) := by decide +kernel
theorem dX3_runs_6 : decode cX3_runs 6 = .ok (.dup, 1) := by decide +kernel
theorem dX3_runs_7 : decode cX3_runs 7 = .ok (.getfield 64, 3) := by decide +kernel
theorem dX3_runs_10 : decode cX3_runs 10 = .ok (.iload_n 1, 1) := by decide +kernel
theorem dX3_runs_11 : decode cX3_runs 11 = .ok (.iadd, 1) := by decide +kernel
theorem dX3_runs_12 : decode cX3_runs 12 = .ok (.putfield 64, 3) := by decide +kernel
theorem dX3_runs_15 : decode cX3_runs 15 = .ok (.aload_n 0, 1) := by decide +kernel
theorem dX3_runs_16 : decode cX3_runs 16 = .ok (.dup, 1) := by decide +kernel
theorem dX3_runs_17 : decode cX3_runs 17 = .ok (.getfield 55, 3) := by decide +kernel
theorem dX3_runs_20 : decode cX3_runs 20 = .ok (.iload_n 1, 1) := by decide +kernel
theorem dX3_runs_21 : decode cX3_runs 21 = .ok (.iadd, 1) := by decide +kernel
theorem dX3_runs_22 : decode cX3_runs 22 = .ok (.putfield 55, 3) := by decide +kernel
theorem dX3_runs_25 : decode cX3_runs 25 = .ok (.aload_n 0, 1) := by decide +kernel
theorem dX3_runs_26 : decode cX3_runs 26 = .ok (.getfield 34, 3) := by decide +kernel
theorem dX3_runs_29 : decode cX3_runs 29 = .ok (.ifnull 23, 3) := by decide +kernel
theorem dX3_runs_32 : decode cX3_runs 32 = .ok (.aload_n 0, 1) := by decide +kernel
theorem dX3_runs_33 : decode cX3_runs 33 = .ok (.getfield 34, 3) := by decide +kernel
theorem dX3_runs_36 : decode cX3_runs 36 = .ok (.aload_n 0, 1) := by decide +kernel
theorem dX3_runs_37 : decode cX3_runs 37 = .ok (.getfield 64, 3) := by decide +kernel
theorem dX3_runs_40 : decode cX3_runs 40 = .ok (.bipush 100, 2) := by decide +kernel
theorem dX3_runs_42 : decode cX3_runs 42 = .ok (.idiv, 1) := by decide +kernel
theorem dX3_runs_43 : decode cX3_runs 43 = .ok (.iload_n 3, 1) := by decide +kernel
theorem dX3_runs_44 : decode cX3_runs 44 = .ok (.bipush 100, 2) := by decide +kernel
theorem dX3_runs_46 : decode cX3_runs 46 = .ok (.idiv, 1) := by decide +kernel
theorem dX3_runs_47 : decode cX3_runs 47 = .ok (.isub, 1) := by decide +kernel
theorem dX3_runs_48 : decode cX3_runs 48 = .ok (.iload_n 2, 1) := by decide +kernel
theorem dX3_runs_49 : decode cX3_runs 49 = .ok (.invokevirtual 67, 3) := by decide +kernel
theorem dX3_runs_52 : decode cX3_runs 52 = .ok (.aload_n 0, 1) := by decide +kernel
theorem dX3_runs_53 : decode cX3_runs 53 = .ok (.getfield 71, 3) := by decide +kernel
theorem dX3_runs_56 : decode cX3_runs 56 = .ok (.ifCond .le 31, 3) := by decide +kernel
theorem dX3_runs_59 : decode cX3_runs 59 = .ok (.aload_n 0, 1) := by decide +kernel
theorem dX3_runs_60 : decode cX3_runs 60 = .ok (.aload_n 0, 1) := by decide +kernel
theorem dX3_runs_61 : decode cX3_runs 61 = .ok (.getfield 64, 3) := by decide +kernel
theorem dX3_runs_64 : decode cX3_runs 64 = .ok (.aload_n 0, 1) := by decide +kernel
theorem dX3_runs_65 : decode cX3_runs 65 = .ok (.getfield 74, 3) := by decide +kernel
theorem dX3_runs_68 : decode cX3_runs 68 = .ok (.isub, 1) := by decide +kernel
theorem dX3_runs_69 : decode cX3_runs 69 = .ok (.sipush 500, 3) := by decide +kernel
theorem dX3_runs_72 : decode cX3_runs 72 = .ok (.idiv, 1) := by decide +kernel
theorem dX3_runs_73 : decode cX3_runs 73 = .ok (.iload_n 3, 1) := by decide +kernel
theorem dX3_runs_74 : decode cX3_runs 74 = .ok (.aload_n 0, 1) := by decide +kernel
theorem dX3_runs_75 : decode cX3_runs 75 = .ok (.getfield 74, 3) := by decide +kernel
theorem dX3_runs_78 : decode cX3_runs 78 = .ok (.isub, 1) := by decide +kernel
theorem dX3_runs_79 : decode cX3_runs 79 = .ok (.sipush 500, 3) := by decide +kernel
theorem dX3_runs_82 : decode cX3_runs 82 = .ok (.idiv, 1) := by decide +kernel
theorem dX3_runs_83 : decode cX3_runs 83 = .ok (.isub, 1) := by decide +kernel
theorem dX3_runs_84 : decode cX3_runs 84 = .ok (.invokevirtual 77, 3) := by decide +kernel
theorem dX3_runs_87 : decode cX3_runs 87 = .ok (.return_, 1) := by decide +kernel
theorem dX3_growFlaw_0 : decode cX3_growFlaw 0 = .ok (.iconst 0, 1) := by decide +kernel
theorem dX3_growFlaw_1 : decode cX3_growFlaw 1 = .ok (.istore_n 2, 1) := by decide +kernel
theorem dX3_growFlaw_2 : decode cX3_growFlaw 2 = .ok (.iload_n 2, 1) := by decide +kernel
theorem dX3_growFlaw_3 : decode cX3_growFlaw 3 = .ok (.iload_n 1, 1) := by decide +kernel
theorem dX3_growFlaw_4 : decode cX3_growFlaw 4 = .ok (.if_icmp .ge 27, 3) := by decide +kernel
theorem dX3_growFlaw_7 : decode cX3_growFlaw 7 = .ok (.aload_n 0, 1) := by decide +kernel
theorem dX3_growFlaw_8 : decode cX3_growFlaw 8 = .ok (.dup, 1) := by decide +kernel
theorem dX3_growFlaw_9 : decode cX3_growFlaw 9 = .ok (.getfield 71, 3) := by decide +kernel
theorem dX3_growFlaw_12 : decode cX3_growFlaw 12 = .ok (.iconst 1, 1) := by decide +kernel
theorem dX3_growFlaw_13 : decode cX3_growFlaw 13 = .ok (.aload_n 0, 1) := by decide +kernel
theorem dX3_growFlaw_14 : decode cX3_growFlaw 14 = .ok (.getfield 71, 3) := by decide +kernel
theorem dX3_growFlaw_17 : decode cX3_growFlaw 17 = .ok (.bipush 10, 2) := by decide +kernel
theorem dX3_growFlaw_19 : decode cX3_growFlaw 19 = .ok (.idiv, 1) := by decide +kernel
theorem dX3_growFlaw_20 : decode cX3_growFlaw 20 = .ok (.iadd, 1) := by decide +kernel
theorem dX3_growFlaw_21 : decode cX3_growFlaw 21 = .ok (.iadd, 1) := by decide +kernel
theorem dX3_growFlaw_22 : decode cX3_growFlaw 22 = .ok (.putfield 71, 3) := by decide +kernel
theorem dX3_growFlaw_25 : decode cX3_growFlaw 25 = .ok (.iinc 2 1, 3) := by decide +kernel
theorem dX3_growFlaw_28 : decode cX3_growFlaw 28 = .ok (.goto (-26), 3) := by decide +kernel
theorem dX3_growFlaw_31 : decode cX3_growFlaw 31 = .ok (.return_, 1) := by decide +kernel
theorem dX4_init_0 : decode cX4_init 0 = .ok (.aload_n 0, 1) := by decide +kernel
theorem dX4_init_1 : decode cX4_init 1 = .ok (.invokespecial 3, 3) := by decide +kernel
theorem dX4_init_4 : decode cX4_init 4 = .ok (.aload_n 0, 1) := by decide +kernel
theorem dX4_init_5 : decode cX4_init 5 = .ok (.sipush 9000, 3) := by decide +kernel
theorem dX4_init_8 : decode cX4_init 8 = .ok (.putfield 9, 3) := by decide +kernel
theorem dX4_init_11 : decode cX4_init 11 = .ok (.aload_n 0, 1) := by decide +kernel
theorem dX4_init_12 : decode cX4_init 12 = .ok (.sipush 300, 3) := by decide +kernel
theorem dX4_init_15 : decode cX4_init 15 = .ok (.putfield 15, 3) := by decide +kernel
theorem dX4_init_18 : decode cX4_init 18 = .ok (.aload_n 0, 1) := by decide +kernel
theorem dX4_init_19 : decode cX4_init 19 = .ok (.iconst (-1), 1) := by decide +kernel
theorem dX4_init_20 : decode cX4_init 20 = .ok (.putfield 18, 3) := by decide +kernel
theorem dX4_init_23 : decode cX4_init 23 = .ok (.return_, 1) := by decide +kernel
theorem dX4_wear_0 : decode cX4_wear 0 = .ok (.aload_n 0, 1) := by decide +kernel
theorem dX4_wear_1 : decode cX4_wear 1 = .ok (.dup, 1) := by decide +kernel
theorem dX4_wear_2 : decode cX4_wear 2 = .ok (.getfield 9, 3) := by decide +kernel
theorem dX4_wear_5 : decode cX4_wear 5 = .ok (.iload_n 1, 1) := by decide +kernel
theorem dX4_wear_6 : decode cX4_wear 6 = .ok (.isub, 1) := by decide +kernel
theorem dX4_wear_7 : decode cX4_wear 7 = .ok (.putfield 9, 3) := by decide +kernel
theorem dX4_wear_10 : decode cX4_wear 10 = .ok (.aload_n 0, 1) := by decide +kernel
theorem dX4_wear_11 : decode cX4_wear 11 = .ok (.dup, 1) := by decide +kernel
theorem dX4_wear_12 : decode cX4_wear 12 = .ok (.getfield 15, 3) := by decide +kernel
theorem dX4_wear_15 : decode cX4_wear 15 = .ok (.aload_n 0, 1) := by decide +kernel
theorem dX4_wear_16 : decode cX4_wear 16 = .ok (.getfield 21, 3) := by decide +kernel
theorem dX4_wear_19 : decode cX4_wear 19 = .ok (.sipush 200, 3) := by decide +kernel
theorem dX4_wear_22 : decode cX4_wear 22 = .ok (.idiv, 1) := by decide +kernel
theorem dX4_wear_23 : decode cX4_wear 23 = .ok (.iadd, 1) := by decide +kernel
theorem dX4_wear_24 : decode cX4_wear 24 = .ok (.putfield 15, 3) := by decide +kernel
theorem dX4_wear_27 : decode cX4_wear 27 = .ok (.aload_n 0, 1) := by decide +kernel
theorem dX4_wear_28 : decode cX4_wear 28 = .ok (.dup, 1) := by decide +kernel
theorem dX4_wear_29 : decode cX4_wear 29 = .ok (.getfield 21, 3) := by decide +kernel
theorem dX4_wear_32 : decode cX4_wear 32 = .ok (.iload_n 2, 1) := by decide +kernel
theorem dX4_wear_33 : decode cX4_wear 33 = .ok (.iadd, 1) := by decide +kernel
theorem dX4_wear_34 : decode cX4_wear 34 = .ok (.putfield 21, 3) := by decide +kernel
theorem dX4_wear_37 : decode cX4_wear 37 = .ok (.aload_n 0, 1) := by decide +kernel
theorem dX4_wear_38 : decode cX4_wear 38 = .ok (.dup, 1) := by decide +kernel
theorem dX4_wear_39 : decode cX4_wear 39 = .ok (.getfield 15, 3) := by decide +kernel
theorem dX4_wear_42 : decode cX4_wear 42 = .ok (.aload_n 0, 1) := by decide +kernel
theorem dX4_wear_43 : decode cX4_wear 43 = .ok (.getfield 21, 3) := by decide +kernel
theorem dX4_wear_46 : decode cX4_wear 46 = .ok (.sipush 200, 3) := by decide +kernel
theorem dX4_wear_49 : decode cX4_wear 49 = .ok (.idiv, 1) := by decide +kernel
theorem dX4_wear_50 : decode cX4_wear 50 = .ok (.isub, 1) := by decide +kernel
theorem dX4_wear_51 : decode cX4_wear 51 = .ok (.putfield 15, 3) := by decide +kernel
theorem dX4_wear_54 : decode cX4_wear 54 = .ok (.return_, 1) := by decide +kernel
theorem dX4_renewFlange_0 : decode cX4_renewFlange 0 = .ok (.aload_n 0, 1) := by decide +kernel
theorem dX4_renewFlange_1 : decode cX4_renewFlange 1 = .ok (.dup, 1) := by decide +kernel
theorem dX4_renewFlange_2 : decode cX4_renewFlange 2 = .ok (.getfield 9, 3) := by decide +kernel
theorem dX4_renewFlange_5 : decode cX4_renewFlange 5 = .ok (.iconst 2, 1) := by decide +kernel
theorem dX4_renewFlange_6 : decode cX4_renewFlange 6 = .ok (.sipush 300, 3) := by decide +kernel
theorem dX4_renewFlange_9 : decode cX4_renewFlange 9 = .ok (.aload_n 0, 1) := by decide +kernel
theorem dX4_renewFlange_10 : decode cX4_renewFlange 10 = .ok (.getfield 15, 3) := by decide +kernel
theorem dX4_renewFlange_13 : decode cX4_renewFlange 13 = .ok (.isub, 1) := by decide +kernel
theorem dX4_renewFlange_14 : decode cX4_renewFlange 14 = .ok (.imul, 1) := by decide +kernel
theorem dX4_renewFlange_15 : decode cX4_renewFlange 15 = .ok (.isub, 1) := by decide +kernel
theorem dX4_renewFlange_16 : decode cX4_renewFlange 16 = .ok (.putfield 9, 3) := by decide +kernel
theorem dX4_renewFlange_19 : decode cX4_renewFlange 19 = .ok (.aload_n 0, 1) := by decide +kernel
theorem dX4_renewFlange_20 : decode cX4_renewFlange 20 = .ok (.sipush 300, 3) := by decide +kernel
theorem dX4_renewFlange_23 : decode cX4_renewFlange 23 = .ok (.putfield 15, 3) := by decide +kernel
theorem dX4_renewFlange_26 : decode cX4_renewFlange 26 = .ok (.return_, 1) := by decide +kernel
theorem dX4_isWorn_0 : decode cX4_isWorn 0 = .ok (.aload_n 0, 1) := by decide +kernel
theorem dX4_isWorn_1 : decode cX4_isWorn 1 = .ok (.getfield 9, 3) := by decide +kernel
theorem dX4_isWorn_4 : decode cX4_isWorn 4 = .ok (.sipush 8500, 3) := by decide +kernel
theorem dX4_isWorn_7 : decode cX4_isWorn 7 = .ok (.if_icmp .lt 13, 3) := by decide +kernel
theorem dX4_isWorn_10 : decode cX4_isWorn 10 = .ok (.aload_n 0, 1) := by decide +kernel
theorem dX4_isWorn_11 : decode cX4_isWorn 11 = .ok (.getfield 15, 3) := by decide +kernel
theorem dX4_isWorn_14 : decode cX4_isWorn 14 = .ok (.sipush 250, 3) := by decide +kernel
theorem dX4_isWorn_17 : decode cX4_isWorn 17 = .ok (.if_icmp .ge 7, 3) := by decide +kernel
theorem dX4_isWorn_20 : decode cX4_isWorn 20 = .ok (.iconst 1, 1) := by decide +kernel
theorem dX4_isWorn_21 : decode cX4_isWorn 21 = .ok (.goto 4, 3) := by decide +kernel
theorem dX4_isWorn_24 : decode cX4_isWorn 24 = .ok (.iconst 0, 1) := by decide +kernel
theorem dX4_isWorn_25 : decode cX4_isWorn 25 = .ok (.ireturn, 1) := by decide +kernel
theorem dX5_init_0 : decode cX5_init 0 = .ok (.aload_n 0, 1) := by decide +kernel
theorem dX5_init_1 : decode cX5_init 1 = .ok (.invokespecial 3, 3) := by decide +kernel
theorem dX5_init_4 : decode cX5_init 4 = .ok (.aload_n 0, 1) := by decide +kernel
theorem dX5_init_5 : decode cX5_init 5 = .ok (.new 9, 3) := by decide +kernel
theorem dX5_init_8 : decode cX5_init 8 = .ok (.dup, 1) := by decide +kernel
theorem dX5_init_9 : decode cX5_init 9 = .ok (.invokespecial 11, 3) := by decide +kernel
theorem dX5_init_12 : decode cX5_init 12 = .ok (.putfield 12, 3) := by decide +kernel
theorem dX5_init_15 : decode cX5_init 15 = .ok (.aload_n 0, 1) := by decide +kernel
theorem dX5_init_16 : decode cX5_init 16 = .ok (.new 9, 3) := by decide +kernel
theorem dX5_init_19 : decode cX5_init 19 = .ok (.dup, 1) := by decide +kernel
theorem dX5_init_20 : decode cX5_init 20 = .ok (.invokespecial 11, 3) := by decide +kernel
theorem dX5_init_23 : decode cX5_init 23 = .ok (.putfield 18, 3) := by decide +kernel
theorem dX5_init_26 : decode cX5_init 26 = .ok (.aload_n 0, 1) := by decide +kernel
theorem dX5_init_27 : decode cX5_init 27 = .ok (.bipush 8, 2) := by decide +kernel
theorem dX5_init_29 : decode cX5_init 29 = .ok (.newarray .int, 2) := by decide +kernel
theorem dX5_init_31 : decode cX5_init 31 = .ok (.putfield 21, 3) := by decide +kernel
theorem dX5_init_34 : decode cX5_init 34 = .ok (.return_, 1) := by decide +kernel
theorem dX5_isWaiting_0 : decode cX5_isWaiting 0 = .ok (.iconst 0, 1) := by decide +kernel
theorem dX5_isWaiting_1 : decode cX5_isWaiting 1 = .ok (.istore_n 2, 1) := by decide +kernel
theorem dX5_isWaiting_2 : decode cX5_isWaiting 2 = .ok (.iload_n 2, 1) := by decide +kernel
theorem dX5_isWaiting_3 : decode cX5_isWaiting 3 = .ok (.aload_n 0, 1) := by decide +kernel
theorem dX5_isWaiting_4 : decode cX5_isWaiting 4 = .ok (.getfield 12, 3) := by decide +kernel
theorem dX5_isWaiting_7 : decode cX5_isWaiting 7 = .ok (.invokevirtual 25, 3) := by decide +kernel
theorem dX5_isWaiting_10 : decode cX5_isWaiting 10 = .ok (.if_icmp .ge 23, 3) := by decide +kernel
theorem dX5_isWaiting_13 : decode cX5_isWaiting 13 = .ok (.aload_n 0, 1) := by decide +kernel
theorem dX5_isWaiting_14 : decode cX5_isWaiting 14 = .ok (.getfield 12, 3) := by decide +kernel
theorem dX5_isWaiting_17 : decode cX5_isWaiting 17 = .ok (.iload_n 2, 1) := by decide +kernel
theorem dX5_isWaiting_18 : decode cX5_isWaiting 18 = .ok (.invokevirtual 29, 3) := by decide +kernel
theorem dX5_isWaiting_21 : decode cX5_isWaiting 21 = .ok (.aload_n 1, 1) := by decide +kernel
theorem dX5_isWaiting_22 : decode cX5_isWaiting 22 = .ok (.if_acmp .ne 5, 3) := by decide +kernel
theorem dX5_isWaiting_25 : decode cX5_isWaiting 25 = .ok (.iconst 1, 1) := by decide +kernel
theorem dX5_isWaiting_26 : decode cX5_isWaiting 26 = .ok (.ireturn, 1) := by decide +kernel
theorem dX5_isWaiting_27 : decode cX5_isWaiting 27 = .ok (.iinc 2 1, 3) := by decide +kernel
theorem dX5_isWaiting_30 : decode cX5_isWaiting 30 = .ok (.goto (-28), 3) := by decide +kernel
theorem dX5_isWaiting_33 : decode cX5_isWaiting 33 = .ok (.iconst 0, 1) := by decide +kernel
theorem dX5_isWaiting_34 : decode cX5_isWaiting 34 = .ok (.ireturn, 1) := by decide +kernel
theorem dX5_isTaken_0 : decode cX5_isTaken 0 = .ok (.iconst 0, 1) := by decide +kernel
theorem dX5_isTaken_1 : decode cX5_isTaken 1 = .ok (.istore_n 2, 1) := by decide +kernel
theorem dX5_isTaken_2 : decode cX5_isTaken 2 = .ok (.iload_n 2, 1) := by decide +kernel
theorem dX5_isTaken_3 : decode cX5_isTaken 3 = .ok (.aload_n 0, 1) := by decide +kernel
theorem dX5_isTaken_4 : decode cX5_isTaken 4 = .ok (.getfield 12, 3) := by decide +kernel
theorem dX5_isTaken_7 : decode cX5_isTaken 7 = .ok (.invokevirtual 25, 3) := by decide +kernel
theorem dX5_isTaken_10 : decode cX5_isTaken 10 = .ok (.if_icmp .ge 29, 3) := by decide +kernel
theorem dX5_isTaken_13 : decode cX5_isTaken 13 = .ok (.aload_n 0, 1) := by decide +kernel
theorem dX5_isTaken_14 : decode cX5_isTaken 14 = .ok (.getfield 12, 3) := by decide +kernel
theorem dX5_isTaken_17 : decode cX5_isTaken 17 = .ok (.iload_n 2, 1) := by decide +kernel
theorem dX5_isTaken_18 : decode cX5_isTaken 18 = .ok (.invokevirtual 29, 3) := by decide +kernel
theorem dX5_isTaken_21 : decode cX5_isTaken 21 = .ok (.checkcast 33, 3) := by decide +kernel
theorem dX5_isTaken_24 : decode cX5_isTaken 24 = .ok (.getfield 35, 3) := by decide +kernel
theorem dX5_isTaken_27 : decode cX5_isTaken 27 = .ok (.iload_n 1, 1) := by decide +kernel
theorem dX5_isTaken_28 : decode cX5_isTaken 28 = .ok (.if_icmp .ne 5, 3) := by decide +kernel
theorem dX5_isTaken_31 : decode cX5_isTaken 31 = .ok (.iconst 1, 1) := by decide +kernel
theorem dX5_isTaken_32 : decode cX5_isTaken 32 = .ok (.ireturn, 1) := by decide +kernel
theorem dX5_isTaken_33 : decode cX5_isTaken 33 = .ok (.iinc 2 1, 3) := by decide +kernel
theorem dX5_isTaken_36 : decode cX5_isTaken 36 = .ok (.goto (-34), 3) := by decide +kernel
theorem dX5_isTaken_39 : decode cX5_isTaken 39 = .ok (.iconst 0, 1) := by decide +kernel
theorem dX5_isTaken_40 : decode cX5_isTaken 40 = .ok (.ireturn, 1) := by decide +kernel
theorem dX5_makePlan_0 : decode cX5_makePlan 0 = .ok (.aload_n 0, 1) := by decide +kernel
theorem dX5_makePlan_1 : decode cX5_makePlan 1 = .ok (.invokevirtual 39, 3) := by decide +kernel
theorem dX5_makePlan_4 : decode cX5_makePlan 4 = .ok (.aload_n 0, 1) := by decide +kernel
theorem dX5_makePlan_5 : decode cX5_makePlan 5 = .ok (.sipush 1000, 3) := by decide +kernel
theorem dX5_makePlan_8 : decode cX5_makePlan 8 = .ok (.putfield 42, 3) := by decide +kernel
theorem dX5_makePlan_11 : decode cX5_makePlan 11 = .ok (.aload_n 0, 1) := by decide +kernel
theorem dX5_makePlan_12 : decode cX5_makePlan 12 = .ok (.iconst 0, 1) := by decide +kernel
theorem dX5_makePlan_13 : decode cX5_makePlan 13 = .ok (.iconst 0, 1) := by decide +kernel
theorem dX5_makePlan_14 : decode cX5_makePlan 14 = .ok (.iconst 0, 1) := by decide +kernel
theorem dX5_makePlan_15 : decode cX5_makePlan 15 = .ok (.invokestatic 45, 3) := by decide +kernel
theorem dX5_makePlan_18 : decode cX5_makePlan 18 = .ok (.aload_n 0, 1) := by decide +kernel
theorem dX5_makePlan_19 : decode cX5_makePlan 19 = .ok (.getfield 42, 3) := by decide +kernel
theorem dX5_makePlan_22 : decode cX5_makePlan 22 = .ok (.ireturn, 1) := by decide +kernel
theorem dX5_makePlanAnew_0 : decode cX5_makePlanAnew 0 = .ok (.aload_n 0, 1) := by decide +kernel
theorem dX5_makePlanAnew_1 : decode cX5_makePlanAnew 1 = .ok (.invokevirtual 39, 3) := by decide +kernel
theorem dX5_makePlanAnew_4 : decode cX5_makePlanAnew 4 = .ok (.aload_n 0, 1) := by decide +kernel
theorem dX5_makePlanAnew_5 : decode cX5_makePlanAnew 5 = .ok (.iconst 0, 1) := by decide +kernel
theorem dX5_makePlanAnew_6 : decode cX5_makePlanAnew 6 = .ok (.iconst 0, 1) := by decide +kernel
theorem dX5_makePlanAnew_7 : decode cX5_makePlanAnew 7 = .ok (.invokestatic 49, 3) := by decide +kernel
theorem dX5_makePlanAnew_10 : decode cX5_makePlanAnew 10 = .ok (.ireturn, 1) := by decide +kernel
theorem dX5_park_0 : decode cX5_park 0 = .ok (.aload_n 0, 1) := by decide +kernel
theorem dX5_park_1 : decode cX5_park 1 = .ok (.invokevirtual 53, 3) := by decide +kernel
theorem dX5_park_4 : decode cX5_park 4 = .ok (.istore_n 1, 1) := by decide +kernel
theorem dX5_park_5 : decode cX5_park 5 = .ok (.iconst 0, 1) := by decide +kernel
theorem dX5_park_6 : decode cX5_park 6 = .ok (.istore_n 2, 1) := by decide +kernel
theorem dX5_park_7 : decode cX5_park 7 = .ok (.iload_n 2, 1) := by decide +kernel
theorem dX5_park_8 : decode cX5_park 8 = .ok (.aload_n 0, 1) := by decide +kernel
theorem dX5_park_9 : decode cX5_park 9 = .ok (.getfield 12, 3) := by decide +kernel
theorem dX5_park_12 : decode cX5_park 12 = .ok (.invokevirtual 25, 3) := by decide +kernel
theorem dX5_park_15 : decode cX5_park 15 = .ok (.if_icmp .ge 42, 3) := by decide +kernel
theorem dX5_park_18 : decode cX5_park 18 = .ok (.aload_n 0, 1) := by decide +kernel
theorem dX5_park_19 : decode cX5_park 19 = .ok (.getfield 12, 3) := by decide +kernel
theorem dX5_park_22 : decode cX5_park 22 = .ok (.iload_n 2, 1) := by decide +kernel
theorem dX5_park_23 : decode cX5_park 23 = .ok (.invokevirtual 29, 3) := by decide +kernel
theorem dX5_park_26 : decode cX5_park 26 = .ok (.checkcast 33, 3) := by decide +kernel
theorem dX5_park_29 : decode cX5_park 29 = .ok (.astore_n 3, 1) := by decide +kernel
theorem dX5_park_30 : decode cX5_park 30 = .ok (.aload_n 3, 1) := by decide +kernel
theorem dX5_park_31 : decode cX5_park 31 = .ok (.aload_n 0, 1) := by decide +kernel
theorem dX5_park_32 : decode cX5_park 32 = .ok (.getfield 56, 3) := by decide +kernel
theorem dX5_park_35 : decode cX5_park 35 = .ok (.iload_n 2, 1) := by decide +kernel
theorem dX5_park_36 : decode cX5_park 36 = .ok (.invokestatic 59, 3) := by decide +kernel
theorem dX5_park_39 : decode cX5_park 39 = .ok (.putfield 63, 3) := by decide +kernel
theorem dX5_park_42 : decode cX5_park 42 = .ok (.aload_n 0, 1) := by decide +kernel
theorem dX5_park_43 : decode cX5_park 43 = .ok (.getfield 18, 3) := by decide +kernel
theorem dX5_park_46 : decode cX5_park 46 = .ok (.aload_n 3, 1) := by decide +kernel
theorem dX5_park_47 : decode cX5_park 47 = .ok (.invokevirtual 66, 3) := by decide +kernel
theorem dX5_park_50 : decode cX5_park 50 = .ok (.pop, 1) := by decide +kernel
theorem dX5_park_51 : decode cX5_park 51 = .ok (.iinc 2 1, 3) := by decide +kernel
theorem dX5_park_54 : decode cX5_park 54 = .ok (.goto (-47), 3) := by decide +kernel
theorem dX5_park_57 : decode cX5_park 57 = .ok (.aload_n 0, 1) := by decide +kernel
theorem dX5_park_58 : decode cX5_park 58 = .ok (.getfield 12, 3) := by decide +kernel
theorem dX5_park_61 : decode cX5_park 61 = .ok (.invokevirtual 70, 3) := by decide +kernel
theorem dX5_park_64 : decode cX5_park 64 = .ok (.iload_n 1, 1) := by decide +kernel
theorem dX5_park_65 : decode cX5_park 65 = .ok (.ireturn, 1) := by decide +kernel
theorem dX5_sendFirst_0 : decode cX5_sendFirst 0 = .ok (.iconst 0, 1) := by decide +kernel
theorem dX5_sendFirst_1 : decode cX5_sendFirst 1 = .ok (.istore_n 1, 1) := by decide +kernel
theorem dX5_sendFirst_2 : decode cX5_sendFirst 2 = .ok (.iconst 1, 1) := by decide +kernel
theorem dX5_sendFirst_3 : decode cX5_sendFirst 3 = .ok (.istore_n 2, 1) := by decide +kernel
theorem dX5_sendFirst_4 : decode cX5_sendFirst 4 = .ok (.iload_n 2, 1) := by decide +kernel
theorem dX5_sendFirst_5 : decode cX5_sendFirst 5 = .ok (.aload_n 0, 1) := by decide +kernel
theorem dX5_sendFirst_6 : decode cX5_sendFirst 6 = .ok (.getfield 18, 3) := by decide +kernel
theorem dX5_sendFirst_9 : decode cX5_sendFirst 9 = .ok (.invokevirtual 25, 3) := by decide +kernel
theorem dX5_sendFirst_12 : decode cX5_sendFirst 12 = .ok (.if_icmp .ge 42, 3) := by decide +kernel
theorem dX5_sendFirst_15 : decode cX5_sendFirst 15 = .ok (.aload_n 0, 1) := by decide +kernel
theorem dX5_sendFirst_16 : decode cX5_sendFirst 16 = .ok (.getfield 18, 3) := by decide +kernel
theorem dX5_sendFirst_19 : decode cX5_sendFirst 19 = .ok (.iload_n 2, 1) := by decide +kernel
theorem dX5_sendFirst_20 : decode cX5_sendFirst 20 = .ok (.invokevirtual 29, 3) := by decide +kernel
theorem dX5_sendFirst_23 : decode cX5_sendFirst 23 = .ok (.checkcast 33, 3) := by decide +kernel
theorem dX5_sendFirst_26 : decode cX5_sendFirst 26 = .ok (.getfield 35, 3) := by decide +kernel
theorem dX5_sendFirst_29 : decode cX5_sendFirst 29 = .ok (.aload_n 0, 1) := by decide +kernel
theorem dX5_sendFirst_30 : decode cX5_sendFirst 30 = .ok (.getfield 18, 3) := by decide +kernel
theorem dX5_sendFirst_33 : decode cX5_sendFirst 33 = .ok (.iload_n 1, 1) := by decide +kernel
theorem dX5_sendFirst_34 : decode cX5_sendFirst 34 = .ok (.invokevirtual 29, 3) := by decide +kernel
theorem dX5_sendFirst_37 : decode cX5_sendFirst 37 = .ok (.checkcast 33, 3) := by decide +kernel
theorem dX5_sendFirst_40 : decode cX5_sendFirst 40 = .ok (.getfield 35, 3) := by decide +kernel
theorem dX5_sendFirst_43 : decode cX5_sendFirst 43 = .ok (.if_icmp .ge 5, 3) := by decide +kernel
theorem dX5_sendFirst_46 : decode cX5_sendFirst 46 = .ok (.iload_n 2, 1) := by decide +kernel
theorem dX5_sendFirst_47 : decode cX5_sendFirst 47 = .ok (.istore_n 1, 1) := by decide +kernel
theorem dX5_sendFirst_48 : decode cX5_sendFirst 48 = .ok (.iinc 2 1, 3) := by decide +kernel
theorem dX5_sendFirst_51 : decode cX5_sendFirst 51 = .ok (.goto (-47), 3) := by decide +kernel
theorem dX5_sendFirst_54 : decode cX5_sendFirst 54 = .ok (.iload_n 1, 1) := by decide +kernel
theorem dX5_sendFirst_55 : decode cX5_sendFirst 55 = .ok (.aload_n 0, 1) := by decide +kernel
theorem dX5_sendFirst_56 : decode cX5_sendFirst 56 = .ok (.getfield 18, 3) := by decide +kernel
theorem dX5_sendFirst_59 : decode cX5_sendFirst 59 = .ok (.invokevirtual 25, 3) := by decide +kernel
theorem dX5_sendFirst_62 : decode cX5_sendFirst 62 = .ok (.if_icmp .lt 5, 3) := by decide +kernel
theorem dX5_sendFirst_65 : decode cX5_sendFirst 65 = .ok (.iconst 0, 1) := by decide +kernel
theorem dX5_sendFirst_66 : decode cX5_sendFirst 66 = .ok (.ireturn, 1) := by decide +kernel
theorem dX5_sendFirst_67 : decode cX5_sendFirst 67 = .ok (.aload_n 0, 1) := by decide +kernel
theorem dX5_sendFirst_68 : decode cX5_sendFirst 68 = .ok (.getfield 18, 3) := by decide +kernel
theorem dX5_sendFirst_71 : decode cX5_sendFirst 71 = .ok (.iload_n 1, 1) := by decide +kernel
theorem dX5_sendFirst_72 : decode cX5_sendFirst 72 = .ok (.invokevirtual 73, 3) := by decide +kernel
theorem dX5_sendFirst_75 : decode cX5_sendFirst 75 = .ok (.checkcast 33, 3) := by decide +kernel
theorem dX5_sendFirst_78 : decode cX5_sendFirst 78 = .ok (.astore_n 2, 1) := by decide +kernel
theorem dX5_sendFirst_79 : decode cX5_sendFirst 79 = .ok (.iconst 0, 1) := by decide +kernel
theorem dX5_sendFirst_80 : decode cX5_sendFirst 80 = .ok (.istore_n 3, 1) := by decide +kernel
theorem dX5_sendFirst_81 : decode cX5_sendFirst 81 = .ok (.iload_n 1, 1) := by decide +kernel
theorem dX5_sendFirst_82 : decode cX5_sendFirst 82 = .ok (.istore 4, 2) := by decide +kernel
theorem dX5_sendFirst_84 : decode cX5_sendFirst 84 = .ok (.iload 4, 2) := by decide +kernel
theorem dX5_sendFirst_86 : decode cX5_sendFirst 86 = .ok (.aload_n 0, 1) := by decide +kernel
theorem dX5_sendFirst_87 : decode cX5_sendFirst 87 = .ok (.getfield 18, 3) := by decide +kernel
theorem dX5_sendFirst_90 : decode cX5_sendFirst 90 = .ok (.invokevirtual 25, 3) := by decide +kernel
theorem dX5_sendFirst_93 : decode cX5_sendFirst 93 = .ok (.if_icmp .ge 34, 3) := by decide +kernel
theorem dX5_sendFirst_96 : decode cX5_sendFirst 96 = .ok (.aload_n 0, 1) := by decide +kernel
theorem dX5_sendFirst_97 : decode cX5_sendFirst 97 = .ok (.getfield 18, 3) := by decide +kernel
theorem dX5_sendFirst_100 : decode cX5_sendFirst 100 = .ok (.iload 4, 2) := by decide +kernel
theorem dX5_sendFirst_102 : decode cX5_sendFirst 102 = .ok (.invokevirtual 29, 3) := by decide +kernel
theorem dX5_sendFirst_105 : decode cX5_sendFirst 105 = .ok (.checkcast 33, 3) := by decide +kernel
theorem dX5_sendFirst_108 : decode cX5_sendFirst 108 = .ok (.getfield 63, 3) := by decide +kernel
theorem dX5_sendFirst_111 : decode cX5_sendFirst 111 = .ok (.aload_n 2, 1) := by decide +kernel
theorem dX5_sendFirst_112 : decode cX5_sendFirst 112 = .ok (.getfield 63, 3) := by decide +kernel
theorem dX5_sendFirst_115 : decode cX5_sendFirst 115 = .ok (.if_icmp .ne 6, 3) := by decide +kernel
theorem dX5_sendFirst_118 : decode cX5_sendFirst 118 = .ok (.iinc 3 1, 3) := by decide +kernel
theorem dX5_sendFirst_121 : decode cX5_sendFirst 121 = .ok (.iinc 4 1, 3) := by decide +kernel
theorem dX5_sendFirst_124 : decode cX5_sendFirst 124 = .ok (.goto (-40), 3) := by decide +kernel
theorem dX5_sendFirst_127 : decode cX5_sendFirst 127 = .ok (.aload_n 2, 1) := by decide +kernel
theorem dX5_sendFirst_128 : decode cX5_sendFirst 128 = .ok (.iconst (-1), 1) := by decide +kernel
theorem dX5_sendFirst_129 : decode cX5_sendFirst 129 = .ok (.putfield 63, 3) := by decide +kernel
theorem dX5_sendFirst_132 : decode cX5_sendFirst 132 = .ok (.iload_n 3, 1) := by decide +kernel
theorem dX5_sendFirst_133 : decode cX5_sendFirst 133 = .ok (.ireturn, 1) := by decide +kernel
theorem dX5_trainOn_0 : decode cX5_trainOn 0 = .ok (.iconst 0, 1) := by decide +kernel
theorem dX5_trainOn_1 : decode cX5_trainOn 1 = .ok (.istore_n 3, 1) := by decide +kernel
theorem dX5_trainOn_2 : decode cX5_trainOn 2 = .ok (.iconst 0, 1) := by decide +kernel
theorem dX5_trainOn_3 : decode cX5_trainOn 3 = .ok (.istore 4, 2) := by decide +kernel
theorem dX5_trainOn_5 : decode cX5_trainOn 5 = .ok (.iload 4, 2) := by decide +kernel
theorem dX5_trainOn_7 : decode cX5_trainOn 7 = .ok (.aload_n 0, 1) := by decide +kernel
theorem dX5_trainOn_8 : decode cX5_trainOn 8 = .ok (.getfield 18, 3) := by decide +kernel
theorem dX5_trainOn_11 : decode cX5_trainOn 11 = .ok (.invokevirtual 25, 3) := by decide +kernel
theorem dX5_trainOn_14 : decode cX5_trainOn 14 = .ok (.if_icmp .ge 46, 3) := by decide +kernel
theorem dX5_trainOn_17 : decode cX5_trainOn 17 = .ok (.aload_n 0, 1) := by decide +kernel
theorem dX5_trainOn_18 : decode cX5_trainOn 18 = .ok (.getfield 18, 3) := by decide +kernel
theorem dX5_trainOn_21 : decode cX5_trainOn 21 = .ok (.iload 4, 2) := by decide +kernel
theorem dX5_trainOn_23 : decode cX5_trainOn 23 = .ok (.invokevirtual 29, 3) := by decide +kernel
theorem dX5_trainOn_26 : decode cX5_trainOn 26 = .ok (.checkcast 33, 3) := by decide +kernel
theorem dX5_trainOn_29 : decode cX5_trainOn 29 = .ok (.astore 5, 2) := by decide +kernel
theorem dX5_trainOn_31 : decode cX5_trainOn 31 = .ok (.aload 5, 2) := by decide +kernel
theorem dX5_trainOn_33 : decode cX5_trainOn 33 = .ok (.getfield 63, 3) := by decide +kernel
theorem dX5_trainOn_36 : decode cX5_trainOn 36 = .ok (.iload_n 1, 1) := by decide +kernel
theorem dX5_trainOn_37 : decode cX5_trainOn 37 = .ok (.if_icmp .ne 17, 3) := by decide +kernel
theorem dX5_trainOn_40 : decode cX5_trainOn 40 = .ok (.iload_n 3, 1) := by decide +kernel
theorem dX5_trainOn_41 : decode cX5_trainOn 41 = .ok (.iload_n 2, 1) := by decide +kernel
theorem dX5_trainOn_42 : decode cX5_trainOn 42 = .ok (.if_icmp .ne 9, 3) := by decide +kernel
theorem dX5_trainOn_45 : decode cX5_trainOn 45 = .ok (.aload 5, 2) := by decide +kernel
theorem dX5_trainOn_47 : decode cX5_trainOn 47 = .ok (.getfield 76, 3) := by decide +kernel
theorem dX5_trainOn_50 : decode cX5_trainOn 50 = .ok (.ireturn, 1) := by decide +kernel
theorem dX5_trainOn_51 : decode cX5_trainOn 51 = .ok (.iinc 3 1, 3) := by decide +kernel
theorem dX5_trainOn_54 : decode cX5_trainOn 54 = .ok (.iinc 4 1, 3) := by decide +kernel
theorem dX5_trainOn_57 : decode cX5_trainOn 57 = .ok (.goto (-52), 3) := by decide +kernel
theorem dX5_trainOn_60 : decode cX5_trainOn 60 = .ok (.iconst (-1), 1) := by decide +kernel
theorem dX5_trainOn_61 : decode cX5_trainOn 61 = .ok (.ireturn, 1) := by decide +kernel
theorem dX5_markBlocked_0 : decode cX5_markBlocked 0 = .ok (.iconst 0, 1) := by decide +kernel
theorem dX5_markBlocked_1 : decode cX5_markBlocked 1 = .ok (.istore_n 1, 1) := by decide +kernel
theorem dX5_markBlocked_2 : decode cX5_markBlocked 2 = .ok (.iload_n 1, 1) := by decide +kernel
theorem dX5_markBlocked_3 : decode cX5_markBlocked 3 = .ok (.aload_n 0, 1) := by decide +kernel
theorem dX5_markBlocked_4 : decode cX5_markBlocked 4 = .ok (.getfield 12, 3) := by decide +kernel
theorem dX5_markBlocked_7 : decode cX5_markBlocked 7 = .ok (.invokevirtual 25, 3) := by decide +kernel
theorem dX5_markBlocked_10 : decode cX5_markBlocked 10 = .ok (.if_icmp .ge 81, 3) := by decide +kernel
theorem dX5_markBlocked_13 : decode cX5_markBlocked 13 = .ok (.iload_n 1, 1) := by decide +kernel
theorem dX5_markBlocked_14 : decode cX5_markBlocked 14 = .ok (.aload_n 0, 1) := by decide +kernel
theorem dX5_markBlocked_15 : decode cX5_markBlocked 15 = .ok (.getfield 21, 3) := by decide +kernel
theorem dX5_markBlocked_18 : decode cX5_markBlocked 18 = .ok (.arraylength, 1) := by decide +kernel
theorem dX5_markBlocked_19 : decode cX5_markBlocked 19 = .ok (.if_icmp .ge 72, 3) := by decide +kernel
theorem dX5_markBlocked_22 : decode cX5_markBlocked 22 = .ok (.aload_n 0, 1) := by decide +kernel
theorem dX5_markBlocked_23 : decode cX5_markBlocked 23 = .ok (.getfield 21, 3) := by decide +kernel
theorem dX5_markBlocked_26 : decode cX5_markBlocked 26 = .ok (.iload_n 1, 1) := by decide +kernel
theorem dX5_markBlocked_27 : decode cX5_markBlocked 27 = .ok (.iconst 0, 1) := by decide +kernel
theorem dX5_markBlocked_28 : decode cX5_markBlocked 28 = .ok (.iastore, 1) := by decide +kernel
theorem dX5_markBlocked_29 : decode cX5_markBlocked 29 = .ok (.iconst 0, 1) := by decide +kernel
theorem dX5_markBlocked_30 : decode cX5_markBlocked 30 = .ok (.istore_n 2, 1) := by decide +kernel
theorem dX5_markBlocked_31 : decode cX5_markBlocked 31 = .ok (.iload_n 2, 1) := by decide +kernel
theorem dX5_markBlocked_32 : decode cX5_markBlocked 32 = .ok (.iload_n 1, 1) := by decide +kernel
theorem dX5_markBlocked_33 : decode cX5_markBlocked 33 = .ok (.if_icmp .ge 52, 3) := by decide +kernel
theorem dX5_markBlocked_36 : decode cX5_markBlocked 36 = .ok (.aload_n 0, 1) := by decide +kernel
theorem dX5_markBlocked_37 : decode cX5_markBlocked 37 = .ok (.getfield 12, 3) := by decide +kernel
theorem dX5_markBlocked_40 : decode cX5_markBlocked 40 = .ok (.iload_n 2, 1) := by decide +kernel
theorem dX5_markBlocked_41 : decode cX5_markBlocked 41 = .ok (.invokevirtual 29, 3) := by decide +kernel
theorem dX5_markBlocked_44 : decode cX5_markBlocked 44 = .ok (.checkcast 33, 3) := by decide +kernel
theorem dX5_markBlocked_47 : decode cX5_markBlocked 47 = .ok (.getfield 35, 3) := by decide +kernel
theorem dX5_markBlocked_50 : decode cX5_markBlocked 50 = .ok (.aload_n 0, 1) := by decide +kernel
theorem dX5_markBlocked_51 : decode cX5_markBlocked 51 = .ok (.getfield 12, 3) := by decide +kernel
theorem dX5_markBlocked_54 : decode cX5_markBlocked 54 = .ok (.iload_n 1, 1) := by decide +kernel
theorem dX5_markBlocked_55 : decode cX5_markBlocked 55 = .ok (.invokevirtual 29, 3) := by decide +kernel
theorem dX5_markBlocked_58 : decode cX5_markBlocked 58 = .ok (.checkcast 33, 3) := by decide +kernel
theorem dX5_markBlocked_61 : decode cX5_markBlocked 61 = .ok (.getfield 35, 3) := by decide +kernel
theorem dX5_markBlocked_64 : decode cX5_markBlocked 64 = .ok (.if_icmp .ge 15, 3) := by decide +kernel
theorem dX5_markBlocked_67 : decode cX5_markBlocked 67 = .ok (.aload_n 0, 1) := by decide +kernel
theorem dX5_markBlocked_68 : decode cX5_markBlocked 68 = .ok (.getfield 21, 3) := by decide +kernel
theorem dX5_markBlocked_71 : decode cX5_markBlocked 71 = .ok (.iload_n 1, 1) := by decide +kernel
theorem dX5_markBlocked_72 : decode cX5_markBlocked 72 = .ok (.dup2, 1) := by decide +kernel
theorem dX5_markBlocked_73 : decode cX5_markBlocked 73 = .ok (.iaload, 1) := by decide +kernel
theorem dX5_markBlocked_74 : decode cX5_markBlocked 74 = .ok (.iconst 1, 1) := by decide +kernel
theorem dX5_markBlocked_75 : decode cX5_markBlocked 75 = .ok (.iload_n 2, 1) := by decide +kernel
theorem dX5_markBlocked_76 : decode cX5_markBlocked 76 = .ok (.ishl, 1) := by decide +kernel
theorem dX5_markBlocked_77 : decode cX5_markBlocked 77 = .ok (.ior, 1) := by decide +kernel
theorem dX5_markBlocked_78 : decode cX5_markBlocked 78 = .ok (.iastore, 1) := by decide +kernel
theorem dX5_markBlocked_79 : decode cX5_markBlocked 79 = .ok (.iinc 2 1, 3) := by decide +kernel
theorem dX5_markBlocked_82 : decode cX5_markBlocked 82 = .ok (.goto (-51), 3) := by decide +kernel
theorem dX5_markBlocked_85 : decode cX5_markBlocked 85 = .ok (.iinc 1 1, 3) := by decide +kernel
theorem dX5_markBlocked_88 : decode cX5_markBlocked 88 = .ok (.goto (-86), 3) := by decide +kernel
theorem dX5_markBlocked_91 : decode cX5_markBlocked 91 = .ok (.return_, 1) := by decide +kernel
theorem dX5_searchPlan_0 : decode cX5_searchPlan 0 = .ok (.iload_n 3, 1) := by decide +kernel
theorem dX5_searchPlan_1 : decode cX5_searchPlan 1 = .ok (.aload_n 0, 1) := by decide +kernel
theorem dX5_searchPlan_2 : decode cX5_searchPlan 2 = .ok (.getfield 42, 3) := by decide +kernel
theorem dX5_searchPlan_5 : decode cX5_searchPlan 5 = .ok (.if_icmp .lt 4, 3) := by decide +kernel
theorem dX5_searchPlan_8 : decode cX5_searchPlan 8 = .ok (.return_, 1) := by decide +kernel
theorem dX5_searchPlan_9 : decode cX5_searchPlan 9 = .ok (.iload_n 1, 1) := by decide +kernel
theorem dX5_searchPlan_10 : decode cX5_searchPlan 10 = .ok (.aload_n 0, 1) := by decide +kernel
theorem dX5_searchPlan_11 : decode cX5_searchPlan 11 = .ok (.getfield 12, 3) := by decide +kernel
theorem dX5_searchPlan_14 : decode cX5_searchPlan 14 = .ok (.invokevirtual 25, 3) := by decide +kernel
theorem dX5_searchPlan_17 : decode cX5_searchPlan 17 = .ok (.if_icmp .ge 12, 3) := by decide +kernel
theorem dX5_searchPlan_20 : decode cX5_searchPlan 20 = .ok (.iload_n 1, 1) := by decide +kernel
theorem dX5_searchPlan_21 : decode cX5_searchPlan 21 = .ok (.aload_n 0, 1) := by decide +kernel
theorem dX5_searchPlan_22 : decode cX5_searchPlan 22 = .ok (.getfield 21, 3) := by decide +kernel
theorem dX5_searchPlan_25 : decode cX5_searchPlan 25 = .ok (.arraylength, 1) := by decide +kernel
theorem dX5_searchPlan_26 : decode cX5_searchPlan 26 = .ok (.if_icmp .lt 14, 3) := by decide +kernel
theorem dX5_searchPlan_29 : decode cX5_searchPlan 29 = .ok (.aload_n 0, 1) := by decide +kernel
theorem dX5_searchPlan_30 : decode cX5_searchPlan 30 = .ok (.iload_n 3, 1) := by decide +kernel
theorem dX5_searchPlan_31 : decode cX5_searchPlan 31 = .ok (.putfield 42, 3) := by decide +kernel
theorem dX5_searchPlan_34 : decode cX5_searchPlan 34 = .ok (.aload_n 0, 1) := by decide +kernel
theorem dX5_searchPlan_35 : decode cX5_searchPlan 35 = .ok (.iload_n 2, 1) := by decide +kernel
theorem dX5_searchPlan_36 : decode cX5_searchPlan 36 = .ok (.putfield 56, 3) := by decide +kernel
theorem dX5_searchPlan_39 : decode cX5_searchPlan 39 = .ok (.return_, 1) := by decide +kernel
theorem dX5_searchPlan_40 : decode cX5_searchPlan 40 = .ok (.iconst 0, 1) := by decide +kernel
theorem dX5_searchPlan_41 : decode cX5_searchPlan 41 = .ok (.istore 4, 2) := by decide +kernel
theorem dX5_searchPlan_43 : decode cX5_searchPlan 43 = .ok (.iload 4, 2) := by decide +kernel
theorem dX5_searchPlan_45 : decode cX5_searchPlan 45 = .ok (.iconst 3, 1) := by decide +kernel
theorem dX5_searchPlan_46 : decode cX5_searchPlan 46 = .ok (.if_icmp .ge 55, 3) := by decide +kernel
theorem dX5_searchPlan_49 : decode cX5_searchPlan 49 = .ok (.iload_n 2, 1) := by decide +kernel
theorem dX5_searchPlan_50 : decode cX5_searchPlan 50 = .ok (.iload 4, 2) := by decide +kernel
theorem dX5_searchPlan_52 : decode cX5_searchPlan 52 = .ok (.invokestatic 79, 3) := by decide +kernel
theorem dX5_searchPlan_55 : decode cX5_searchPlan 55 = .ok (.istore 5, 2) := by decide +kernel
theorem dX5_searchPlan_57 : decode cX5_searchPlan 57 = .ok (.iload 5, 2) := by decide +kernel
theorem dX5_searchPlan_59 : decode cX5_searchPlan 59 = .ok (.invokestatic 82, 3) := by decide +kernel
theorem dX5_searchPlan_62 : decode cX5_searchPlan 62 = .ok (.iconst 4, 1) := by decide +kernel
theorem dX5_searchPlan_63 : decode cX5_searchPlan 63 = .ok (.if_icmp .ge 32, 3) := by decide +kernel
theorem dX5_searchPlan_66 : decode cX5_searchPlan 66 = .ok (.aload_n 0, 1) := by decide +kernel
theorem dX5_searchPlan_67 : decode cX5_searchPlan 67 = .ok (.iload_n 1, 1) := by decide +kernel
theorem dX5_searchPlan_68 : decode cX5_searchPlan 68 = .ok (.iconst 1, 1) := by decide +kernel
theorem dX5_searchPlan_69 : decode cX5_searchPlan 69 = .ok (.iadd, 1) := by decide +kernel
theorem dX5_searchPlan_70 : decode cX5_searchPlan 70 = .ok (.iload_n 2, 1) := by decide +kernel
theorem dX5_searchPlan_71 : decode cX5_searchPlan 71 = .ok (.iload 4, 2) := by decide +kernel
theorem dX5_searchPlan_73 : decode cX5_searchPlan 73 = .ok (.iload_n 1, 1) := by decide +kernel
theorem dX5_searchPlan_74 : decode cX5_searchPlan 74 = .ok (.invokestatic 88, 3) := by decide +kernel
theorem dX5_searchPlan_77 : decode cX5_searchPlan 77 = .ok (.ior, 1) := by decide +kernel
theorem dX5_searchPlan_78 : decode cX5_searchPlan 78 = .ok (.iload_n 3, 1) := by decide +kernel
theorem dX5_searchPlan_79 : decode cX5_searchPlan 79 = .ok (.iload 5, 2) := by decide +kernel
theorem dX5_searchPlan_81 : decode cX5_searchPlan 81 = .ok (.aload_n 0, 1) := by decide +kernel
theorem dX5_searchPlan_82 : decode cX5_searchPlan 82 = .ok (.getfield 21, 3) := by decide +kernel
theorem dX5_searchPlan_85 : decode cX5_searchPlan 85 = .ok (.iload_n 1, 1) := by decide +kernel
theorem dX5_searchPlan_86 : decode cX5_searchPlan 86 = .ok (.iaload, 1) := by decide +kernel
theorem dX5_searchPlan_87 : decode cX5_searchPlan 87 = .ok (.iand, 1) := by decide +kernel
theorem dX5_searchPlan_88 : decode cX5_searchPlan 88 = .ok (.invokestatic 82, 3) := by decide +kernel
theorem dX5_searchPlan_91 : decode cX5_searchPlan 91 = .ok (.iadd, 1) := by decide +kernel
theorem dX5_searchPlan_92 : decode cX5_searchPlan 92 = .ok (.invokestatic 45, 3) := by decide +kernel
theorem dX5_searchPlan_95 : decode cX5_searchPlan 95 = .ok (.iinc 4 1, 3) := by decide +kernel
theorem dX5_searchPlan_98 : decode cX5_searchPlan 98 = .ok (.goto (-55), 3) := by decide +kernel
theorem dX5_searchPlan_101 : decode cX5_searchPlan 101 = .ok (.return_, 1) := by decide +kernel
theorem dX5_fewestMoves_0 : decode cX5_fewestMoves 0 = .ok (.iload_n 1, 1) := by decide +kernel
theorem dX5_fewestMoves_1 : decode cX5_fewestMoves 1 = .ok (.aload_n 0, 1) := by decide +kernel
theorem dX5_fewestMoves_2 : decode cX5_fewestMoves 2 = .ok (.getfield 12, 3) := by decide +kernel
theorem dX5_fewestMoves_5 : decode cX5_fewestMoves 5 = .ok (.invokevirtual 25, 3) := by decide +kernel
theorem dX5_fewestMoves_8 : decode cX5_fewestMoves 8 = .ok (.if_icmp .ge 12, 3) := by decide +kernel
theorem dX5_fewestMoves_11 : decode cX5_fewestMoves 11 = .ok (.iload_n 1, 1) := by decide +kernel
theorem dX5_fewestMoves_12 : decode cX5_fewestMoves 12 = .ok (.aload_n 0, 1) := by decide +kernel
theorem dX5_fewestMoves_13 : decode cX5_fewestMoves 13 = .ok (.getfield 21, 3) := by decide +kernel
theorem dX5_fewestMoves_16 : decode cX5_fewestMoves 16 = .ok (.arraylength, 1) := by decide +kernel
theorem dX5_fewestMoves_17 : decode cX5_fewestMoves 17 = .ok (.if_icmp .lt 5, 3) := by decide +kernel
theorem dX5_fewestMoves_20 : decode cX5_fewestMoves 20 = .ok (.iconst 0, 1) := by decide +kernel
theorem dX5_fewestMoves_21 : decode cX5_fewestMoves 21 = .ok (.ireturn, 1) := by decide +kernel
theorem dX5_fewestMoves_22 : decode cX5_fewestMoves 22 = .ok (.sipush 1000, 3) := by decide +kernel
theorem dX5_fewestMoves_25 : decode cX5_fewestMoves 25 = .ok (.istore_n 3, 1) := by decide +kernel
theorem dX5_fewestMoves_26 : decode cX5_fewestMoves 26 = .ok (.iconst 0, 1) := by decide +kernel
theorem dX5_fewestMoves_27 : decode cX5_fewestMoves 27 = .ok (.istore 4, 2) := by decide +kernel
theorem dX5_fewestMoves_29 : decode cX5_fewestMoves 29 = .ok (.iload 4, 2) := by decide +kernel
theorem dX5_fewestMoves_31 : decode cX5_fewestMoves 31 = .ok (.iconst 3, 1) := by decide +kernel
theorem dX5_fewestMoves_32 : decode cX5_fewestMoves 32 = .ok (.if_icmp .ge 63, 3) := by decide +kernel
theorem dX5_fewestMoves_35 : decode cX5_fewestMoves 35 = .ok (.iload_n 2, 1) := by decide +kernel
theorem dX5_fewestMoves_36 : decode cX5_fewestMoves 36 = .ok (.iload 4, 2) := by decide +kernel
theorem dX5_fewestMoves_38 : decode cX5_fewestMoves 38 = .ok (.invokestatic 79, 3) := by decide +kernel
theorem dX5_fewestMoves_41 : decode cX5_fewestMoves 41 = .ok (.istore 5, 2) := by decide +kernel
theorem dX5_fewestMoves_43 : decode cX5_fewestMoves 43 = .ok (.iload 5, 2) := by decide +kernel
theorem dX5_fewestMoves_45 : decode cX5_fewestMoves 45 = .ok (.invokestatic 82, 3) := by decide +kernel
theorem dX5_fewestMoves_48 : decode cX5_fewestMoves 48 = .ok (.iconst 4, 1) := by decide +kernel
theorem dX5_fewestMoves_49 : decode cX5_fewestMoves 49 = .ok (.if_icmp .ge 40, 3) := by decide +kernel
theorem dX5_fewestMoves_52 : decode cX5_fewestMoves 52 = .ok (.iload 5, 2) := by decide +kernel
theorem dX5_fewestMoves_54 : decode cX5_fewestMoves 54 = .ok (.aload_n 0, 1) := by decide +kernel
theorem dX5_fewestMoves_55 : decode cX5_fewestMoves 55 = .ok (.getfield 21, 3) := by decide +kernel
theorem dX5_fewestMoves_58 : decode cX5_fewestMoves 58 = .ok (.iload_n 1, 1) := by decide +kernel
theorem dX5_fewestMoves_59 : decode cX5_fewestMoves 59 = .ok (.iaload, 1) := by decide +kernel
theorem dX5_fewestMoves_60 : decode cX5_fewestMoves 60 = .ok (.iand, 1) := by decide +kernel
theorem dX5_fewestMoves_61 : decode cX5_fewestMoves 61 = .ok (.invokestatic 82, 3) := by decide +kernel
theorem dX5_fewestMoves_64 : decode cX5_fewestMoves 64 = .ok (.aload_n 0, 1) := by decide +kernel
theorem dX5_fewestMoves_65 : decode cX5_fewestMoves 65 = .ok (.iload_n 1, 1) := by decide +kernel
theorem dX5_fewestMoves_66 : decode cX5_fewestMoves 66 = .ok (.iconst 1, 1) := by decide +kernel
theorem dX5_fewestMoves_67 : decode cX5_fewestMoves 67 = .ok (.iadd, 1) := by decide +kernel
theorem dX5_fewestMoves_68 : decode cX5_fewestMoves 68 = .ok (.iload_n 2, 1) := by decide +kernel
theorem dX5_fewestMoves_69 : decode cX5_fewestMoves 69 = .ok (.iload 4, 2) := by decide +kernel
theorem dX5_fewestMoves_71 : decode cX5_fewestMoves 71 = .ok (.iload_n 1, 1) := by decide +kernel
theorem dX5_fewestMoves_72 : decode cX5_fewestMoves 72 = .ok (.invokestatic 88, 3) := by decide +kernel
theorem dX5_fewestMoves_75 : decode cX5_fewestMoves 75 = .ok (.ior, 1) := by decide +kernel
theorem dX5_fewestMoves_76 : decode cX5_fewestMoves 76 = .ok (.invokestatic 49, 3) := by decide +kernel
theorem dX5_fewestMoves_79 : decode cX5_fewestMoves 79 = .ok (.iadd, 1) := by decide +kernel
theorem dX5_fewestMoves_80 : decode cX5_fewestMoves 80 = .ok (.istore 6, 2) := by decide +kernel
theorem dX5_fewestMoves_82 : decode cX5_fewestMoves 82 = .ok (.iload_n 3, 1) := by decide +kernel
theorem dX5_fewestMoves_83 : decode cX5_fewestMoves 83 = .ok (.iload 6, 2) := by decide +kernel
theorem dX5_fewestMoves_85 : decode cX5_fewestMoves 85 = .ok (.invokestatic 91, 3) := by decide +kernel
theorem dX5_fewestMoves_88 : decode cX5_fewestMoves 88 = .ok (.istore_n 3, 1) := by decide +kernel
theorem dX5_fewestMoves_89 : decode cX5_fewestMoves 89 = .ok (.iinc 4 1, 3) := by decide +kernel
theorem dX5_fewestMoves_92 : decode cX5_fewestMoves 92 = .ok (.goto (-63), 3) := by decide +kernel
theorem dX5_fewestMoves_95 : decode cX5_fewestMoves 95 = .ok (.iload_n 3, 1) := by decide +kernel
theorem dX5_fewestMoves_96 : decode cX5_fewestMoves 96 = .ok (.ireturn, 1) := by decide +kernel
theorem dX5_trainsIn_0 : decode cX5_trainsIn 0 = .ok (.iload_n 0, 1) := by decide +kernel
theorem dX5_trainsIn_1 : decode cX5_trainsIn 1 = .ok (.iload_n 1, 1) := by decide +kernel
theorem dX5_trainsIn_2 : decode cX5_trainsIn 2 = .ok (.bipush 8, 2) := by decide +kernel
theorem dX5_trainsIn_4 : decode cX5_trainsIn 4 = .ok (.imul, 1) := by decide +kernel
theorem dX5_trainsIn_5 : decode cX5_trainsIn 5 = .ok (.ishr, 1) := by decide +kernel
theorem dX5_trainsIn_6 : decode cX5_trainsIn 6 = .ok (.sipush 255, 3) := by decide +kernel
theorem dX5_trainsIn_9 : decode cX5_trainsIn 9 = .ok (.iand, 1) := by decide +kernel
theorem dX5_trainsIn_10 : decode cX5_trainsIn 10 = .ok (.ireturn, 1) := by decide +kernel
theorem dX5_bitOf_0 : decode cX5_bitOf 0 = .ok (.iconst 1, 1) := by decide +kernel
theorem dX5_bitOf_1 : decode cX5_bitOf 1 = .ok (.iload_n 0, 1) := by decide +kernel
theorem dX5_bitOf_2 : decode cX5_bitOf 2 = .ok (.bipush 8, 2) := by decide +kernel
theorem dX5_bitOf_4 : decode cX5_bitOf 4 = .ok (.imul, 1) := by decide +kernel
theorem dX5_bitOf_5 : decode cX5_bitOf 5 = .ok (.iload_n 1, 1) := by decide +kernel
theorem dX5_bitOf_6 : decode cX5_bitOf 6 = .ok (.iadd, 1) := by decide +kernel
theorem dX5_bitOf_7 : decode cX5_bitOf 7 = .ok (.ishl, 1) := by decide +kernel
theorem dX5_bitOf_8 : decode cX5_bitOf 8 = .ok (.ireturn, 1) := by decide +kernel
theorem dX5_roadIn_0 : decode cX5_roadIn 0 = .ok (.iconst 0, 1) := by decide +kernel
theorem dX5_roadIn_1 : decode cX5_roadIn 1 = .ok (.istore_n 2, 1) := by decide +kernel
theorem dX5_roadIn_2 : decode cX5_roadIn 2 = .ok (.iload_n 2, 1) := by decide +kernel
theorem dX5_roadIn_3 : decode cX5_roadIn 3 = .ok (.iconst 3, 1) := by decide +kernel
theorem dX5_roadIn_4 : decode cX5_roadIn 4 = .ok (.if_icmp .ge 21, 3) := by decide +kernel
theorem dX5_roadIn_7 : decode cX5_roadIn 7 = .ok (.iload_n 0, 1) := by decide +kernel
theorem dX5_roadIn_8 : decode cX5_roadIn 8 = .ok (.iload_n 2, 1) := by decide +kernel
theorem dX5_roadIn_9 : decode cX5_roadIn 9 = .ok (.iload_n 1, 1) := by decide +kernel
theorem dX5_roadIn_10 : decode cX5_roadIn 10 = .ok (.invokestatic 88, 3) := by decide +kernel
theorem dX5_roadIn_13 : decode cX5_roadIn 13 = .ok (.iand, 1) := by decide +kernel
theorem dX5_roadIn_14 : decode cX5_roadIn 14 = .ok (.ifCond .eq 5, 3) := by decide +kernel
theorem dX5_roadIn_17 : decode cX5_roadIn 17 = .ok (.iload_n 2, 1) := by decide +kernel
theorem dX5_roadIn_18 : decode cX5_roadIn 18 = .ok (.ireturn, 1) := by decide +kernel
theorem dX5_roadIn_19 : decode cX5_roadIn 19 = .ok (.iinc 2 1, 3) := by decide +kernel
theorem dX5_roadIn_22 : decode cX5_roadIn 22 = .ok (.goto (-20), 3) := by decide +kernel
theorem dX5_roadIn_25 : decode cX5_roadIn 25 = .ok (.iconst 0, 1) := by decide +kernel
theorem dX5_roadIn_26 : decode cX5_roadIn 26 = .ok (.ireturn, 1) := by decide +kernel
theorem dX6_init_0 : decode cX6_init 0 = .ok (.aload_n 0, 1) := by decide +kernel
theorem dX6_init_1 : decode cX6_init 1 = .ok (.invokespecial 1, 3) := by decide +kernel
theorem dX6_init_4 : decode cX6_init 4 = .ok (.aload_n 0, 1) := by decide +kernel
theorem dX6_init_5 : decode cX6_init 5 = .ok (.new 7, 3) := by decide +kernel
theorem dX6_init_8 : decode cX6_init 8 = .ok (.dup, 1) := by decide +kernel
theorem dX6_init_9 : decode cX6_init 9 = .ok (.invokespecial 9, 3) := by decide +kernel
theorem dX6_init_12 : decode cX6_init 12 = .ok (.putfield 10, 3) := by decide +kernel
theorem dX6_init_15 : decode cX6_init 15 = .ok (.aload_n 0, 1) := by decide +kernel
theorem dX6_init_16 : decode cX6_init 16 = .ok (.iconst 5, 1) := by decide +kernel
theorem dX6_init_17 : decode cX6_init 17 = .ok (.anewarray 16, 3) := by decide +kernel
theorem dX6_init_20 : decode cX6_init 20 = .ok (.putfield 18, 3) := by decide +kernel
theorem dX6_init_23 : decode cX6_init 23 = .ok (.aload_n 0, 1) := by decide +kernel
theorem dX6_init_24 : decode cX6_init 24 = .ok (.new 22, 3) := by decide +kernel
theorem dX6_init_27 : decode cX6_init 27 = .ok (.dup, 1) := by decide +kernel
theorem dX6_init_28 : decode cX6_init 28 = .ok (.invokespecial 24, 3) := by decide +kernel
theorem dX6_init_31 : decode cX6_init 31 = .ok (.putfield 25, 3) := by decide +kernel
theorem dX6_init_34 : decode cX6_init 34 = .ok (.aload_n 0, 1) := by decide +kernel
theorem dX6_init_35 : decode cX6_init 35 = .ok (.new 29, 3) := by decide +kernel
theorem dX6_init_38 : decode cX6_init 38 = .ok (.dup, 1) := by decide +kernel
theorem dX6_init_39 : decode cX6_init 39 = .ok (.invokespecial 31, 3) := by decide +kernel
theorem dX6_init_42 : decode cX6_init 42 = .ok (.putfield 32, 3) := by decide +kernel
theorem dX6_init_45 : decode cX6_init 45 = .ok (.iconst 0, 1) := by decide +kernel
theorem dX6_init_46 : decode cX6_init 46 = .ok (.istore_n 1, 1) := by decide +kernel
theorem dX6_init_47 : decode cX6_init 47 = .ok (.iload_n 1, 1) := by decide +kernel
theorem dX6_init_48 : decode cX6_init 48 = .ok (.aload_n 0, 1) := by decide +kernel
theorem dX6_init_49 : decode cX6_init 49 = .ok (.getfield 18, 3) := by decide +kernel
theorem dX6_init_52 : decode cX6_init 52 = .ok (.arraylength, 1) := by decide +kernel
theorem dX6_init_53 : decode cX6_init 53 = .ok (.if_icmp .ge 22, 3) := by decide +kernel
theorem dX6_init_56 : decode cX6_init 56 = .ok (.aload_n 0, 1) := by decide +kernel
theorem dX6_init_57 : decode cX6_init 57 = .ok (.getfield 18, 3) := by decide +kernel
theorem dX6_init_60 : decode cX6_init 60 = .ok (.iload_n 1, 1) := by decide +kernel
theorem dX6_init_61 : decode cX6_init 61 = .ok (.new 16, 3) := by decide +kernel
theorem dX6_init_64 : decode cX6_init 64 = .ok (.dup, 1) := by decide +kernel
theorem dX6_init_65 : decode cX6_init 65 = .ok (.invokespecial 36, 3) := by decide +kernel
theorem dX6_init_68 : decode cX6_init 68 = .ok (.aastore, 1) := by decide +kernel
theorem dX6_init_69 : decode cX6_init 69 = .ok (.iinc 1 1, 3) := by decide +kernel
theorem dX6_init_72 : decode cX6_init 72 = .ok (.goto (-25), 3) := by decide +kernel
theorem dX6_init_75 : decode cX6_init 75 = .ok (.return_, 1) := by decide +kernel
theorem dX6_part_0 : decode cX6_part 0 = .ok (.aload_n 0, 1) := by decide +kernel
theorem dX6_part_1 : decode cX6_part 1 = .ok (.iload_n 1, 1) := by decide +kernel
theorem dX6_part_2 : decode cX6_part 2 = .ok (.invokevirtual 37, 3) := by decide +kernel
theorem dX6_part_5 : decode cX6_part 5 = .ok (.astore 4, 2) := by decide +kernel
theorem dX6_part_7 : decode cX6_part 7 = .ok (.iload_n 2, 1) := by decide +kernel
theorem dX6_part_8 : decode cX6_part 8 = .ok (.iconst 0, 1) := by decide +kernel
theorem dX6_part_9 : decode cX6_part 9 = .ok (.bipush 9, 2) := by decide +kernel
theorem dX6_part_11 : decode cX6_part 11 = .ok (.invokestatic 41, 3) := by decide +kernel
theorem dX6_part_14 : decode cX6_part 14 = .ok (.ifCond .ne 12, 3) := by decide +kernel
theorem dX6_part_17 : decode cX6_part 17 = .ok (.iload_n 3, 1) := by decide +kernel
theorem dX6_part_18 : decode cX6_part 18 = .ok (.iconst 0, 1) := by decide +kernel
theorem dX6_part_19 : decode cX6_part 19 = .ok (.iconst 3, 1) := by decide +kernel
theorem dX6_part_20 : decode cX6_part 20 = .ok (.invokestatic 41, 3) := by decide +kernel
theorem dX6_part_23 : decode cX6_part 23 = .ok (.ifCond .eq 13, 3) := by decide +kernel
theorem dX6_part_26 : decode cX6_part 26 = .ok (.new 45, 3) := by decide +kernel
theorem dX6_part_29 : decode cX6_part 29 = .ok (.dup, 1) := by decide +kernel
theorem dX6_part_30 : decode cX6_part 30 = .ok (.ldc 47, 2) := by decide +kernel
theorem dX6_part_32 : decode cX6_part 32 = .ok (.invokespecial 49, 3) := by decide +kernel
theorem dX6_part_35 : decode cX6_part 35 = .ok (.athrow, 1) := by decide +kernel
theorem dX6_part_36 : decode cX6_part 36 = .ok (.aload_n 0, 1) := by decide +kernel
theorem dX6_part_37 : decode cX6_part 37 = .ok (.getfield 10, 3) := by decide +kernel
theorem dX6_part_40 : decode cX6_part 40 = .ok (.invokevirtual 52, 3) := by decide +kernel
theorem dX6_part_43 : decode cX6_part 43 = .ok (.istore 5, 2) := by decide +kernel
theorem dX6_part_45 : decode cX6_part 45 = .ok (.iload 5, 2) := by decide +kernel
theorem dX6_part_47 : decode cX6_part 47 = .ok (.bipush 60, 2) := by decide +kernel
theorem dX6_part_49 : decode cX6_part 49 = .ok (.if_icmp .lt 13, 3) := by decide +kernel
theorem dX6_part_52 : decode cX6_part 52 = .ok (.new 56, 3) := by decide +kernel
theorem dX6_part_55 : decode cX6_part 55 = .ok (.dup, 1) := by decide +kernel
theorem dX6_part_56 : decode cX6_part 56 = .ok (.ldc 58, 2) := by decide +kernel
theorem dX6_part_58 : decode cX6_part 58 = .ok (.invokespecial 60, 3) := by decide +kernel
theorem dX6_part_61 : decode cX6_part 61 = .ok (.athrow, 1) := by decide +kernel
theorem dX6_part_62 : decode cX6_part 62 = .ok (.aload_n 0, 1) := by decide +kernel
theorem dX6_part_63 : decode cX6_part 63 = .ok (.getfield 10, 3) := by decide +kernel
theorem dX6_part_66 : decode cX6_part 66 = .ok (.new 61, 3) := by decide +kernel
theorem dX6_part_69 : decode cX6_part 69 = .ok (.dup, 1) := by decide +kernel
theorem dX6_part_70 : decode cX6_part 70 = .ok (.iload 5, 2) := by decide +kernel
theorem dX6_part_72 : decode cX6_part 72 = .ok (.iload_n 1, 1) := by decide +kernel
theorem dX6_part_73 : decode cX6_part 73 = .ok (.iload_n 2, 1) := by decide +kernel
theorem dX6_part_74 : decode cX6_part 74 = .ok (.iload_n 3, 1) := by decide +kernel
theorem dX6_part_75 : decode cX6_part 75 = .ok (.aload 4, 2) := by decide +kernel
theorem dX6_part_77 : decode cX6_part 77 = .ok (.invokespecial 63, 3) := by decide +kernel
theorem dX6_part_80 : decode cX6_part 80 = .ok (.invokevirtual 66, 3) := by decide +kernel
theorem dX6_part_83 : decode cX6_part 83 = .ok (.pop, 1) := by decide +kernel
theorem dX6_part_84 : decode cX6_part 84 = .ok (.iload 5, 2) := by decide +kernel
theorem dX6_part_86 : decode cX6_part 86 = .ok (.ireturn, 1) := by decide +kernel
theorem dX6_limits_0 : decode cX6_limits 0 = .ok (.aload_n 0, 1) := by decide +kernel
theorem dX6_limits_1 : decode cX6_limits 1 = .ok (.iload_n 1, 1) := by decide +kernel
theorem dX6_limits_2 : decode cX6_limits 2 = .ok (.invokevirtual 37, 3) := by decide +kernel
theorem dX6_limits_5 : decode cX6_limits 5 = .ok (.astore 5, 2) := by decide +kernel
theorem dX6_limits_7 : decode cX6_limits 7 = .ok (.iload_n 2, 1) := by decide +kernel
theorem dX6_limits_8 : decode cX6_limits 8 = .ok (.iconst 0, 1) := by decide +kernel
theorem dX6_limits_9 : decode cX6_limits 9 = .ok (.ldc 70, 2) := by decide +kernel
theorem dX6_limits_11 : decode cX6_limits 11 = .ok (.invokestatic 41, 3) := by decide +kernel
theorem dX6_limits_14 : decode cX6_limits 14 = .ok (.ifCond .ne 24, 3) := by decide +kernel
theorem dX6_limits_17 : decode cX6_limits 17 = .ok (.iload_n 3, 1) := by decide +kernel
theorem dX6_limits_18 : decode cX6_limits 18 = .ok (.iconst 0, 1) := by decide +kernel
theorem dX6_limits_19 : decode cX6_limits 19 = .ok (.ldc 70, 2) := by decide +kernel
theorem dX6_limits_21 : decode cX6_limits 21 = .ok (.invokestatic 41, 3) := by decide +kernel
theorem dX6_limits_24 : decode cX6_limits 24 = .ok (.ifCond .ne 14, 3) := by decide +kernel
theorem dX6_limits_27 : decode cX6_limits 27 = .ok (.iload 4, 2) := by decide +kernel
theorem dX6_limits_29 : decode cX6_limits 29 = .ok (.iconst 0, 1) := by decide +kernel
theorem dX6_limits_30 : decode cX6_limits 30 = .ok (.ldc 70, 2) := by decide +kernel
theorem dX6_limits_32 : decode cX6_limits 32 = .ok (.invokestatic 41, 3) := by decide +kernel
theorem dX6_limits_35 : decode cX6_limits 35 = .ok (.ifCond .eq 13, 3) := by decide +kernel
theorem dX6_limits_38 : decode cX6_limits 38 = .ok (.new 45, 3) := by decide +kernel
theorem dX6_limits_41 : decode cX6_limits 41 = .ok (.dup, 1) := by decide +kernel
theorem dX6_limits_42 : decode cX6_limits 42 = .ok (.ldc 71, 2) := by decide +kernel
theorem dX6_limits_44 : decode cX6_limits 44 = .ok (.invokespecial 49, 3) := by decide +kernel
theorem dX6_limits_47 : decode cX6_limits 47 = .ok (.athrow, 1) := by decide +kernel
theorem dX6_limits_48 : decode cX6_limits 48 = .ok (.aload 5, 2) := by decide +kernel
theorem dX6_limits_50 : decode cX6_limits 50 = .ok (.getfield 73, 3) := by decide +kernel
theorem dX6_limits_53 : decode cX6_limits 53 = .ok (.istore 6, 2) := by decide +kernel
theorem dX6_limits_55 : decode cX6_limits 55 = .ok (.aload 5, 2) := by decide +kernel
theorem dX6_limits_57 : decode cX6_limits 57 = .ok (.iload_n 2, 1) := by decide +kernel
theorem dX6_limits_58 : decode cX6_limits 58 = .ok (.putfield 73, 3) := by decide +kernel
theorem dX6_limits_61 : decode cX6_limits 61 = .ok (.aload 5, 2) := by decide +kernel
theorem dX6_limits_63 : decode cX6_limits 63 = .ok (.iload_n 3, 1) := by decide +kernel
theorem dX6_limits_64 : decode cX6_limits 64 = .ok (.putfield 77, 3) := by decide +kernel
theorem dX6_limits_67 : decode cX6_limits 67 = .ok (.aload 5, 2) := by decide +kernel
theorem dX6_limits_69 : decode cX6_limits 69 = .ok (.iload 4, 2) := by decide +kernel
theorem dX6_limits_71 : decode cX6_limits 71 = .ok (.putfield 80, 3) := by decide +kernel
theorem dX6_limits_74 : decode cX6_limits 74 = .ok (.iload 6, 2) := by decide +kernel
theorem dX6_limits_76 : decode cX6_limits 76 = .ok (.ireturn, 1) := by decide +kernel
theorem dX6_fit_0 : decode cX6_fit 0 = .ok (.aload_n 0, 1) := by decide +kernel
theorem dX6_fit_1 : decode cX6_fit 1 = .ok (.iload_n 1, 1) := by decide +kernel
theorem dX6_fit_2 : decode cX6_fit 2 = .ok (.invokevirtual 83, 3) := by decide +kernel
theorem dX6_fit_5 : decode cX6_fit 5 = .ok (.astore_n 3, 1) := by decide +kernel
theorem dX6_fit_6 : decode cX6_fit 6 = .ok (.aload_n 0, 1) := by decide +kernel
theorem dX6_fit_7 : decode cX6_fit 7 = .ok (.iload_n 2, 1) := by decide +kernel
theorem dX6_fit_8 : decode cX6_fit 8 = .ok (.invokevirtual 83, 3) := by decide +kernel
theorem dX6_fit_11 : decode cX6_fit 11 = .ok (.astore 4, 2) := by decide +kernel
theorem dX6_fit_13 : decode cX6_fit 13 = .ok (.aload 4, 2) := by decide +kernel
theorem dX6_fit_15 : decode cX6_fit 15 = .ok (.getfield 87, 3) := by decide +kernel
theorem dX6_fit_18 : decode cX6_fit 18 = .ok (.aload_n 3, 1) := by decide +kernel
theorem dX6_fit_19 : decode cX6_fit 19 = .ok (.getfield 87, 3) := by decide +kernel
theorem dX6_fit_22 : decode cX6_fit 22 = .ok (.invokestatic 90, 3) := by decide +kernel
theorem dX6_fit_25 : decode cX6_fit 25 = .ok (.istore 5, 2) := by decide +kernel
theorem dX6_fit_27 : decode cX6_fit 27 = .ok (.iload 5, 2) := by decide +kernel
theorem dX6_fit_29 : decode cX6_fit 29 = .ok (.ifCond .ne 13, 3) := by decide +kernel
theorem dX6_fit_32 : decode cX6_fit 32 = .ok (.new 45, 3) := by decide +kernel
theorem dX6_fit_35 : decode cX6_fit 35 = .ok (.dup, 1) := by decide +kernel
theorem dX6_fit_36 : decode cX6_fit 36 = .ok (.ldc 94, 2) := by decide +kernel
theorem dX6_fit_38 : decode cX6_fit 38 = .ok (.invokespecial 49, 3) := by decide +kernel
theorem dX6_fit_41 : decode cX6_fit 41 = .ok (.athrow, 1) := by decide +kernel
theorem dX6_fit_42 : decode cX6_fit 42 = .ok (.aload_n 3, 1) := by decide +kernel
theorem dX6_fit_43 : decode cX6_fit 43 = .ok (.invokevirtual 96, 3) := by decide +kernel
theorem dX6_fit_46 : decode cX6_fit 46 = .ok (.ifCond .eq 10, 3) := by decide +kernel
theorem dX6_fit_49 : decode cX6_fit 49 = .ok (.aload_n 3, 1) := by decide +kernel
theorem dX6_fit_50 : decode cX6_fit 50 = .ok (.getfield 100, 3) := by decide +kernel
theorem dX6_fit_53 : decode cX6_fit 53 = .ok (.ifCond .eq 13, 3) := by decide +kernel
theorem dX6_fit_56 : decode cX6_fit 56 = .ok (.new 56, 3) := by decide +kernel
theorem dX6_fit_59 : decode cX6_fit 59 = .ok (.dup, 1) := by decide +kernel
theorem dX6_fit_60 : decode cX6_fit 60 = .ok (.ldc 104, 2) := by decide +kernel
theorem dX6_fit_62 : decode cX6_fit 62 = .ok (.invokespecial 60, 3) := by decide +kernel
theorem dX6_fit_65 : decode cX6_fit 65 = .ok (.athrow, 1) := by decide +kernel
theorem dX6_fit_66 : decode cX6_fit 66 = .ok (.aload 4, 2) := by decide +kernel
theorem dX6_fit_68 : decode cX6_fit 68 = .ok (.getfield 106, 3) := by decide +kernel
theorem dX6_fit_71 : decode cX6_fit 71 = .ok (.ifCond .ne 26, 3) := by decide +kernel
theorem dX6_fit_74 : decode cX6_fit 74 = .ok (.aload 4, 2) := by decide +kernel
theorem dX6_fit_76 : decode cX6_fit 76 = .ok (.invokevirtual 109, 3) := by decide +kernel
theorem dX6_fit_79 : decode cX6_fit 79 = .ok (.ifCond .ne 18, 3) := by decide +kernel
theorem dX6_fit_82 : decode cX6_fit 82 = .ok (.aload_n 0, 1) := by decide +kernel
theorem dX6_fit_83 : decode cX6_fit 83 = .ok (.aload 4, 2) := by decide +kernel
theorem dX6_fit_85 : decode cX6_fit 85 = .ok (.aload_n 3, 1) := by decide +kernel
theorem dX6_fit_86 : decode cX6_fit 86 = .ok (.getfield 87, 3) := by decide +kernel
theorem dX6_fit_89 : decode cX6_fit 89 = .ok (.invokevirtual 112, 3) := by decide +kernel
theorem dX6_fit_92 : decode cX6_fit 92 = .ok (.iload 5, 2) := by decide +kernel
theorem dX6_fit_94 : decode cX6_fit 94 = .ok (.if_icmp .lt 13, 3) := by decide +kernel
theorem dX6_fit_97 : decode cX6_fit 97 = .ok (.new 56, 3) := by decide +kernel
theorem dX6_fit_100 : decode cX6_fit 100 = .ok (.dup, 1) := by decide +kernel
theorem dX6_fit_101 : decode cX6_fit 101 = .ok (.ldc 116, 2) := by decide +kernel
theorem dX6_fit_103 : decode cX6_fit 103 = .ok (.invokespecial 60, 3) := by decide +kernel
theorem dX6_fit_106 : decode cX6_fit 106 = .ok (.athrow, 1) := by decide +kernel
theorem dX6_fit_107 : decode cX6_fit 107 = .ok (.aload_n 3, 1) := by decide +kernel
theorem dX6_fit_108 : decode cX6_fit 108 = .ok (.getfield 118, 3) := by decide +kernel
theorem dX6_fit_111 : decode cX6_fit 111 = .ok (.aload 4, 2) := by decide +kernel
theorem dX6_fit_113 : decode cX6_fit 113 = .ok (.getfield 118, 3) := by decide +kernel
theorem dX6_fit_116 : decode cX6_fit 116 = .ok (.isub, 1) := by decide +kernel
theorem dX6_fit_117 : decode cX6_fit 117 = .ok (.invokestatic 121, 3) := by decide +kernel
theorem dX6_fit_120 : decode cX6_fit 120 = .ok (.iconst 1, 1) := by decide +kernel
theorem dX6_fit_121 : decode cX6_fit 121 = .ok (.if_icmp .le 13, 3) := by decide +kernel
theorem dX6_fit_124 : decode cX6_fit 124 = .ok (.new 56, 3) := by decide +kernel
theorem dX6_fit_127 : decode cX6_fit 127 = .ok (.dup, 1) := by decide +kernel
theorem dX6_fit_128 : decode cX6_fit 128 = .ok (.ldc 127, 2) := by decide +kernel
theorem dX6_fit_130 : decode cX6_fit 130 = .ok (.invokespecial 60, 3) := by decide +kernel
theorem dX6_fit_133 : decode cX6_fit 133 = .ok (.athrow, 1) := by decide +kernel
theorem dX6_fit_134 : decode cX6_fit 134 = .ok (.aload_n 3, 1) := by decide +kernel
theorem dX6_fit_135 : decode cX6_fit 135 = .ok (.aload 4, 2) := by decide +kernel
theorem dX6_fit_137 : decode cX6_fit 137 = .ok (.putfield 129, 3) := by decide +kernel
theorem dX6_fit_140 : decode cX6_fit 140 = .ok (.aload_n 0, 1) := by decide +kernel
theorem dX6_fit_141 : decode cX6_fit 141 = .ok (.getfield 25, 3) := by decide +kernel
theorem dX6_fit_144 : decode cX6_fit 144 = .ok (.iload_n 1, 1) := by decide +kernel
theorem dX6_fit_145 : decode cX6_fit 145 = .ok (.iload_n 2, 1) := by decide +kernel
theorem dX6_fit_146 : decode cX6_fit 146 = .ok (.invokevirtual 133, 3) := by decide +kernel
theorem dX6_fit_149 : decode cX6_fit 149 = .ok (.aload 4, 2) := by decide +kernel
theorem dX6_fit_151 : decode cX6_fit 151 = .ok (.invokevirtual 137, 3) := by decide +kernel
theorem dX6_fit_154 : decode cX6_fit 154 = .ok (.iconst 0, 1) := by decide +kernel
theorem dX6_fit_155 : decode cX6_fit 155 = .ok (.putfield 141, 3) := by decide +kernel
theorem dX6_fit_158 : decode cX6_fit 158 = .ok (.aload_n 0, 1) := by decide +kernel
theorem dX6_fit_159 : decode cX6_fit 159 = .ok (.aload 4, 2) := by decide +kernel
theorem dX6_fit_161 : decode cX6_fit 161 = .ok (.invokevirtual 144, 3) := by decide +kernel
theorem dX6_fit_164 : decode cX6_fit 164 = .ok (.ireturn, 1) := by decide +kernel
theorem dX6_take_0 : decode cX6_take 0 = .ok (.aload_n 0, 1) := by decide +kernel
theorem dX6_take_1 : decode cX6_take 1 = .ok (.iload_n 1, 1) := by decide +kernel
theorem dX6_take_2 : decode cX6_take 2 = .ok (.invokevirtual 83, 3) := by decide +kernel
theorem dX6_take_5 : decode cX6_take 5 = .ok (.astore_n 2, 1) := by decide +kernel
theorem dX6_take_6 : decode cX6_take 6 = .ok (.aload_n 2, 1) := by decide +kernel
theorem dX6_take_7 : decode cX6_take 7 = .ok (.getfield 129, 3) := by decide +kernel
theorem dX6_take_10 : decode cX6_take 10 = .ok (.astore_n 3, 1) := by decide +kernel
theorem dX6_take_11 : decode cX6_take 11 = .ok (.aload_n 3, 1) := by decide +kernel
theorem dX6_take_12 : decode cX6_take 12 = .ok (.ifnull 10, 3) := by decide +kernel
theorem dX6_take_15 : decode cX6_take 15 = .ok (.aload_n 2, 1) := by decide +kernel
theorem dX6_take_16 : decode cX6_take 16 = .ok (.invokevirtual 109, 3) := by decide +kernel
theorem dX6_take_19 : decode cX6_take 19 = .ok (.ifCond .eq 13, 3) := by decide +kernel
theorem dX6_take_22 : decode cX6_take 22 = .ok (.new 56, 3) := by decide +kernel
theorem dX6_take_25 : decode cX6_take 25 = .ok (.dup, 1) := by decide +kernel
theorem dX6_take_26 : decode cX6_take 26 = .ok (.ldc 147, 2) := by decide +kernel
theorem dX6_take_28 : decode cX6_take 28 = .ok (.invokespecial 60, 3) := by decide +kernel
theorem dX6_take_31 : decode cX6_take 31 = .ok (.athrow, 1) := by decide +kernel
theorem dX6_take_32 : decode cX6_take 32 = .ok (.aload_n 3, 1) := by decide +kernel
theorem dX6_take_33 : decode cX6_take 33 = .ok (.invokevirtual 137, 3) := by decide +kernel
theorem dX6_take_36 : decode cX6_take 36 = .ok (.iconst 0, 1) := by decide +kernel
theorem dX6_take_37 : decode cX6_take 37 = .ok (.putfield 141, 3) := by decide +kernel
theorem dX6_take_40 : decode cX6_take 40 = .ok (.aload_n 2, 1) := by decide +kernel
theorem dX6_take_41 : decode cX6_take 41 = .ok (.aconst_null, 1) := by decide +kernel
theorem dX6_take_42 : decode cX6_take 42 = .ok (.putfield 129, 3) := by decide +kernel
theorem dX6_take_45 : decode cX6_take 45 = .ok (.aload_n 0, 1) := by decide +kernel
theorem dX6_take_46 : decode cX6_take 46 = .ok (.getfield 25, 3) := by decide +kernel
theorem dX6_take_49 : decode cX6_take 49 = .ok (.iload_n 1, 1) := by decide +kernel
theorem dX6_take_50 : decode cX6_take 50 = .ok (.iconst (-1), 1) := by decide +kernel
theorem dX6_take_51 : decode cX6_take 51 = .ok (.invokevirtual 133, 3) := by decide +kernel
theorem dX6_take_54 : decode cX6_take 54 = .ok (.aload_n 3, 1) := by decide +kernel
theorem dX6_take_55 : decode cX6_take 55 = .ok (.getfield 149, 3) := by decide +kernel
theorem dX6_take_58 : decode cX6_take 58 = .ok (.ireturn, 1) := by decide +kernel
theorem dX6_scrap_0 : decode cX6_scrap 0 = .ok (.aload_n 0, 1) := by decide +kernel
theorem dX6_scrap_1 : decode cX6_scrap 1 = .ok (.iload_n 1, 1) := by decide +kernel
theorem dX6_scrap_2 : decode cX6_scrap 2 = .ok (.invokevirtual 83, 3) := by decide +kernel
theorem dX6_scrap_5 : decode cX6_scrap 5 = .ok (.astore_n 2, 1) := by decide +kernel
theorem dX6_scrap_6 : decode cX6_scrap 6 = .ok (.aload_n 2, 1) := by decide +kernel
theorem dX6_scrap_7 : decode cX6_scrap 7 = .ok (.invokevirtual 96, 3) := by decide +kernel
theorem dX6_scrap_10 : decode cX6_scrap 10 = .ok (.ifCond .eq 11, 3) := by decide +kernel
theorem dX6_scrap_13 : decode cX6_scrap 13 = .ok (.aload_n 0, 1) := by decide +kernel
theorem dX6_scrap_14 : decode cX6_scrap 14 = .ok (.aload_n 2, 1) := by decide +kernel
theorem dX6_scrap_15 : decode cX6_scrap 15 = .ok (.invokevirtual 144, 3) := by decide +kernel
theorem dX6_scrap_18 : decode cX6_scrap 18 = .ok (.ifCond .le 13, 3) := by decide +kernel
theorem dX6_scrap_21 : decode cX6_scrap 21 = .ok (.new 56, 3) := by decide +kernel
theorem dX6_scrap_24 : decode cX6_scrap 24 = .ok (.dup, 1) := by decide +kernel
theorem dX6_scrap_25 : decode cX6_scrap 25 = .ok (.ldc 152, 2) := by decide +kernel
theorem dX6_scrap_27 : decode cX6_scrap 27 = .ok (.invokespecial 60, 3) := by decide +kernel
theorem dX6_scrap_30 : decode cX6_scrap 30 = .ok (.athrow, 1) := by decide +kernel
theorem dX6_scrap_31 : decode cX6_scrap 31 = .ok (.aload_n 2, 1) := by decide +kernel
theorem dX6_scrap_32 : decode cX6_scrap 32 = .ok (.invokevirtual 109, 3) := by decide +kernel
theorem dX6_scrap_35 : decode cX6_scrap 35 = .ok (.ifCond .ne 14, 3) := by decide +kernel
theorem dX6_scrap_38 : decode cX6_scrap 38 = .ok (.aload_n 0, 1) := by decide +kernel
theorem dX6_scrap_39 : decode cX6_scrap 39 = .ok (.getfield 32, 3) := by decide +kernel
theorem dX6_scrap_42 : decode cX6_scrap 42 = .ok (.aload_n 2, 1) := by decide +kernel
theorem dX6_scrap_43 : decode cX6_scrap 43 = .ok (.invokevirtual 154, 3) := by decide +kernel
theorem dX6_scrap_46 : decode cX6_scrap 46 = .ok (.ifCond .eq 13, 3) := by decide +kernel
theorem dX6_scrap_49 : decode cX6_scrap 49 = .ok (.new 56, 3) := by decide +kernel
theorem dX6_scrap_52 : decode cX6_scrap 52 = .ok (.dup, 1) := by decide +kernel
theorem dX6_scrap_53 : decode cX6_scrap 53 = .ok (.ldc 158, 2) := by decide +kernel
theorem dX6_scrap_55 : decode cX6_scrap 55 = .ok (.invokespecial 60, 3) := by decide +kernel
theorem dX6_scrap_58 : decode cX6_scrap 58 = .ok (.athrow, 1) := by decide +kernel
theorem dX6_scrap_59 : decode cX6_scrap 59 = .ok (.aload_n 2, 1) := by decide +kernel
theorem dX6_scrap_60 : decode cX6_scrap 60 = .ok (.iconst 1, 1) := by decide +kernel
theorem dX6_scrap_61 : decode cX6_scrap 61 = .ok (.putfield 106, 3) := by decide +kernel
theorem dX6_scrap_64 : decode cX6_scrap 64 = .ok (.aload_n 0, 1) := by decide +kernel
theorem dX6_scrap_65 : decode cX6_scrap 65 = .ok (.getfield 25, 3) := by decide +kernel
theorem dX6_scrap_68 : decode cX6_scrap 68 = .ok (.iload_n 1, 1) := by decide +kernel
theorem dX6_scrap_69 : decode cX6_scrap 69 = .ok (.bipush (-2), 2) := by decide +kernel
theorem dX6_scrap_71 : decode cX6_scrap 71 = .ok (.invokevirtual 133, 3) := by decide +kernel
theorem dX6_scrap_74 : decode cX6_scrap 74 = .ok (.return_, 1) := by decide +kernel
theorem dX6_run_0 : decode cX6_run 0 = .ok (.aload_n 0, 1) := by decide +kernel
theorem dX6_run_1 : decode cX6_run 1 = .ok (.iload_n 1, 1) := by decide +kernel
theorem dX6_run_2 : decode cX6_run 2 = .ok (.invokevirtual 160, 3) := by decide +kernel
theorem dX6_run_5 : decode cX6_run 5 = .ok (.astore 4, 2) := by decide +kernel
theorem dX6_run_7 : decode cX6_run 7 = .ok (.iload_n 2, 1) := by decide +kernel
theorem dX6_run_8 : decode cX6_run 8 = .ok (.iload_n 3, 1) := by decide +kernel
theorem dX6_run_9 : decode cX6_run 9 = .ok (.invokestatic 163, 3) := by decide +kernel
theorem dX6_run_12 : decode cX6_run 12 = .ok (.aload 4, 2) := by decide +kernel
theorem dX6_run_14 : decode cX6_run 14 = .ok (.getfield 141, 3) := by decide +kernel
theorem dX6_run_17 : decode cX6_run 17 = .ok (.ifCond .eq 11, 3) := by decide +kernel
theorem dX6_run_20 : decode cX6_run 20 = .ok (.aload 4, 2) := by decide +kernel
theorem dX6_run_22 : decode cX6_run 22 = .ok (.invokevirtual 109, 3) := by decide +kernel
theorem dX6_run_25 : decode cX6_run 25 = .ok (.ifCond .eq 13, 3) := by decide +kernel
theorem dX6_run_28 : decode cX6_run 28 = .ok (.new 56, 3) := by decide +kernel
theorem dX6_run_31 : decode cX6_run 31 = .ok (.dup, 1) := by decide +kernel
theorem dX6_run_32 : decode cX6_run 32 = .ok (.ldc 166, 2) := by decide +kernel
theorem dX6_run_34 : decode cX6_run 34 = .ok (.invokespecial 60, 3) := by decide +kernel
theorem dX6_run_37 : decode cX6_run 37 = .ok (.athrow, 1) := by decide +kernel
theorem dX6_run_38 : decode cX6_run 38 = .ok (.aload 4, 2) := by decide +kernel
theorem dX6_run_40 : decode cX6_run 40 = .ok (.iconst 0, 1) := by decide +kernel
theorem dX6_run_41 : decode cX6_run 41 = .ok (.putfield 141, 3) := by decide +kernel
theorem dX6_run_44 : decode cX6_run 44 = .ok (.aload_n 0, 1) := by decide +kernel
theorem dX6_run_45 : decode cX6_run 45 = .ok (.getfield 25, 3) := by decide +kernel
theorem dX6_run_48 : decode cX6_run 48 = .ok (.iload_n 1, 1) := by decide +kernel
theorem dX6_run_49 : decode cX6_run 49 = .ok (.iload_n 2, 1) := by decide +kernel
theorem dX6_run_50 : decode cX6_run 50 = .ok (.invokevirtual 168, 3) := by decide +kernel
theorem dX6_run_53 : decode cX6_run 53 = .ok (.iconst (-1), 1) := by decide +kernel
theorem dX6_run_54 : decode cX6_run 54 = .ok (.istore 5, 2) := by decide +kernel
theorem dX6_run_56 : decode cX6_run 56 = .ok (.iconst 0, 1) := by decide +kernel
theorem dX6_run_57 : decode cX6_run 57 = .ok (.istore 6, 2) := by decide +kernel
theorem dX6_run_59 : decode cX6_run 59 = .ok (.iload 6, 2) := by decide +kernel
theorem dX6_run_61 : decode cX6_run 61 = .ok (.aload_n 0, 1) := by decide +kernel
theorem dX6_run_62 : decode cX6_run 62 = .ok (.getfield 10, 3) := by decide +kernel
theorem dX6_run_65 : decode cX6_run 65 = .ok (.invokevirtual 52, 3) := by decide +kernel
theorem dX6_run_68 : decode cX6_run 68 = .ok (.if_icmp .ge 65, 3) := by decide +kernel
theorem dX6_run_71 : decode cX6_run 71 = .ok (.aload_n 0, 1) := by decide +kernel
theorem dX6_run_72 : decode cX6_run 72 = .ok (.getfield 10, 3) := by decide +kernel
theorem dX6_run_75 : decode cX6_run 75 = .ok (.iload 6, 2) := by decide +kernel
theorem dX6_run_77 : decode cX6_run 77 = .ok (.invokevirtual 171, 3) := by decide +kernel
theorem dX6_run_80 : decode cX6_run 80 = .ok (.checkcast 61, 3) := by decide +kernel
theorem dX6_run_83 : decode cX6_run 83 = .ok (.astore 7, 2) := by decide +kernel
theorem dX6_run_85 : decode cX6_run 85 = .ok (.aload 7, 2) := by decide +kernel
theorem dX6_run_87 : decode cX6_run 87 = .ok (.invokevirtual 137, 3) := by decide +kernel
theorem dX6_run_90 : decode cX6_run 90 = .ok (.aload 4, 2) := by decide +kernel
theorem dX6_run_92 : decode cX6_run 92 = .ok (.if_acmp .ne 35, 3) := by decide +kernel
theorem dX6_run_95 : decode cX6_run 95 = .ok (.aload 7, 2) := by decide +kernel
theorem dX6_run_97 : decode cX6_run 97 = .ok (.iload_n 2, 1) := by decide +kernel
theorem dX6_run_98 : decode cX6_run 98 = .ok (.iload_n 2, 1) := by decide +kernel
theorem dX6_run_99 : decode cX6_run 99 = .ok (.iload_n 3, 1) := by decide +kernel
theorem dX6_run_100 : decode cX6_run 100 = .ok (.invokestatic 175, 3) := by decide +kernel
theorem dX6_run_103 : decode cX6_run 103 = .ok (.imul, 1) := by decide +kernel
theorem dX6_run_104 : decode cX6_run 104 = .ok (.invokevirtual 178, 3) := by decide +kernel
theorem dX6_run_107 : decode cX6_run 107 = .ok (.iload 5, 2) := by decide +kernel
theorem dX6_run_109 : decode cX6_run 109 = .ok (.iconst (-1), 1) := by decide +kernel
theorem dX6_run_110 : decode cX6_run 110 = .ok (.if_icmp .ne 17, 3) := by decide +kernel
theorem dX6_run_113 : decode cX6_run 113 = .ok (.aload 7, 2) := by decide +kernel
theorem dX6_run_115 : decode cX6_run 115 = .ok (.getfield 181, 3) := by decide +kernel
theorem dX6_run_118 : decode cX6_run 118 = .ok (.bipush 100, 2) := by decide +kernel
theorem dX6_run_120 : decode cX6_run 120 = .ok (.if_icmp .lt 7, 3) := by decide +kernel
theorem dX6_run_123 : decode cX6_run 123 = .ok (.iload 6, 2) := by decide +kernel
theorem dX6_run_125 : decode cX6_run 125 = .ok (.istore 5, 2) := by decide +kernel
theorem dX6_run_127 : decode cX6_run 127 = .ok (.iinc 6 1, 3) := by decide +kernel
theorem dX6_run_130 : decode cX6_run 130 = .ok (.goto (-71), 3) := by decide +kernel
theorem dX6_run_133 : decode cX6_run 133 = .ok (.iload 5, 2) := by decide +kernel
theorem dX6_run_135 : decode cX6_run 135 = .ok (.iconst (-1), 1) := by decide +kernel
theorem dX6_run_136 : decode cX6_run 136 = .ok (.if_icmp .eq 9, 3) := by decide +kernel
theorem dX6_run_139 : decode cX6_run 139 = .ok (.aload_n 0, 1) := by decide +kernel
theorem dX6_run_140 : decode cX6_run 140 = .ok (.aload 4, 2) := by decide +kernel
theorem dX6_run_142 : decode cX6_run 142 = .ok (.invokevirtual 184, 3) := by decide +kernel
theorem dX6_run_145 : decode cX6_run 145 = .ok (.iload 5, 2) := by decide +kernel
theorem dX6_run_147 : decode cX6_run 147 = .ok (.ireturn, 1) := by decide +kernel
theorem dX6_turn_0 : decode cX6_turn 0 = .ok (.aload_n 0, 1) := by decide +kernel
theorem dX6_turn_1 : decode cX6_turn 1 = .ok (.iload_n 1, 1) := by decide +kernel
theorem dX6_turn_2 : decode cX6_turn 2 = .ok (.invokevirtual 83, 3) := by decide +kernel
theorem dX6_turn_5 : decode cX6_turn 5 = .ok (.astore_n 2, 1) := by decide +kernel
theorem dX6_turn_6 : decode cX6_turn 6 = .ok (.aload_n 2, 1) := by decide +kernel
theorem dX6_turn_7 : decode cX6_turn 7 = .ok (.getfield 87, 3) := by decide +kernel
theorem dX6_turn_10 : decode cX6_turn 10 = .ok (.iconst 2, 1) := by decide +kernel
theorem dX6_turn_11 : decode cX6_turn 11 = .ok (.if_icmp .eq 13, 3) := by decide +kernel
theorem dX6_turn_14 : decode cX6_turn 14 = .ok (.new 45, 3) := by decide +kernel
theorem dX6_turn_17 : decode cX6_turn 17 = .ok (.dup, 1) := by decide +kernel
theorem dX6_turn_18 : decode cX6_turn 18 = .ok (.ldc 188, 2) := by decide +kernel
theorem dX6_turn_20 : decode cX6_turn 20 = .ok (.invokespecial 49, 3) := by decide +kernel
theorem dX6_turn_23 : decode cX6_turn 23 = .ok (.athrow, 1) := by decide +kernel
theorem dX6_turn_24 : decode cX6_turn 24 = .ok (.aload_n 0, 1) := by decide +kernel
theorem dX6_turn_25 : decode cX6_turn 25 = .ok (.aload_n 2, 1) := by decide +kernel
theorem dX6_turn_26 : decode cX6_turn 26 = .ok (.iconst 0, 1) := by decide +kernel
theorem dX6_turn_27 : decode cX6_turn 27 = .ok (.invokevirtual 190, 3) := by decide +kernel
theorem dX6_turn_30 : decode cX6_turn 30 = .ok (.astore_n 3, 1) := by decide +kernel
theorem dX6_turn_31 : decode cX6_turn 31 = .ok (.aload_n 0, 1) := by decide +kernel
theorem dX6_turn_32 : decode cX6_turn 32 = .ok (.aload_n 2, 1) := by decide +kernel
theorem dX6_turn_33 : decode cX6_turn 33 = .ok (.iconst 1, 1) := by decide +kernel
theorem dX6_turn_34 : decode cX6_turn 34 = .ok (.invokevirtual 190, 3) := by decide +kernel
theorem dX6_turn_37 : decode cX6_turn 37 = .ok (.astore 4, 2) := by decide +kernel
theorem dX6_turn_39 : decode cX6_turn 39 = .ok (.aload_n 3, 1) := by decide +kernel
theorem dX6_turn_40 : decode cX6_turn 40 = .ok (.ifnull 15, 3) := by decide +kernel
theorem dX6_turn_43 : decode cX6_turn 43 = .ok (.aload 4, 2) := by decide +kernel
theorem dX6_turn_45 : decode cX6_turn 45 = .ok (.ifnull 10, 3) := by decide +kernel
theorem dX6_turn_48 : decode cX6_turn 48 = .ok (.aload_n 2, 1) := by decide +kernel
theorem dX6_turn_49 : decode cX6_turn 49 = .ok (.invokevirtual 109, 3) := by decide +kernel
theorem dX6_turn_52 : decode cX6_turn 52 = .ok (.ifCond .eq 13, 3) := by decide +kernel
theorem dX6_turn_55 : decode cX6_turn 55 = .ok (.new 56, 3) := by decide +kernel
theorem dX6_turn_58 : decode cX6_turn 58 = .ok (.dup, 1) := by decide +kernel
theorem dX6_turn_59 : decode cX6_turn 59 = .ok (.ldc 194, 2) := by decide +kernel
theorem dX6_turn_61 : decode cX6_turn 61 = .ok (.invokespecial 60, 3) := by decide +kernel
theorem dX6_turn_64 : decode cX6_turn 64 = .ok (.athrow, 1) := by decide +kernel
theorem dX6_turn_65 : decode cX6_turn 65 = .ok (.aload_n 3, 1) := by decide +kernel
theorem dX6_turn_66 : decode cX6_turn 66 = .ok (.getfield 196, 3) := by decide +kernel
theorem dX6_turn_69 : decode cX6_turn 69 = .ok (.aload 4, 2) := by decide +kernel
theorem dX6_turn_71 : decode cX6_turn 71 = .ok (.getfield 196, 3) := by decide +kernel
theorem dX6_turn_74 : decode cX6_turn 74 = .ok (.iadd, 1) := by decide +kernel
theorem dX6_turn_75 : decode cX6_turn 75 = .ok (.istore 5, 2) := by decide +kernel
theorem dX6_turn_77 : decode cX6_turn 77 = .ok (.aload_n 3, 1) := by decide +kernel
theorem dX6_turn_78 : decode cX6_turn 78 = .ok (.invokevirtual 201, 3) := by decide +kernel
theorem dX6_turn_81 : decode cX6_turn 81 = .ok (.aload 4, 2) := by decide +kernel
theorem dX6_turn_83 : decode cX6_turn 83 = .ok (.invokevirtual 201, 3) := by decide +kernel
theorem dX6_turn_86 : decode cX6_turn 86 = .ok (.aload_n 3, 1) := by decide +kernel
theorem dX6_turn_87 : decode cX6_turn 87 = .ok (.getfield 196, 3) := by decide +kernel
theorem dX6_turn_90 : decode cX6_turn 90 = .ok (.aload 4, 2) := by decide +kernel
theorem dX6_turn_92 : decode cX6_turn 92 = .ok (.getfield 196, 3) := by decide +kernel
theorem dX6_turn_95 : decode cX6_turn 95 = .ok (.invokestatic 204, 3) := by decide +kernel
theorem dX6_turn_98 : decode cX6_turn 98 = .ok (.istore 6, 2) := by decide +kernel
theorem dX6_turn_100 : decode cX6_turn 100 = .ok (.aload_n 3, 1) := by decide +kernel
theorem dX6_turn_101 : decode cX6_turn 101 = .ok (.iload 6, 2) := by decide +kernel
theorem dX6_turn_103 : decode cX6_turn 103 = .ok (.putfield 196, 3) := by decide +kernel
theorem dX6_turn_106 : decode cX6_turn 106 = .ok (.aload 4, 2) := by decide +kernel
theorem dX6_turn_108 : decode cX6_turn 108 = .ok (.iload 6, 2) := by decide +kernel
theorem dX6_turn_110 : decode cX6_turn 110 = .ok (.putfield 196, 3) := by decide +kernel
theorem dX6_turn_113 : decode cX6_turn 113 = .ok (.iload 5, 2) := by decide +kernel
theorem dX6_turn_115 : decode cX6_turn 115 = .ok (.iconst 2, 1) := by decide +kernel
theorem dX6_turn_116 : decode cX6_turn 116 = .ok (.iload 6, 2) := by decide +kernel
theorem dX6_turn_118 : decode cX6_turn 118 = .ok (.imul, 1) := by decide +kernel
theorem dX6_turn_119 : decode cX6_turn 119 = .ok (.isub, 1) := by decide +kernel
theorem dX6_turn_120 : decode cX6_turn 120 = .ok (.ireturn, 1) := by decide +kernel
theorem dX6_gate_0 : decode cX6_gate 0 = .ok (.aload_n 0, 1) := by decide +kernel
theorem dX6_gate_1 : decode cX6_gate 1 = .ok (.iload_n 1, 1) := by decide +kernel
theorem dX6_gate_2 : decode cX6_gate 2 = .ok (.invokevirtual 207, 3) := by decide +kernel
theorem dX6_gate_5 : decode cX6_gate 5 = .ok (.astore_n 3, 1) := by decide +kernel
theorem dX6_gate_6 : decode cX6_gate 6 = .ok (.iload_n 2, 1) := by decide +kernel
theorem dX6_gate_7 : decode cX6_gate 7 = .ok (.bipush (-5), 2) := by decide +kernel
theorem dX6_gate_9 : decode cX6_gate 9 = .ok (.iconst 5, 1) := by decide +kernel
theorem dX6_gate_10 : decode cX6_gate 10 = .ok (.invokestatic 41, 3) := by decide +kernel
theorem dX6_gate_13 : decode cX6_gate 13 = .ok (.ifCond .eq 13, 3) := by decide +kernel
theorem dX6_gate_16 : decode cX6_gate 16 = .ok (.new 45, 3) := by decide +kernel
theorem dX6_gate_19 : decode cX6_gate 19 = .ok (.dup, 1) := by decide +kernel
theorem dX6_gate_20 : decode cX6_gate 20 = .ok (.ldc 211, 2) := by decide +kernel
theorem dX6_gate_22 : decode cX6_gate 22 = .ok (.invokespecial 49, 3) := by decide +kernel
theorem dX6_gate_25 : decode cX6_gate 25 = .ok (.athrow, 1) := by decide +kernel
theorem dX6_gate_26 : decode cX6_gate 26 = .ok (.aload_n 3, 1) := by decide +kernel
theorem dX6_gate_27 : decode cX6_gate 27 = .ok (.aload_n 3, 1) := by decide +kernel
theorem dX6_gate_28 : decode cX6_gate 28 = .ok (.getfield 213, 3) := by decide +kernel
theorem dX6_gate_31 : decode cX6_gate 31 = .ok (.iload_n 2, 1) := by decide +kernel
theorem dX6_gate_32 : decode cX6_gate 32 = .ok (.iadd, 1) := by decide +kernel
theorem dX6_gate_33 : decode cX6_gate 33 = .ok (.putfield 216, 3) := by decide +kernel
theorem dX6_gate_36 : decode cX6_gate 36 = .ok (.aload_n 3, 1) := by decide +kernel
theorem dX6_gate_37 : decode cX6_gate 37 = .ok (.getfield 216, 3) := by decide +kernel
theorem dX6_gate_40 : decode cX6_gate 40 = .ok (.ireturn, 1) := by decide +kernel
theorem dX6_examine_0 : decode cX6_examine 0 = .ok (.aload_n 0, 1) := by decide +kernel
theorem dX6_examine_1 : decode cX6_examine 1 = .ok (.iload_n 1, 1) := by decide +kernel
theorem dX6_examine_2 : decode cX6_examine 2 = .ok (.invokevirtual 83, 3) := by decide +kernel
theorem dX6_examine_5 : decode cX6_examine 5 = .ok (.astore_n 2, 1) := by decide +kernel
theorem dX6_examine_6 : decode cX6_examine 6 = .ok (.aload_n 2, 1) := by decide +kernel
theorem dX6_examine_7 : decode cX6_examine 7 = .ok (.invokevirtual 219, 3) := by decide +kernel
theorem dX6_examine_10 : decode cX6_examine 10 = .ok (.ifCond .eq 17, 3) := by decide +kernel
theorem dX6_examine_13 : decode cX6_examine 13 = .ok (.aload_n 2, 1) := by decide +kernel
theorem dX6_examine_14 : decode cX6_examine 14 = .ok (.getfield 106, 3) := by decide +kernel
theorem dX6_examine_17 : decode cX6_examine 17 = .ok (.ifCond .ne 10, 3) := by decide +kernel
theorem dX6_examine_20 : decode cX6_examine 20 = .ok (.aload_n 2, 1) := by decide +kernel
theorem dX6_examine_21 : decode cX6_examine 21 = .ok (.invokevirtual 109, 3) := by decide +kernel
theorem dX6_examine_24 : decode cX6_examine 24 = .ok (.ifCond .eq 13, 3) := by decide +kernel
theorem dX6_examine_27 : decode cX6_examine 27 = .ok (.new 56, 3) := by decide +kernel
theorem dX6_examine_30 : decode cX6_examine 30 = .ok (.dup, 1) := by decide +kernel
theorem dX6_examine_31 : decode cX6_examine 31 = .ok (.ldc 222, 2) := by decide +kernel
theorem dX6_examine_33 : decode cX6_examine 33 = .ok (.invokespecial 60, 3) := by decide +kernel
theorem dX6_examine_36 : decode cX6_examine 36 = .ok (.athrow, 1) := by decide +kernel
theorem dX6_examine_37 : decode cX6_examine 37 = .ok (.aload_n 2, 1) := by decide +kernel
theorem dX6_examine_38 : decode cX6_examine 38 = .ok (.getfield 224, 3) := by decide +kernel
theorem dX6_examine_41 : decode cX6_examine 41 = .ok (.istore_n 3, 1) := by decide +kernel
theorem dX6_examine_42 : decode cX6_examine 42 = .ok (.aload_n 2, 1) := by decide +kernel
theorem dX6_examine_43 : decode cX6_examine 43 = .ok (.iconst 0, 1) := by decide +kernel
theorem dX6_examine_44 : decode cX6_examine 44 = .ok (.putfield 224, 3) := by decide +kernel
theorem dX6_examine_47 : decode cX6_examine 47 = .ok (.aload_n 2, 1) := by decide +kernel
theorem dX6_examine_48 : decode cX6_examine 48 = .ok (.iconst 0, 1) := by decide +kernel
theorem dX6_examine_49 : decode cX6_examine 49 = .ok (.putfield 227, 3) := by decide +kernel
theorem dX6_examine_52 : decode cX6_examine 52 = .ok (.iload_n 3, 1) := by decide +kernel
theorem dX6_examine_53 : decode cX6_examine 53 = .ok (.ireturn, 1) := by decide +kernel
theorem dX6_waive_0 : decode cX6_waive 0 = .ok (.aload_n 0, 1) := by decide +kernel
theorem dX6_waive_1 : decode cX6_waive 1 = .ok (.iload_n 1, 1) := by decide +kernel
theorem dX6_waive_2 : decode cX6_waive 2 = .ok (.invokevirtual 83, 3) := by decide +kernel
theorem dX6_waive_5 : decode cX6_waive 5 = .ok (.astore_n 3, 1) := by decide +kernel
theorem dX6_waive_6 : decode cX6_waive 6 = .ok (.iload_n 2, 1) := by decide +kernel
theorem dX6_waive_7 : decode cX6_waive 7 = .ok (.iconst 1, 1) := by decide +kernel
theorem dX6_waive_8 : decode cX6_waive 8 = .ok (.sipush 999, 3) := by decide +kernel
theorem dX6_waive_11 : decode cX6_waive 11 = .ok (.invokestatic 41, 3) := by decide +kernel
theorem dX6_waive_14 : decode cX6_waive 14 = .ok (.ifCond .eq 13, 3) := by decide +kernel
theorem dX6_waive_17 : decode cX6_waive 17 = .ok (.new 45, 3) := by decide +kernel
theorem dX6_waive_20 : decode cX6_waive 20 = .ok (.dup, 1) := by decide +kernel
theorem dX6_waive_21 : decode cX6_waive 21 = .ok (.ldc 230, 2) := by decide +kernel
theorem dX6_waive_23 : decode cX6_waive 23 = .ok (.invokespecial 49, 3) := by decide +kernel
theorem dX6_waive_26 : decode cX6_waive 26 = .ok (.athrow, 1) := by decide +kernel
theorem dX6_waive_27 : decode cX6_waive 27 = .ok (.aload_n 3, 1) := by decide +kernel
theorem dX6_waive_28 : decode cX6_waive 28 = .ok (.getfield 232, 3) := by decide +kernel
theorem dX6_waive_31 : decode cX6_waive 31 = .ok (.getfield 77, 3) := by decide +kernel
theorem dX6_waive_34 : decode cX6_waive 34 = .ok (.ifCond .eq 10, 3) := by decide +kernel
theorem dX6_waive_37 : decode cX6_waive 37 = .ok (.aload_n 3, 1) := by decide +kernel
theorem dX6_waive_38 : decode cX6_waive 38 = .ok (.getfield 227, 3) := by decide +kernel
theorem dX6_waive_41 : decode cX6_waive 41 = .ok (.ifCond .le 13, 3) := by decide +kernel
theorem dX6_waive_44 : decode cX6_waive 44 = .ok (.new 56, 3) := by decide +kernel
theorem dX6_waive_47 : decode cX6_waive 47 = .ok (.dup, 1) := by decide +kernel
theorem dX6_waive_48 : decode cX6_waive 48 = .ok (.ldc 236, 2) := by decide +kernel
theorem dX6_waive_50 : decode cX6_waive 50 = .ok (.invokespecial 60, 3) := by decide +kernel
theorem dX6_waive_53 : decode cX6_waive 53 = .ok (.athrow, 1) := by decide +kernel
theorem dX6_waive_54 : decode cX6_waive 54 = .ok (.aload_n 3, 1) := by decide +kernel
theorem dX6_waive_55 : decode cX6_waive 55 = .ok (.iload_n 2, 1) := by decide +kernel
theorem dX6_waive_56 : decode cX6_waive 56 = .ok (.putfield 227, 3) := by decide +kernel
theorem dX6_waive_59 : decode cX6_waive 59 = .ok (.return_, 1) := by decide +kernel
theorem dX6_flaw_0 : decode cX6_flaw 0 = .ok (.aload_n 0, 1) := by decide +kernel
theorem dX6_flaw_1 : decode cX6_flaw 1 = .ok (.iload_n 1, 1) := by decide +kernel
theorem dX6_flaw_2 : decode cX6_flaw 2 = .ok (.invokevirtual 83, 3) := by decide +kernel
theorem dX6_flaw_5 : decode cX6_flaw 5 = .ok (.astore_n 3, 1) := by decide +kernel
theorem dX6_flaw_6 : decode cX6_flaw 6 = .ok (.aload_n 3, 1) := by decide +kernel
theorem dX6_flaw_7 : decode cX6_flaw 7 = .ok (.getfield 87, 3) := by decide +kernel
theorem dX6_flaw_10 : decode cX6_flaw 10 = .ok (.iconst 3, 1) := by decide +kernel
theorem dX6_flaw_11 : decode cX6_flaw 11 = .ok (.if_icmp .eq 21, 3) := by decide +kernel
theorem dX6_flaw_14 : decode cX6_flaw 14 = .ok (.aload_n 3, 1) := by decide +kernel
theorem dX6_flaw_15 : decode cX6_flaw 15 = .ok (.getfield 87, 3) := by decide +kernel
theorem dX6_flaw_18 : decode cX6_flaw 18 = .ok (.iconst 4, 1) := by decide +kernel
theorem dX6_flaw_19 : decode cX6_flaw 19 = .ok (.if_icmp .eq 13, 3) := by decide +kernel
theorem dX6_flaw_22 : decode cX6_flaw 22 = .ok (.new 45, 3) := by decide +kernel
theorem dX6_flaw_25 : decode cX6_flaw 25 = .ok (.dup, 1) := by decide +kernel
theorem dX6_flaw_26 : decode cX6_flaw 26 = .ok (.ldc 238, 2) := by decide +kernel
theorem dX6_flaw_28 : decode cX6_flaw 28 = .ok (.invokespecial 49, 3) := by decide +kernel
theorem dX6_flaw_31 : decode cX6_flaw 31 = .ok (.athrow, 1) := by decide +kernel
theorem dX6_flaw_32 : decode cX6_flaw 32 = .ok (.iload_n 2, 1) := by decide +kernel
theorem dX6_flaw_33 : decode cX6_flaw 33 = .ok (.iconst 1, 1) := by decide +kernel
theorem dX6_flaw_34 : decode cX6_flaw 34 = .ok (.bipush 99, 2) := by decide +kernel
theorem dX6_flaw_36 : decode cX6_flaw 36 = .ok (.invokestatic 41, 3) := by decide +kernel
theorem dX6_flaw_39 : decode cX6_flaw 39 = .ok (.ifCond .eq 13, 3) := by decide +kernel
theorem dX6_flaw_42 : decode cX6_flaw 42 = .ok (.new 45, 3) := by decide +kernel
theorem dX6_flaw_45 : decode cX6_flaw 45 = .ok (.dup, 1) := by decide +kernel
theorem dX6_flaw_46 : decode cX6_flaw 46 = .ok (.ldc 240, 2) := by decide +kernel
theorem dX6_flaw_48 : decode cX6_flaw 48 = .ok (.invokespecial 49, 3) := by decide +kernel
theorem dX6_flaw_51 : decode cX6_flaw 51 = .ok (.athrow, 1) := by decide +kernel
theorem dX6_flaw_52 : decode cX6_flaw 52 = .ok (.aload_n 3, 1) := by decide +kernel
theorem dX6_flaw_53 : decode cX6_flaw 53 = .ok (.getfield 181, 3) := by decide +kernel
theorem dX6_flaw_56 : decode cX6_flaw 56 = .ok (.istore 4, 2) := by decide +kernel
theorem dX6_flaw_58 : decode cX6_flaw 58 = .ok (.aload_n 3, 1) := by decide +kernel
theorem dX6_flaw_59 : decode cX6_flaw 59 = .ok (.iload_n 2, 1) := by decide +kernel
theorem dX6_flaw_60 : decode cX6_flaw 60 = .ok (.putfield 181, 3) := by decide +kernel
theorem dX6_flaw_63 : decode cX6_flaw 63 = .ok (.aload_n 3, 1) := by decide +kernel
theorem dX6_flaw_64 : decode cX6_flaw 64 = .ok (.aload_n 3, 1) := by decide +kernel
theorem dX6_flaw_65 : decode cX6_flaw 65 = .ok (.getfield 242, 3) := by decide +kernel
theorem dX6_flaw_68 : decode cX6_flaw 68 = .ok (.putfield 243, 3) := by decide +kernel
theorem dX6_flaw_71 : decode cX6_flaw 71 = .ok (.iload 4, 2) := by decide +kernel
theorem dX6_flaw_73 : decode cX6_flaw 73 = .ok (.ireturn, 1) := by decide +kernel
theorem dX6_look_0 : decode cX6_look 0 = .ok (.aload_n 0, 1) := by decide +kernel
theorem dX6_look_1 : decode cX6_look 1 = .ok (.iload_n 1, 1) := by decide +kernel
theorem dX6_look_2 : decode cX6_look 2 = .ok (.invokevirtual 83, 3) := by decide +kernel
theorem dX6_look_5 : decode cX6_look 5 = .ok (.astore_n 3, 1) := by decide +kernel
theorem dX6_look_6 : decode cX6_look 6 = .ok (.aload_n 3, 1) := by decide +kernel
theorem dX6_look_7 : decode cX6_look 7 = .ok (.getfield 106, 3) := by decide +kernel
theorem dX6_look_10 : decode cX6_look 10 = .ok (.ifCond .ne 21, 3) := by decide +kernel
theorem dX6_look_13 : decode cX6_look 13 = .ok (.aload_n 3, 1) := by decide +kernel
theorem dX6_look_14 : decode cX6_look 14 = .ok (.invokevirtual 109, 3) := by decide +kernel
theorem dX6_look_17 : decode cX6_look 17 = .ok (.ifCond .ne 14, 3) := by decide +kernel
theorem dX6_look_20 : decode cX6_look 20 = .ok (.iload_n 2, 1) := by decide +kernel
theorem dX6_look_21 : decode cX6_look 21 = .ok (.ifCond .eq 20, 3) := by decide +kernel
theorem dX6_look_24 : decode cX6_look 24 = .ok (.aload_n 3, 1) := by decide +kernel
theorem dX6_look_25 : decode cX6_look 25 = .ok (.invokevirtual 96, 3) := by decide +kernel
theorem dX6_look_28 : decode cX6_look 28 = .ok (.ifCond .ne 13, 3) := by decide +kernel
theorem dX6_look_31 : decode cX6_look 31 = .ok (.new 56, 3) := by decide +kernel
theorem dX6_look_34 : decode cX6_look 34 = .ok (.dup, 1) := by decide +kernel
theorem dX6_look_35 : decode cX6_look 35 = .ok (.ldc 246, 2) := by decide +kernel
theorem dX6_look_37 : decode cX6_look 37 = .ok (.invokespecial 60, 3) := by decide +kernel
theorem dX6_look_40 : decode cX6_look 40 = .ok (.athrow, 1) := by decide +kernel
theorem dX6_look_41 : decode cX6_look 41 = .ok (.aload_n 3, 1) := by decide +kernel
theorem dX6_look_42 : decode cX6_look 42 = .ok (.getfield 181, 3) := by decide +kernel
theorem dX6_look_45 : decode cX6_look 45 = .ok (.iload_n 2, 1) := by decide +kernel
theorem dX6_look_46 : decode cX6_look 46 = .ok (.ifCond .eq 7, 3) := by decide +kernel
theorem dX6_look_49 : decode cX6_look 49 = .ok (.iconst 3, 1) := by decide +kernel
theorem dX6_look_50 : decode cX6_look 50 = .ok (.goto 5, 3) := by decide +kernel
theorem dX6_look_53 : decode cX6_look 53 = .ok (.bipush 10, 2) := by decide +kernel
theorem dX6_look_55 : decode cX6_look 55 = .ok (.if_icmp .lt 21, 3) := by decide +kernel
theorem dX6_look_58 : decode cX6_look 58 = .ok (.aload_n 3, 1) := by decide +kernel
theorem dX6_look_59 : decode cX6_look 59 = .ok (.iconst 1, 1) := by decide +kernel
theorem dX6_look_60 : decode cX6_look 60 = .ok (.putfield 100, 3) := by decide +kernel
theorem dX6_look_63 : decode cX6_look 63 = .ok (.aload_n 3, 1) := by decide +kernel
theorem dX6_look_64 : decode cX6_look 64 = .ok (.invokevirtual 137, 3) := by decide +kernel
theorem dX6_look_67 : decode cX6_look 67 = .ok (.iconst 0, 1) := by decide +kernel
theorem dX6_look_68 : decode cX6_look 68 = .ok (.putfield 141, 3) := by decide +kernel
theorem dX6_look_71 : decode cX6_look 71 = .ok (.aload_n 3, 1) := by decide +kernel
theorem dX6_look_72 : decode cX6_look 72 = .ok (.getfield 181, 3) := by decide +kernel
theorem dX6_look_75 : decode cX6_look 75 = .ok (.ireturn, 1) := by decide +kernel
theorem dX6_look_76 : decode cX6_look 76 = .ok (.iload_n 2, 1) := by decide +kernel
theorem dX6_look_77 : decode cX6_look 77 = .ok (.ifCond .eq 8, 3) := by decide +kernel
theorem dX6_look_80 : decode cX6_look 80 = .ok (.aload_n 3, 1) := by decide +kernel
theorem dX6_look_81 : decode cX6_look 81 = .ok (.iconst 0, 1) := by decide +kernel
theorem dX6_look_82 : decode cX6_look 82 = .ok (.putfield 248, 3) := by decide +kernel
theorem dX6_look_85 : decode cX6_look 85 = .ok (.iconst 0, 1) := by decide +kernel
theorem dX6_look_86 : decode cX6_look 86 = .ok (.ireturn, 1) := by decide +kernel
theorem dX6_clear_0 : decode cX6_clear 0 = .ok (.aload_n 0, 1) := by decide +kernel
theorem dX6_clear_1 : decode cX6_clear 1 = .ok (.iload_n 1, 1) := by decide +kernel
theorem dX6_clear_2 : decode cX6_clear 2 = .ok (.invokevirtual 83, 3) := by decide +kernel
theorem dX6_clear_5 : decode cX6_clear 5 = .ok (.astore_n 2, 1) := by decide +kernel
theorem dX6_clear_6 : decode cX6_clear 6 = .ok (.aload_n 2, 1) := by decide +kernel
theorem dX6_clear_7 : decode cX6_clear 7 = .ok (.getfield 100, 3) := by decide +kernel
theorem dX6_clear_10 : decode cX6_clear 10 = .ok (.ifCond .eq 10, 3) := by decide +kernel
theorem dX6_clear_13 : decode cX6_clear 13 = .ok (.aload_n 2, 1) := by decide +kernel
theorem dX6_clear_14 : decode cX6_clear 14 = .ok (.invokevirtual 109, 3) := by decide +kernel
theorem dX6_clear_17 : decode cX6_clear 17 = .ok (.ifCond .eq 13, 3) := by decide +kernel
theorem dX6_clear_20 : decode cX6_clear 20 = .ok (.new 56, 3) := by decide +kernel
theorem dX6_clear_23 : decode cX6_clear 23 = .ok (.dup, 1) := by decide +kernel
theorem dX6_clear_24 : decode cX6_clear 24 = .ok (.ldc 251, 2) := by decide +kernel
theorem dX6_clear_26 : decode cX6_clear 26 = .ok (.invokespecial 60, 3) := by decide +kernel
theorem dX6_clear_29 : decode cX6_clear 29 = .ok (.athrow, 1) := by decide +kernel
theorem dX6_clear_30 : decode cX6_clear 30 = .ok (.aload_n 2, 1) := by decide +kernel
theorem dX6_clear_31 : decode cX6_clear 31 = .ok (.getfield 181, 3) := by decide +kernel
theorem dX6_clear_34 : decode cX6_clear 34 = .ok (.istore_n 3, 1) := by decide +kernel
theorem dX6_clear_35 : decode cX6_clear 35 = .ok (.aload_n 2, 1) := by decide +kernel
theorem dX6_clear_36 : decode cX6_clear 36 = .ok (.iconst 0, 1) := by decide +kernel
theorem dX6_clear_37 : decode cX6_clear 37 = .ok (.putfield 181, 3) := by decide +kernel
theorem dX6_clear_40 : decode cX6_clear 40 = .ok (.aload_n 2, 1) := by decide +kernel
theorem dX6_clear_41 : decode cX6_clear 41 = .ok (.iconst 0, 1) := by decide +kernel
theorem dX6_clear_42 : decode cX6_clear 42 = .ok (.putfield 100, 3) := by decide +kernel
theorem dX6_clear_45 : decode cX6_clear 45 = .ok (.iload_n 3, 1) := by decide +kernel
theorem dX6_clear_46 : decode cX6_clear 46 = .ok (.ireturn, 1) := by decide +kernel
theorem dX6_recall_0 : decode cX6_recall 0 = .ok (.iload_n 1, 1) := by decide +kernel
theorem dX6_recall_1 : decode cX6_recall 1 = .ok (.iconst 0, 1) := by decide +kernel
theorem dX6_recall_2 : decode cX6_recall 2 = .ok (.bipush 9, 2) := by decide +kernel
theorem dX6_recall_4 : decode cX6_recall 4 = .ok (.invokestatic 41, 3) := by decide +kernel
theorem dX6_recall_7 : decode cX6_recall 7 = .ok (.ifCond .eq 13, 3) := by decide +kernel
theorem dX6_recall_10 : decode cX6_recall 10 = .ok (.new 45, 3) := by decide +kernel
theorem dX6_recall_13 : decode cX6_recall 13 = .ok (.dup, 1) := by decide +kernel
theorem dX6_recall_14 : decode cX6_recall 14 = .ok (.ldc 253, 2) := by decide +kernel
theorem dX6_recall_16 : decode cX6_recall 16 = .ok (.invokespecial 49, 3) := by decide +kernel
theorem dX6_recall_19 : decode cX6_recall 19 = .ok (.athrow, 1) := by decide +kernel
theorem dX6_recall_20 : decode cX6_recall 20 = .ok (.iconst 0, 1) := by decide +kernel
theorem dX6_recall_21 : decode cX6_recall 21 = .ok (.istore_n 2, 1) := by decide +kernel
theorem dX6_recall_22 : decode cX6_recall 22 = .ok (.iconst 0, 1) := by decide +kernel
theorem dX6_recall_23 : decode cX6_recall 23 = .ok (.istore_n 3, 1) := by decide +kernel
theorem dX6_recall_24 : decode cX6_recall 24 = .ok (.iload_n 3, 1) := by decide +kernel
theorem dX6_recall_25 : decode cX6_recall 25 = .ok (.aload_n 0, 1) := by decide +kernel
theorem dX6_recall_26 : decode cX6_recall 26 = .ok (.getfield 10, 3) := by decide +kernel
theorem dX6_recall_29 : decode cX6_recall 29 = .ok (.invokevirtual 52, 3) := by decide +kernel
theorem dX6_recall_32 : decode cX6_recall 32 = .ok (.if_icmp .ge 65, 3) := by decide +kernel
theorem dX6_recall_35 : decode cX6_recall 35 = .ok (.aload_n 0, 1) := by decide +kernel
theorem dX6_recall_36 : decode cX6_recall 36 = .ok (.getfield 10, 3) := by decide +kernel
theorem dX6_recall_39 : decode cX6_recall 39 = .ok (.iload_n 3, 1) := by decide +kernel
theorem dX6_recall_40 : decode cX6_recall 40 = .ok (.invokevirtual 171, 3) := by decide +kernel
theorem dX6_recall_43 : decode cX6_recall 43 = .ok (.checkcast 61, 3) := by decide +kernel
theorem dX6_recall_46 : decode cX6_recall 46 = .ok (.astore 4, 2) := by decide +kernel
theorem dX6_recall_48 : decode cX6_recall 48 = .ok (.aload 4, 2) := by decide +kernel
theorem dX6_recall_50 : decode cX6_recall 50 = .ok (.getfield 255, 3) := by decide +kernel
theorem dX6_recall_53 : decode cX6_recall 53 = .ok (.iload_n 1, 1) := by decide +kernel
theorem dX6_recall_54 : decode cX6_recall 54 = .ok (.if_icmp .ne 37, 3) := by decide +kernel
theorem dX6_recall_57 : decode cX6_recall 57 = .ok (.aload 4, 2) := by decide +kernel
theorem dX6_recall_59 : decode cX6_recall 59 = .ok (.getfield 106, 3) := by decide +kernel
theorem dX6_recall_62 : decode cX6_recall 62 = .ok (.ifCond .ne 29, 3) := by decide +kernel
theorem dX6_recall_65 : decode cX6_recall 65 = .ok (.aload 4, 2) := by decide +kernel
theorem dX6_recall_67 : decode cX6_recall 67 = .ok (.getfield 248, 3) := by decide +kernel
theorem dX6_recall_70 : decode cX6_recall 70 = .ok (.ifCond .ne 21, 3) := by decide +kernel
theorem dX6_recall_73 : decode cX6_recall 73 = .ok (.aload 4, 2) := by decide +kernel
theorem dX6_recall_75 : decode cX6_recall 75 = .ok (.iconst 1, 1) := by decide +kernel
theorem dX6_recall_76 : decode cX6_recall 76 = .ok (.putfield 248, 3) := by decide +kernel
theorem dX6_recall_79 : decode cX6_recall 79 = .ok (.aload 4, 2) := by decide +kernel
theorem dX6_recall_81 : decode cX6_recall 81 = .ok (.invokevirtual 137, 3) := by decide +kernel
theorem dX6_recall_84 : decode cX6_recall 84 = .ok (.iconst 0, 1) := by decide +kernel
theorem dX6_recall_85 : decode cX6_recall 85 = .ok (.putfield 141, 3) := by decide +kernel
theorem dX6_recall_88 : decode cX6_recall 88 = .ok (.iinc 2 1, 3) := by decide +kernel
theorem dX6_recall_91 : decode cX6_recall 91 = .ok (.iinc 3 1, 3) := by decide +kernel
theorem dX6_recall_94 : decode cX6_recall 94 = .ok (.goto (-70), 3) := by decide +kernel
theorem dX6_recall_97 : decode cX6_recall 97 = .ok (.iload_n 2, 1) := by decide +kernel
theorem dX6_recall_98 : decode cX6_recall 98 = .ok (.ireturn, 1) := by decide +kernel
theorem dX6_release_0 : decode cX6_release 0 = .ok (.aload_n 0, 1) := by decide +kernel
theorem dX6_release_1 : decode cX6_release 1 = .ok (.iload_n 1, 1) := by decide +kernel
theorem dX6_release_2 : decode cX6_release 2 = .ok (.invokevirtual 160, 3) := by decide +kernel
theorem dX6_release_5 : decode cX6_release 5 = .ok (.astore_n 2, 1) := by decide +kernel
theorem dX6_release_6 : decode cX6_release 6 = .ok (.aload_n 0, 1) := by decide +kernel
theorem dX6_release_7 : decode cX6_release 7 = .ok (.aload_n 2, 1) := by decide +kernel
theorem dX6_release_8 : decode cX6_release 8 = .ok (.invokevirtual 258, 3) := by decide +kernel
theorem dX6_release_11 : decode cX6_release 11 = .ok (.istore_n 3, 1) := by decide +kernel
theorem dX6_release_12 : decode cX6_release 12 = .ok (.aload_n 2, 1) := by decide +kernel
theorem dX6_release_13 : decode cX6_release 13 = .ok (.iload_n 3, 1) := by decide +kernel
theorem dX6_release_14 : decode cX6_release 14 = .ok (.ifCond .ne 7, 3) := by decide +kernel
theorem dX6_release_17 : decode cX6_release 17 = .ok (.iconst 1, 1) := by decide +kernel
theorem dX6_release_18 : decode cX6_release 18 = .ok (.goto 4, 3) := by decide +kernel
theorem dX6_release_21 : decode cX6_release 21 = .ok (.iconst 0, 1) := by decide +kernel
theorem dX6_release_22 : decode cX6_release 22 = .ok (.putfield 141, 3) := by decide +kernel
theorem dX6_release_25 : decode cX6_release 25 = .ok (.iload_n 3, 1) := by decide +kernel
theorem dX6_release_26 : decode cX6_release 26 = .ok (.ireturn, 1) := by decide +kernel
theorem dX6_comes_0 : decode cX6_comes 0 = .ok (.aload_n 0, 1) := by decide +kernel
theorem dX6_comes_1 : decode cX6_comes 1 = .ok (.iload_n 1, 1) := by decide +kernel
theorem dX6_comes_2 : decode cX6_comes 2 = .ok (.invokevirtual 160, 3) := by decide +kernel
theorem dX6_comes_5 : decode cX6_comes 5 = .ok (.astore_n 3, 1) := by decide +kernel
theorem dX6_comes_6 : decode cX6_comes 6 = .ok (.iload_n 2, 1) := by decide +kernel
theorem dX6_comes_7 : decode cX6_comes 7 = .ok (.iconst 0, 1) := by decide +kernel
theorem dX6_comes_8 : decode cX6_comes 8 = .ok (.bipush 99, 2) := by decide +kernel
theorem dX6_comes_10 : decode cX6_comes 10 = .ok (.invokestatic 41, 3) := by decide +kernel
theorem dX6_comes_13 : decode cX6_comes 13 = .ok (.ifCond .eq 14, 3) := by decide +kernel
theorem dX6_comes_16 : decode cX6_comes 16 = .ok (.new 45, 3) := by decide +kernel
theorem dX6_comes_19 : decode cX6_comes 19 = .ok (.dup, 1) := by decide +kernel
theorem dX6_comes_20 : decode cX6_comes 20 = .ok (.ldc_w 261, 3) := by decide +kernel
theorem dX6_comes_23 : decode cX6_comes 23 = .ok (.invokespecial 49, 3) := by decide +kernel
theorem dX6_comes_26 : decode cX6_comes 26 = .ok (.athrow, 1) := by decide +kernel
theorem dX6_comes_27 : decode cX6_comes 27 = .ok (.aload_n 0, 1) := by decide +kernel
theorem dX6_comes_28 : decode cX6_comes 28 = .ok (.getfield 32, 3) := by decide +kernel
theorem dX6_comes_31 : decode cX6_comes 31 = .ok (.getfield 263, 3) := by decide +kernel
theorem dX6_comes_34 : decode cX6_comes 34 = .ok (.invokevirtual 52, 3) := by decide +kernel
theorem dX6_comes_37 : decode cX6_comes 37 = .ok (.bipush 8, 2) := by decide +kernel
theorem dX6_comes_39 : decode cX6_comes 39 = .ok (.if_icmp .ge 25, 3) := by decide +kernel
theorem dX6_comes_42 : decode cX6_comes 42 = .ok (.aload_n 0, 1) := by decide +kernel
theorem dX6_comes_43 : decode cX6_comes 43 = .ok (.getfield 32, 3) := by decide +kernel
theorem dX6_comes_46 : decode cX6_comes 46 = .ok (.iload_n 2, 1) := by decide +kernel
theorem dX6_comes_47 : decode cX6_comes 47 = .ok (.invokevirtual 266, 3) := by decide +kernel
theorem dX6_comes_50 : decode cX6_comes 50 = .ok (.ifCond .ne 14, 3) := by decide +kernel
theorem dX6_comes_53 : decode cX6_comes 53 = .ok (.aload_n 0, 1) := by decide +kernel
theorem dX6_comes_54 : decode cX6_comes 54 = .ok (.getfield 32, 3) := by decide +kernel
theorem dX6_comes_57 : decode cX6_comes 57 = .ok (.aload_n 3, 1) := by decide +kernel
theorem dX6_comes_58 : decode cX6_comes 58 = .ok (.invokevirtual 154, 3) := by decide +kernel
theorem dX6_comes_61 : decode cX6_comes 61 = .ok (.ifCond .eq 14, 3) := by decide +kernel
theorem dX6_comes_64 : decode cX6_comes 64 = .ok (.new 56, 3) := by decide +kernel
theorem dX6_comes_67 : decode cX6_comes 67 = .ok (.dup, 1) := by decide +kernel
theorem dX6_comes_68 : decode cX6_comes 68 = .ok (.ldc_w 270, 3) := by decide +kernel
theorem dX6_comes_71 : decode cX6_comes 71 = .ok (.invokespecial 60, 3) := by decide +kernel
theorem dX6_comes_74 : decode cX6_comes 74 = .ok (.athrow, 1) := by decide +kernel
theorem dX6_comes_75 : decode cX6_comes 75 = .ok (.aload_n 3, 1) := by decide +kernel
theorem dX6_comes_76 : decode cX6_comes 76 = .ok (.invokevirtual 109, 3) := by decide +kernel
theorem dX6_comes_79 : decode cX6_comes 79 = .ok (.ifCond .ne 10, 3) := by decide +kernel
theorem dX6_comes_82 : decode cX6_comes 82 = .ok (.aload_n 3, 1) := by decide +kernel
theorem dX6_comes_83 : decode cX6_comes 83 = .ok (.getfield 106, 3) := by decide +kernel
theorem dX6_comes_86 : decode cX6_comes 86 = .ok (.ifCond .eq 14, 3) := by decide +kernel
theorem dX6_comes_89 : decode cX6_comes 89 = .ok (.new 56, 3) := by decide +kernel
theorem dX6_comes_92 : decode cX6_comes 92 = .ok (.dup, 1) := by decide +kernel
theorem dX6_comes_93 : decode cX6_comes 93 = .ok (.ldc_w 272, 3) := by decide +kernel
theorem dX6_comes_96 : decode cX6_comes 96 = .ok (.invokespecial 60, 3) := by decide +kernel
theorem dX6_comes_99 : decode cX6_comes 99 = .ok (.athrow, 1) := by decide +kernel
theorem dX6_comes_100 : decode cX6_comes 100 = .ok (.aload_n 3, 1) := by decide +kernel
theorem dX6_comes_101 : decode cX6_comes 101 = .ok (.iload_n 2, 1) := by decide +kernel
theorem dX6_comes_102 : decode cX6_comes 102 = .ok (.putfield 274, 3) := by decide +kernel
theorem dX6_comes_105 : decode cX6_comes 105 = .ok (.aload_n 0, 1) := by decide +kernel
theorem dX6_comes_106 : decode cX6_comes 106 = .ok (.getfield 32, 3) := by decide +kernel
theorem dX6_comes_109 : decode cX6_comes 109 = .ok (.getfield 263, 3) := by decide +kernel
theorem dX6_comes_112 : decode cX6_comes 112 = .ok (.aload_n 3, 1) := by decide +kernel
theorem dX6_comes_113 : decode cX6_comes 113 = .ok (.invokevirtual 66, 3) := by decide +kernel
theorem dX6_comes_116 : decode cX6_comes 116 = .ok (.pop, 1) := by decide +kernel
theorem dX6_comes_117 : decode cX6_comes 117 = .ok (.aload_n 0, 1) := by decide +kernel
theorem dX6_comes_118 : decode cX6_comes 118 = .ok (.getfield 32, 3) := by decide +kernel
theorem dX6_comes_121 : decode cX6_comes 121 = .ok (.getfield 263, 3) := by decide +kernel
theorem dX6_comes_124 : decode cX6_comes 124 = .ok (.invokevirtual 52, 3) := by decide +kernel
theorem dX6_comes_127 : decode cX6_comes 127 = .ok (.ireturn, 1) := by decide +kernel
theorem dX6_night_0 : decode cX6_night 0 = .ok (.aload_n 0, 1) := by decide +kernel
theorem dX6_night_1 : decode cX6_night 1 = .ok (.getfield 32, 3) := by decide +kernel
theorem dX6_night_4 : decode cX6_night 4 = .ok (.getfield 263, 3) := by decide +kernel
theorem dX6_night_7 : decode cX6_night 7 = .ok (.invokevirtual 277, 3) := by decide +kernel
theorem dX6_night_10 : decode cX6_night 10 = .ok (.ifCond .ne 16, 3) := by decide +kernel
theorem dX6_night_13 : decode cX6_night 13 = .ok (.aload_n 0, 1) := by decide +kernel
theorem dX6_night_14 : decode cX6_night 14 = .ok (.getfield 32, 3) := by decide +kernel
theorem dX6_night_17 : decode cX6_night 17 = .ok (.getfield 280, 3) := by decide +kernel
theorem dX6_night_20 : decode cX6_night 20 = .ok (.invokevirtual 277, 3) := by decide +kernel
theorem dX6_night_23 : decode cX6_night 23 = .ok (.ifCond .ne 14, 3) := by decide +kernel
theorem dX6_night_26 : decode cX6_night 26 = .ok (.new 56, 3) := by decide +kernel
theorem dX6_night_29 : decode cX6_night 29 = .ok (.dup, 1) := by decide +kernel
theorem dX6_night_30 : decode cX6_night 30 = .ok (.ldc_w 283, 3) := by decide +kernel
theorem dX6_night_33 : decode cX6_night 33 = .ok (.invokespecial 60, 3) := by decide +kernel
theorem dX6_night_36 : decode cX6_night 36 = .ok (.athrow, 1) := by decide +kernel
theorem dX6_night_37 : decode cX6_night 37 = .ok (.aload_n 0, 1) := by decide +kernel
theorem dX6_night_38 : decode cX6_night 38 = .ok (.getfield 32, 3) := by decide +kernel
theorem dX6_night_41 : decode cX6_night 41 = .ok (.invokevirtual 285, 3) := by decide +kernel
theorem dX6_night_44 : decode cX6_night 44 = .ok (.ireturn, 1) := by decide +kernel
theorem dX6_out_0 : decode cX6_out 0 = .ok (.aload_n 0, 1) := by decide +kernel
theorem dX6_out_1 : decode cX6_out 1 = .ok (.getfield 32, 3) := by decide +kernel
theorem dX6_out_4 : decode cX6_out 4 = .ok (.getfield 280, 3) := by decide +kernel
theorem dX6_out_7 : decode cX6_out 7 = .ok (.invokevirtual 277, 3) := by decide +kernel
theorem dX6_out_10 : decode cX6_out 10 = .ok (.ifCond .eq 14, 3) := by decide +kernel
theorem dX6_out_13 : decode cX6_out 13 = .ok (.new 56, 3) := by decide +kernel
theorem dX6_out_16 : decode cX6_out 16 = .ok (.dup, 1) := by decide +kernel
theorem dX6_out_17 : decode cX6_out 17 = .ok (.ldc_w 288, 3) := by decide +kernel
theorem dX6_out_20 : decode cX6_out 20 = .ok (.invokespecial 60, 3) := by decide +kernel
theorem dX6_out_23 : decode cX6_out 23 = .ok (.athrow, 1) := by decide +kernel
theorem dX6_out_24 : decode cX6_out 24 = .ok (.aload_n 0, 1) := by decide +kernel
theorem dX6_out_25 : decode cX6_out 25 = .ok (.getfield 32, 3) := by decide +kernel
theorem dX6_out_28 : decode cX6_out 28 = .ok (.invokevirtual 290, 3) := by decide +kernel
theorem dX6_out_31 : decode cX6_out 31 = .ok (.ireturn, 1) := by decide +kernel
theorem dX6_host_0 : decode cX6_host 0 = .ok (.aload_n 0, 1) := by decide +kernel
theorem dX6_host_1 : decode cX6_host 1 = .ok (.iload_n 1, 1) := by decide +kernel
theorem dX6_host_2 : decode cX6_host 2 = .ok (.invokevirtual 83, 3) := by decide +kernel
theorem dX6_host_5 : decode cX6_host 5 = .ok (.invokevirtual 293, 3) := by decide +kernel
theorem dX6_host_8 : decode cX6_host 8 = .ok (.ireturn, 1) := by decide +kernel
theorem dX6_head_0 : decode cX6_head 0 = .ok (.aload_n 0, 1) := by decide +kernel
theorem dX6_head_1 : decode cX6_head 1 = .ok (.iload_n 1, 1) := by decide +kernel
theorem dX6_head_2 : decode cX6_head 2 = .ok (.invokevirtual 83, 3) := by decide +kernel
theorem dX6_head_5 : decode cX6_head 5 = .ok (.invokevirtual 137, 3) := by decide +kernel
theorem dX6_head_8 : decode cX6_head 8 = .ok (.getfield 149, 3) := by decide +kernel
theorem dX6_head_11 : decode cX6_head 11 = .ok (.ireturn, 1) := by decide +kernel
theorem dX6_ofPart_0 : decode cX6_ofPart 0 = .ok (.aload_n 0, 1) := by decide +kernel
theorem dX6_ofPart_1 : decode cX6_ofPart 1 = .ok (.iload_n 1, 1) := by decide +kernel
theorem dX6_ofPart_2 : decode cX6_ofPart 2 = .ok (.invokevirtual 83, 3) := by decide +kernel
theorem dX6_ofPart_5 : decode cX6_ofPart 5 = .ok (.astore_n 3, 1) := by decide +kernel
theorem dX6_ofPart_6 : decode cX6_ofPart 6 = .ok (.iload_n 2, 1) := by decide +kernel
theorem dX6_ofPart_7 : decode cX6_ofPart 7 = .ok (.tableswitch 114 0 8 #[49, 54, 59, 64, 69, 74, 79, 92, 105], 49) := by decide +kernel
theorem dX6_ofPart_56 : decode cX6_ofPart 56 = .ok (.aload_n 3, 1) := by decide +kernel
theorem dX6_ofPart_57 : decode cX6_ofPart 57 = .ok (.getfield 87, 3) := by decide +kernel
theorem dX6_ofPart_60 : decode cX6_ofPart 60 = .ok (.ireturn, 1) := by decide +kernel
theorem dX6_ofPart_61 : decode cX6_ofPart 61 = .ok (.aload_n 3, 1) := by decide +kernel
theorem dX6_ofPart_62 : decode cX6_ofPart 62 = .ok (.getfield 255, 3) := by decide +kernel
theorem dX6_ofPart_65 : decode cX6_ofPart 65 = .ok (.ireturn, 1) := by decide +kernel
theorem dX6_ofPart_66 : decode cX6_ofPart 66 = .ok (.aload_n 3, 1) := by decide +kernel
theorem dX6_ofPart_67 : decode cX6_ofPart 67 = .ok (.getfield 118, 3) := by decide +kernel
theorem dX6_ofPart_70 : decode cX6_ofPart 70 = .ok (.ireturn, 1) := by decide +kernel
theorem dX6_ofPart_71 : decode cX6_ofPart 71 = .ok (.aload_n 3, 1) := by decide +kernel
theorem dX6_ofPart_72 : decode cX6_ofPart 72 = .ok (.getfield 242, 3) := by decide +kernel
theorem dX6_ofPart_75 : decode cX6_ofPart 75 = .ok (.ireturn, 1) := by decide +kernel
theorem dX6_ofPart_76 : decode cX6_ofPart 76 = .ok (.aload_n 3, 1) := by decide +kernel
theorem dX6_ofPart_77 : decode cX6_ofPart 77 = .ok (.getfield 224, 3) := by decide +kernel
theorem dX6_ofPart_80 : decode cX6_ofPart 80 = .ok (.ireturn, 1) := by decide +kernel
theorem dX6_ofPart_81 : decode cX6_ofPart 81 = .ok (.aload_n 3, 1) := by decide +kernel
theorem dX6_ofPart_82 : decode cX6_ofPart 82 = .ok (.getfield 227, 3) := by decide +kernel
theorem dX6_ofPart_85 : decode cX6_ofPart 85 = .ok (.ireturn, 1) := by decide +kernel
theorem dX6_ofPart_86 : decode cX6_ofPart 86 = .ok (.aload_n 3, 1) := by decide +kernel
theorem dX6_ofPart_87 : decode cX6_ofPart 87 = .ok (.getfield 100, 3) := by decide +kernel
theorem dX6_ofPart_90 : decode cX6_ofPart 90 = .ok (.ifCond .eq 7, 3) := by decide +kernel
theorem dX6_ofPart_93 : decode cX6_ofPart 93 = .ok (.iconst 1, 1) := by decide +kernel
theorem dX6_ofPart_94 : decode cX6_ofPart 94 = .ok (.goto 4, 3) := by decide +kernel
theorem dX6_ofPart_97 : decode cX6_ofPart 97 = .ok (.iconst 0, 1) := by decide +kernel
theorem dX6_ofPart_98 : decode cX6_ofPart 98 = .ok (.ireturn, 1) := by decide +kernel
theorem dX6_ofPart_99 : decode cX6_ofPart 99 = .ok (.aload_n 3, 1) := by decide +kernel
theorem dX6_ofPart_100 : decode cX6_ofPart 100 = .ok (.getfield 248, 3) := by decide +kernel
theorem dX6_ofPart_103 : decode cX6_ofPart 103 = .ok (.ifCond .eq 7, 3) := by decide +kernel
theorem dX6_ofPart_106 : decode cX6_ofPart 106 = .ok (.iconst 1, 1) := by decide +kernel
theorem dX6_ofPart_107 : decode cX6_ofPart 107 = .ok (.goto 4, 3) := by decide +kernel
theorem dX6_ofPart_110 : decode cX6_ofPart 110 = .ok (.iconst 0, 1) := by decide +kernel
theorem dX6_ofPart_111 : decode cX6_ofPart 111 = .ok (.ireturn, 1) := by decide +kernel
theorem dX6_ofPart_112 : decode cX6_ofPart 112 = .ok (.aload_n 0, 1) := by decide +kernel
theorem dX6_ofPart_113 : decode cX6_ofPart 113 = .ok (.getfield 25, 3) := by decide +kernel
theorem dX6_ofPart_116 : decode cX6_ofPart 116 = .ok (.iload_n 1, 1) := by decide +kernel
theorem dX6_ofPart_117 : decode cX6_ofPart 117 = .ok (.invokevirtual 296, 3) := by decide +kernel
theorem dX6_ofPart_120 : decode cX6_ofPart 120 = .ok (.ireturn, 1) := by decide +kernel
theorem dX6_ofPart_121 : decode cX6_ofPart 121 = .ok (.new 45, 3) := by decide +kernel
theorem dX6_ofPart_124 : decode cX6_ofPart 124 = .ok (.dup, 1) := by decide +kernel
theorem dX6_ofPart_125 : decode cX6_ofPart 125 = .ok (.ldc_w 299, 3) := by decide +kernel
theorem dX6_ofPart_128 : decode cX6_ofPart 128 = .ok (.invokespecial 49, 3) := by decide +kernel
theorem dX6_ofPart_131 : decode cX6_ofPart 131 = .ok (.athrow, 1) := by decide +kernel
theorem dX6_trace_0 : decode cX6_trace 0 = .ok (.aload_n 0, 1) := by decide +kernel
theorem dX6_trace_1 : decode cX6_trace 1 = .ok (.iload_n 1, 1) := by decide +kernel
theorem dX6_trace_2 : decode cX6_trace 2 = .ok (.invokevirtual 83, 3) := by decide +kernel
theorem dX6_trace_5 : decode cX6_trace 5 = .ok (.astore_n 3, 1) := by decide +kernel
theorem dX6_trace_6 : decode cX6_trace 6 = .ok (.aload_n 0, 1) := by decide +kernel
theorem dX6_trace_7 : decode cX6_trace 7 = .ok (.getfield 25, 3) := by decide +kernel
theorem dX6_trace_10 : decode cX6_trace 10 = .ok (.aload_n 3, 1) := by decide +kernel
theorem dX6_trace_11 : decode cX6_trace 11 = .ok (.getfield 149, 3) := by decide +kernel
theorem dX6_trace_14 : decode cX6_trace 14 = .ok (.iload_n 2, 1) := by decide +kernel
theorem dX6_trace_15 : decode cX6_trace 15 = .ok (.invokevirtual 301, 3) := by decide +kernel
theorem dX6_trace_18 : decode cX6_trace 18 = .ok (.astore 4, 2) := by decide +kernel
theorem dX6_trace_20 : decode cX6_trace 20 = .ok (.aload 4, 2) := by decide +kernel
theorem dX6_trace_22 : decode cX6_trace 22 = .ok (.ifnonnull 14, 3) := by decide +kernel
theorem dX6_trace_25 : decode cX6_trace 25 = .ok (.new 305, 3) := by decide +kernel
theorem dX6_trace_28 : decode cX6_trace 28 = .ok (.dup, 1) := by decide +kernel
theorem dX6_trace_29 : decode cX6_trace 29 = .ok (.ldc_w 307, 3) := by decide +kernel
theorem dX6_trace_32 : decode cX6_trace 32 = .ok (.invokespecial 309, 3) := by decide +kernel
theorem dX6_trace_35 : decode cX6_trace 35 = .ok (.athrow, 1) := by decide +kernel
theorem dX6_trace_36 : decode cX6_trace 36 = .ok (.aload 4, 2) := by decide +kernel
theorem dX6_trace_38 : decode cX6_trace 38 = .ok (.getfield 310, 3) := by decide +kernel
theorem dX6_trace_41 : decode cX6_trace 41 = .ok (.ireturn, 1) := by decide +kernel
theorem dX6_lifeAnew_0 : decode cX6_lifeAnew 0 = .ok (.aload_n 0, 1) := by decide +kernel
theorem dX6_lifeAnew_1 : decode cX6_lifeAnew 1 = .ok (.getfield 25, 3) := by decide +kernel
theorem dX6_lifeAnew_4 : decode cX6_lifeAnew 4 = .ok (.aload_n 0, 1) := by decide +kernel
theorem dX6_lifeAnew_5 : decode cX6_lifeAnew 5 = .ok (.iload_n 1, 1) := by decide +kernel
theorem dX6_lifeAnew_6 : decode cX6_lifeAnew 6 = .ok (.invokevirtual 83, 3) := by decide +kernel
theorem dX6_lifeAnew_9 : decode cX6_lifeAnew 9 = .ok (.getfield 149, 3) := by decide +kernel
theorem dX6_lifeAnew_12 : decode cX6_lifeAnew 12 = .ok (.invokevirtual 315, 3) := by decide +kernel
theorem dX6_lifeAnew_15 : decode cX6_lifeAnew 15 = .ok (.ireturn, 1) := by decide +kernel
theorem dX6_wheel_0 : decode cX6_wheel 0 = .ok (.aload_n 0, 1) := by decide +kernel
theorem dX6_wheel_1 : decode cX6_wheel 1 = .ok (.iload_n 1, 1) := by decide +kernel
theorem dX6_wheel_2 : decode cX6_wheel 2 = .ok (.invokevirtual 207, 3) := by decide +kernel
theorem dX6_wheel_5 : decode cX6_wheel 5 = .ok (.astore_n 3, 1) := by decide +kernel
theorem dX6_wheel_6 : decode cX6_wheel 6 = .ok (.iload_n 2, 1) := by decide +kernel
theorem dX6_wheel_7 : decode cX6_wheel 7 = .ok (.tableswitch 40 0 2 #[25, 30, 35], 25) := by decide +kernel
theorem dX6_wheel_32 : decode cX6_wheel 32 = .ok (.aload_n 3, 1) := by decide +kernel
theorem dX6_wheel_33 : decode cX6_wheel 33 = .ok (.getfield 196, 3) := by decide +kernel
theorem dX6_wheel_36 : decode cX6_wheel 36 = .ok (.ireturn, 1) := by decide +kernel
theorem dX6_wheel_37 : decode cX6_wheel 37 = .ok (.aload_n 3, 1) := by decide +kernel
theorem dX6_wheel_38 : decode cX6_wheel 38 = .ok (.getfield 213, 3) := by decide +kernel
theorem dX6_wheel_41 : decode cX6_wheel 41 = .ok (.ireturn, 1) := by decide +kernel
theorem dX6_wheel_42 : decode cX6_wheel 42 = .ok (.aload_n 3, 1) := by decide +kernel
theorem dX6_wheel_43 : decode cX6_wheel 43 = .ok (.getfield 216, 3) := by decide +kernel
theorem dX6_wheel_46 : decode cX6_wheel 46 = .ok (.ireturn, 1) := by decide +kernel
theorem dX6_wheel_47 : decode cX6_wheel 47 = .ok (.new 45, 3) := by decide +kernel
theorem dX6_wheel_50 : decode cX6_wheel 50 = .ok (.dup, 1) := by decide +kernel
theorem dX6_wheel_51 : decode cX6_wheel 51 = .ok (.ldc_w 318, 3) := by decide +kernel
theorem dX6_wheel_54 : decode cX6_wheel 54 = .ok (.invokespecial 49, 3) := by decide +kernel
theorem dX6_wheel_57 : decode cX6_wheel 57 = .ok (.athrow, 1) := by decide +kernel
theorem dX6_foretell_0 : decode cX6_foretell 0 = .ok (.aload_n 0, 1) := by decide +kernel
theorem dX6_foretell_1 : decode cX6_foretell 1 = .ok (.iload_n 1, 1) := by decide +kernel
theorem dX6_foretell_2 : decode cX6_foretell 2 = .ok (.invokevirtual 207, 3) := by decide +kernel
theorem dX6_foretell_5 : decode cX6_foretell 5 = .ok (.astore 4, 2) := by decide +kernel
theorem dX6_foretell_7 : decode cX6_foretell 7 = .ok (.iload_n 2, 1) := by decide +kernel
theorem dX6_foretell_8 : decode cX6_foretell 8 = .ok (.iload_n 3, 1) := by decide +kernel
theorem dX6_foretell_9 : decode cX6_foretell 9 = .ok (.invokestatic 163, 3) := by decide +kernel
theorem dX6_foretell_12 : decode cX6_foretell 12 = .ok (.aload 4, 2) := by decide +kernel
theorem dX6_foretell_14 : decode cX6_foretell 14 = .ok (.getfield 216, 3) := by decide +kernel
theorem dX6_foretell_17 : decode cX6_foretell 17 = .ok (.iconst (-1), 1) := by decide +kernel
theorem dX6_foretell_18 : decode cX6_foretell 18 = .ok (.if_icmp .ne 5, 3) := by decide +kernel
theorem dX6_foretell_21 : decode cX6_foretell 21 = .ok (.iconst (-1), 1) := by decide +kernel
theorem dX6_foretell_22 : decode cX6_foretell 22 = .ok (.ireturn, 1) := by decide +kernel
theorem dX6_foretell_23 : decode cX6_foretell 23 = .ok (.iconst 0, 1) := by decide +kernel
theorem dX6_foretell_24 : decode cX6_foretell 24 = .ok (.aload 4, 2) := by decide +kernel
theorem dX6_foretell_26 : decode cX6_foretell 26 = .ok (.getfield 216, 3) := by decide +kernel
theorem dX6_foretell_29 : decode cX6_foretell 29 = .ok (.sipush 250, 3) := by decide +kernel
theorem dX6_foretell_32 : decode cX6_foretell 32 = .ok (.isub, 1) := by decide +kernel
theorem dX6_foretell_33 : decode cX6_foretell 33 = .ok (.invokestatic 320, 3) := by decide +kernel
theorem dX6_foretell_36 : decode cX6_foretell 36 = .ok (.istore 5, 2) := by decide +kernel
theorem dX6_foretell_38 : decode cX6_foretell 38 = .ok (.iload 5, 2) := by decide +kernel
theorem dX6_foretell_40 : decode cX6_foretell 40 = .ok (.sipush 200, 3) := by decide +kernel
theorem dX6_foretell_43 : decode cX6_foretell 43 = .ok (.imul, 1) := by decide +kernel
theorem dX6_foretell_44 : decode cX6_foretell 44 = .ok (.iload_n 2, 1) := by decide +kernel
theorem dX6_foretell_45 : decode cX6_foretell 45 = .ok (.iload_n 3, 1) := by decide +kernel
theorem dX6_foretell_46 : decode cX6_foretell 46 = .ok (.invokestatic 175, 3) := by decide +kernel
theorem dX6_foretell_49 : decode cX6_foretell 49 = .ok (.imul, 1) := by decide +kernel
theorem dX6_foretell_50 : decode cX6_foretell 50 = .ok (.idiv, 1) := by decide +kernel
theorem dX6_foretell_51 : decode cX6_foretell 51 = .ok (.ireturn, 1) := by decide +kernel
theorem dX6_bars_0 : decode cX6_bars 0 = .ok (.aload_n 0, 1) := by decide +kernel
theorem dX6_bars_1 : decode cX6_bars 1 = .ok (.aload_n 0, 1) := by decide +kernel
theorem dX6_bars_2 : decode cX6_bars 2 = .ok (.iload_n 1, 1) := by decide +kernel
theorem dX6_bars_3 : decode cX6_bars 3 = .ok (.invokevirtual 160, 3) := by decide +kernel
theorem dX6_bars_6 : decode cX6_bars 6 = .ok (.invokevirtual 258, 3) := by decide +kernel
theorem dX6_bars_9 : decode cX6_bars 9 = .ok (.ireturn, 1) := by decide +kernel
theorem dX6_barredBy_0 : decode cX6_barredBy 0 = .ok (.aload_n 0, 1) := by decide +kernel
theorem dX6_barredBy_1 : decode cX6_barredBy 1 = .ok (.iload_n 1, 1) := by decide +kernel
theorem dX6_barredBy_2 : decode cX6_barredBy 2 = .ok (.invokevirtual 160, 3) := by decide +kernel
theorem dX6_barredBy_5 : decode cX6_barredBy 5 = .ok (.astore_n 2, 1) := by decide +kernel
theorem dX6_barredBy_6 : decode cX6_barredBy 6 = .ok (.aload_n 0, 1) := by decide +kernel
theorem dX6_barredBy_7 : decode cX6_barredBy 7 = .ok (.aload_n 2, 1) := by decide +kernel
theorem dX6_barredBy_8 : decode cX6_barredBy 8 = .ok (.aload_n 0, 1) := by decide +kernel
theorem dX6_barredBy_9 : decode cX6_barredBy 9 = .ok (.aload_n 2, 1) := by decide +kernel
theorem dX6_barredBy_10 : decode cX6_barredBy 10 = .ok (.invokevirtual 258, 3) := by decide +kernel
theorem dX6_barredBy_13 : decode cX6_barredBy 13 = .ok (.invokevirtual 323, 3) := by decide +kernel
theorem dX6_barredBy_16 : decode cX6_barredBy 16 = .ok (.ireturn, 1) := by decide +kernel
theorem dX6_isReleased_0 : decode cX6_isReleased 0 = .ok (.aload_n 0, 1) := by decide +kernel
theorem dX6_isReleased_1 : decode cX6_isReleased 1 = .ok (.iload_n 1, 1) := by decide +kernel
theorem dX6_isReleased_2 : decode cX6_isReleased 2 = .ok (.invokevirtual 160, 3) := by decide +kernel
theorem dX6_isReleased_5 : decode cX6_isReleased 5 = .ok (.getfield 141, 3) := by decide +kernel
theorem dX6_isReleased_8 : decode cX6_isReleased 8 = .ok (.ireturn, 1) := by decide +kernel
theorem dX6_plan_0 : decode cX6_plan 0 = .ok (.aload_n 0, 1) := by decide +kernel
theorem dX6_plan_1 : decode cX6_plan 1 = .ok (.getfield 32, 3) := by decide +kernel
theorem dX6_plan_4 : decode cX6_plan 4 = .ok (.invokevirtual 326, 3) := by decide +kernel
theorem dX6_plan_7 : decode cX6_plan 7 = .ok (.ireturn, 1) := by decide +kernel
theorem dX6_planAnew_0 : decode cX6_planAnew 0 = .ok (.aload_n 0, 1) := by decide +kernel
theorem dX6_planAnew_1 : decode cX6_planAnew 1 = .ok (.getfield 32, 3) := by decide +kernel
theorem dX6_planAnew_4 : decode cX6_planAnew 4 = .ok (.invokevirtual 329, 3) := by decide +kernel
theorem dX6_planAnew_7 : decode cX6_planAnew 7 = .ok (.ireturn, 1) := by decide +kernel
theorem dX6_road_0 : decode cX6_road 0 = .ok (.iload_n 1, 1) := by decide +kernel
theorem dX6_road_1 : decode cX6_road 1 = .ok (.iconst 0, 1) := by decide +kernel
theorem dX6_road_2 : decode cX6_road 2 = .ok (.iconst 2, 1) := by decide +kernel
theorem dX6_road_3 : decode cX6_road 3 = .ok (.invokestatic 41, 3) := by decide +kernel
theorem dX6_road_6 : decode cX6_road 6 = .ok (.ifCond .ne 7, 3) := by decide +kernel
theorem dX6_road_9 : decode cX6_road 9 = .ok (.iload_n 2, 1) := by decide +kernel
theorem dX6_road_10 : decode cX6_road 10 = .ok (.ifCond .ge 14, 3) := by decide +kernel
theorem dX6_road_13 : decode cX6_road 13 = .ok (.new 305, 3) := by decide +kernel
theorem dX6_road_16 : decode cX6_road 16 = .ok (.dup, 1) := by decide +kernel
theorem dX6_road_17 : decode cX6_road 17 = .ok (.ldc_w 332, 3) := by decide +kernel
theorem dX6_road_20 : decode cX6_road 20 = .ok (.invokespecial 309, 3) := by decide +kernel
theorem dX6_road_23 : decode cX6_road 23 = .ok (.athrow, 1) := by decide +kernel
theorem dX6_road_24 : decode cX6_road 24 = .ok (.aload_n 0, 1) := by decide +kernel
theorem dX6_road_25 : decode cX6_road 25 = .ok (.getfield 32, 3) := by decide +kernel
theorem dX6_road_28 : decode cX6_road 28 = .ok (.iload_n 1, 1) := by decide +kernel
theorem dX6_road_29 : decode cX6_road 29 = .ok (.iload_n 2, 1) := by decide +kernel
theorem dX6_road_30 : decode cX6_road 30 = .ok (.invokevirtual 334, 3) := by decide +kernel
theorem dX6_road_33 : decode cX6_road 33 = .ok (.ireturn, 1) := by decide +kernel
theorem dX6_isOutside_0 : decode cX6_isOutside 0 = .ok (.iload_n 0, 1) := by decide +kernel
theorem dX6_isOutside_1 : decode cX6_isOutside 1 = .ok (.iload_n 1, 1) := by decide +kernel
theorem dX6_isOutside_2 : decode cX6_isOutside 2 = .ok (.if_icmp .lt 8, 3) := by decide +kernel
theorem dX6_isOutside_5 : decode cX6_isOutside 5 = .ok (.iload_n 0, 1) := by decide +kernel
theorem dX6_isOutside_6 : decode cX6_isOutside 6 = .ok (.iload_n 2, 1) := by decide +kernel
theorem dX6_isOutside_7 : decode cX6_isOutside 7 = .ok (.if_icmp .le 7, 3) := by decide +kernel
theorem dX6_isOutside_10 : decode cX6_isOutside 10 = .ok (.iconst 1, 1) := by decide +kernel
theorem dX6_isOutside_11 : decode cX6_isOutside 11 = .ok (.goto 4, 3) := by decide +kernel
theorem dX6_isOutside_14 : decode cX6_isOutside 14 = .ok (.iconst 0, 1) := by decide +kernel
theorem dX6_isOutside_15 : decode cX6_isOutside 15 = .ok (.ireturn, 1) := by decide +kernel
theorem dX6_checkRun_0 : decode cX6_checkRun 0 = .ok (.iload_n 0, 1) := by decide +kernel
theorem dX6_checkRun_1 : decode cX6_checkRun 1 = .ok (.iconst 1, 1) := by decide +kernel
theorem dX6_checkRun_2 : decode cX6_checkRun 2 = .ok (.sipush 2000, 3) := by decide +kernel
theorem dX6_checkRun_5 : decode cX6_checkRun 5 = .ok (.invokestatic 41, 3) := by decide +kernel
theorem dX6_checkRun_8 : decode cX6_checkRun 8 = .ok (.ifCond .ne 12, 3) := by decide +kernel
theorem dX6_checkRun_11 : decode cX6_checkRun 11 = .ok (.iload_n 1, 1) := by decide +kernel
theorem dX6_checkRun_12 : decode cX6_checkRun 12 = .ok (.iconst 0, 1) := by decide +kernel
theorem dX6_checkRun_13 : decode cX6_checkRun 13 = .ok (.iconst 3, 1) := by decide +kernel
theorem dX6_checkRun_14 : decode cX6_checkRun 14 = .ok (.invokestatic 41, 3) := by decide +kernel
theorem dX6_checkRun_17 : decode cX6_checkRun 17 = .ok (.ifCond .eq 14, 3) := by decide +kernel
theorem dX6_checkRun_20 : decode cX6_checkRun 20 = .ok (.new 45, 3) := by decide +kernel
theorem dX6_checkRun_23 : decode cX6_checkRun 23 = .ok (.dup, 1) := by decide +kernel
theorem dX6_checkRun_24 : decode cX6_checkRun 24 = .ok (.ldc_w 337, 3) := by decide +kernel
theorem dX6_checkRun_27 : decode cX6_checkRun 27 = .ok (.invokespecial 49, 3) := by decide +kernel
theorem dX6_checkRun_30 : decode cX6_checkRun 30 = .ok (.athrow, 1) := by decide +kernel
theorem dX6_checkRun_31 : decode cX6_checkRun 31 = .ok (.return_, 1) := by decide +kernel
theorem dX6_limitsOf_0 : decode cX6_limitsOf 0 = .ok (.iload_n 1, 1) := by decide +kernel
theorem dX6_limitsOf_1 : decode cX6_limitsOf 1 = .ok (.ifCond .lt 12, 3) := by decide +kernel
theorem dX6_limitsOf_4 : decode cX6_limitsOf 4 = .ok (.iload_n 1, 1) := by decide +kernel
theorem dX6_limitsOf_5 : decode cX6_limitsOf 5 = .ok (.aload_n 0, 1) := by decide +kernel
theorem dX6_limitsOf_6 : decode cX6_limitsOf 6 = .ok (.getfield 18, 3) := by decide +kernel
theorem dX6_limitsOf_9 : decode cX6_limitsOf 9 = .ok (.arraylength, 1) := by decide +kernel
theorem dX6_limitsOf_10 : decode cX6_limitsOf 10 = .ok (.if_icmp .lt 14, 3) := by decide +kernel
theorem dX6_limitsOf_13 : decode cX6_limitsOf 13 = .ok (.new 45, 3) := by decide +kernel
theorem dX6_limitsOf_16 : decode cX6_limitsOf 16 = .ok (.dup, 1) := by decide +kernel
theorem dX6_limitsOf_17 : decode cX6_limitsOf 17 = .ok (.ldc_w 339, 3) := by decide +kernel
theorem dX6_limitsOf_20 : decode cX6_limitsOf 20 = .ok (.invokespecial 49, 3) := by decide +kernel
theorem dX6_limitsOf_23 : decode cX6_limitsOf 23 = .ok (.athrow, 1) := by decide +kernel
theorem dX6_limitsOf_24 : decode cX6_limitsOf 24 = .ok (.aload_n 0, 1) := by decide +kernel
theorem dX6_limitsOf_25 : decode cX6_limitsOf 25 = .ok (.getfield 18, 3) := by decide +kernel
theorem dX6_limitsOf_28 : decode cX6_limitsOf 28 = .ok (.iload_n 1, 1) := by decide +kernel
theorem dX6_limitsOf_29 : decode cX6_limitsOf 29 = .ok (.aaload, 1) := by decide +kernel
theorem dX6_limitsOf_30 : decode cX6_limitsOf 30 = .ok (.areturn, 1) := by decide +kernel
theorem dX6_existing_0 : decode cX6_existing 0 = .ok (.iload_n 1, 1) := by decide +kernel
theorem dX6_existing_1 : decode cX6_existing 1 = .ok (.ifCond .lt 14, 3) := by decide +kernel
theorem dX6_existing_4 : decode cX6_existing 4 = .ok (.iload_n 1, 1) := by decide +kernel
theorem dX6_existing_5 : decode cX6_existing 5 = .ok (.aload_n 0, 1) := by decide +kernel
theorem dX6_existing_6 : decode cX6_existing 6 = .ok (.getfield 10, 3) := by decide +kernel
theorem dX6_existing_9 : decode cX6_existing 9 = .ok (.invokevirtual 52, 3) := by decide +kernel
theorem dX6_existing_12 : decode cX6_existing 12 = .ok (.if_icmp .lt 14, 3) := by decide +kernel
theorem dX6_existing_15 : decode cX6_existing 15 = .ok (.new 305, 3) := by decide +kernel
theorem dX6_existing_18 : decode cX6_existing 18 = .ok (.dup, 1) := by decide +kernel
theorem dX6_existing_19 : decode cX6_existing 19 = .ok (.ldc_w 341, 3) := by decide +kernel
theorem dX6_existing_22 : decode cX6_existing 22 = .ok (.invokespecial 309, 3) := by decide +kernel
theorem dX6_existing_25 : decode cX6_existing 25 = .ok (.athrow, 1) := by decide +kernel
theorem dX6_existing_26 : decode cX6_existing 26 = .ok (.aload_n 0, 1) := by decide +kernel
theorem dX6_existing_27 : decode cX6_existing 27 = .ok (.getfield 10, 3) := by decide +kernel
theorem dX6_existing_30 : decode cX6_existing 30 = .ok (.iload_n 1, 1) := by decide +kernel
theorem dX6_existing_31 : decode cX6_existing 31 = .ok (.invokevirtual 171, 3) := by decide +kernel
theorem dX6_existing_34 : decode cX6_existing 34 = .ok (.checkcast 61, 3) := by decide +kernel
theorem dX6_existing_37 : decode cX6_existing 37 = .ok (.areturn, 1) := by decide +kernel
theorem dX6_existingTrain_0 : decode cX6_existingTrain 0 = .ok (.aload_n 0, 1) := by decide +kernel
theorem dX6_existingTrain_1 : decode cX6_existingTrain 1 = .ok (.iload_n 1, 1) := by decide +kernel
theorem dX6_existingTrain_2 : decode cX6_existingTrain 2 = .ok (.invokevirtual 83, 3) := by decide +kernel
theorem dX6_existingTrain_5 : decode cX6_existingTrain 5 = .ok (.astore_n 2, 1) := by decide +kernel
theorem dX6_existingTrain_6 : decode cX6_existingTrain 6 = .ok (.aload_n 2, 1) := by decide +kernel
theorem dX6_existingTrain_7 : decode cX6_existingTrain 7 = .ok (.getfield 87, 3) := by decide +kernel
theorem dX6_existingTrain_10 : decode cX6_existingTrain 10 = .ok (.ifCond .eq 14, 3) := by decide +kernel
theorem dX6_existingTrain_13 : decode cX6_existingTrain 13 = .ok (.new 45, 3) := by decide +kernel
theorem dX6_existingTrain_16 : decode cX6_existingTrain 16 = .ok (.dup, 1) := by decide +kernel
theorem dX6_existingTrain_17 : decode cX6_existingTrain 17 = .ok (.ldc_w 343, 3) := by decide +kernel
theorem dX6_existingTrain_20 : decode cX6_existingTrain 20 = .ok (.invokespecial 49, 3) := by decide +kernel
theorem dX6_existingTrain_23 : decode cX6_existingTrain 23 = .ok (.athrow, 1) := by decide +kernel
theorem dX6_existingTrain_24 : decode cX6_existingTrain 24 = .ok (.aload_n 2, 1) := by decide +kernel
theorem dX6_existingTrain_25 : decode cX6_existingTrain 25 = .ok (.areturn, 1) := by decide +kernel
theorem dX6_existingWheel_0 : decode cX6_existingWheel 0 = .ok (.aload_n 0, 1) := by decide +kernel
theorem dX6_existingWheel_1 : decode cX6_existingWheel 1 = .ok (.iload_n 1, 1) := by decide +kernel
theorem dX6_existingWheel_2 : decode cX6_existingWheel 2 = .ok (.invokevirtual 83, 3) := by decide +kernel
theorem dX6_existingWheel_5 : decode cX6_existingWheel 5 = .ok (.getfield 345, 3) := by decide +kernel
theorem dX6_existingWheel_8 : decode cX6_existingWheel 8 = .ok (.astore_n 2, 1) := by decide +kernel
theorem dX6_existingWheel_9 : decode cX6_existingWheel 9 = .ok (.aload_n 2, 1) := by decide +kernel
theorem dX6_existingWheel_10 : decode cX6_existingWheel 10 = .ok (.ifnonnull 14, 3) := by decide +kernel
theorem dX6_existingWheel_13 : decode cX6_existingWheel 13 = .ok (.new 45, 3) := by decide +kernel
theorem dX6_existingWheel_16 : decode cX6_existingWheel 16 = .ok (.dup, 1) := by decide +kernel
theorem dX6_existingWheel_17 : decode cX6_existingWheel 17 = .ok (.ldc_w 349, 3) := by decide +kernel
theorem dX6_existingWheel_20 : decode cX6_existingWheel 20 = .ok (.invokespecial 49, 3) := by decide +kernel
theorem dX6_existingWheel_23 : decode cX6_existingWheel 23 = .ok (.athrow, 1) := by decide +kernel
theorem dX6_existingWheel_24 : decode cX6_existingWheel 24 = .ok (.aload_n 2, 1) := by decide +kernel
theorem dX6_existingWheel_25 : decode cX6_existingWheel 25 = .ok (.areturn, 1) := by decide +kernel
theorem dX6_placesFor_0 : decode cX6_placesFor 0 = .ok (.iload_n 0, 1) := by decide +kernel
theorem dX6_placesFor_1 : decode cX6_placesFor 1 = .ok (.tableswitch 69 0 2 #[27, 38, 49], 27) := by decide +kernel
theorem dX6_placesFor_28 : decode cX6_placesFor 28 = .ok (.iload_n 1, 1) := by decide +kernel
theorem dX6_placesFor_29 : decode cX6_placesFor 29 = .ok (.iconst 1, 1) := by decide +kernel
theorem dX6_placesFor_30 : decode cX6_placesFor 30 = .ok (.if_icmp .ne 7, 3) := by decide +kernel
theorem dX6_placesFor_33 : decode cX6_placesFor 33 = .ok (.iconst 2, 1) := by decide +kernel
theorem dX6_placesFor_34 : decode cX6_placesFor 34 = .ok (.goto 4, 3) := by decide +kernel
theorem dX6_placesFor_37 : decode cX6_placesFor 37 = .ok (.iconst 0, 1) := by decide +kernel
theorem dX6_placesFor_38 : decode cX6_placesFor 38 = .ok (.ireturn, 1) := by decide +kernel
theorem dX6_placesFor_39 : decode cX6_placesFor 39 = .ok (.iload_n 1, 1) := by decide +kernel
theorem dX6_placesFor_40 : decode cX6_placesFor 40 = .ok (.iconst 2, 1) := by decide +kernel
theorem dX6_placesFor_41 : decode cX6_placesFor 41 = .ok (.if_icmp .ne 7, 3) := by decide +kernel
theorem dX6_placesFor_44 : decode cX6_placesFor 44 = .ok (.iconst 2, 1) := by decide +kernel
theorem dX6_placesFor_45 : decode cX6_placesFor 45 = .ok (.goto 4, 3) := by decide +kernel
theorem dX6_placesFor_48 : decode cX6_placesFor 48 = .ok (.iconst 0, 1) := by decide +kernel
theorem dX6_placesFor_49 : decode cX6_placesFor 49 = .ok (.ireturn, 1) := by decide +kernel
theorem dX6_placesFor_50 : decode cX6_placesFor 50 = .ok (.iload_n 1, 1) := by decide +kernel
theorem dX6_placesFor_51 : decode cX6_placesFor 51 = .ok (.iconst 3, 1) := by decide +kernel
theorem dX6_placesFor_52 : decode cX6_placesFor 52 = .ok (.if_icmp .ne 7, 3) := by decide +kernel
theorem dX6_placesFor_55 : decode cX6_placesFor 55 = .ok (.iconst 2, 1) := by decide +kernel
theorem dX6_placesFor_56 : decode cX6_placesFor 56 = .ok (.goto 13, 3) := by decide +kernel
theorem dX6_placesFor_59 : decode cX6_placesFor 59 = .ok (.iload_n 1, 1) := by decide +kernel
theorem dX6_placesFor_60 : decode cX6_placesFor 60 = .ok (.iconst 4, 1) := by decide +kernel
theorem dX6_placesFor_61 : decode cX6_placesFor 61 = .ok (.if_icmp .ne 7, 3) := by decide +kernel
theorem dX6_placesFor_64 : decode cX6_placesFor 64 = .ok (.iconst 1, 1) := by decide +kernel
theorem dX6_placesFor_65 : decode cX6_placesFor 65 = .ok (.goto 4, 3) := by decide +kernel
theorem dX6_placesFor_68 : decode cX6_placesFor 68 = .ok (.iconst 0, 1) := by decide +kernel
theorem dX6_placesFor_69 : decode cX6_placesFor 69 = .ok (.ireturn, 1) := by decide +kernel
theorem dX6_placesFor_70 : decode cX6_placesFor 70 = .ok (.iconst 0, 1) := by decide +kernel
theorem dX6_placesFor_71 : decode cX6_placesFor 71 = .ok (.ireturn, 1) := by decide +kernel
theorem dX6_inside_0 : decode cX6_inside 0 = .ok (.iconst 0, 1) := by decide +kernel
theorem dX6_inside_1 : decode cX6_inside 1 = .ok (.istore_n 3, 1) := by decide +kernel
theorem dX6_inside_2 : decode cX6_inside 2 = .ok (.iconst 0, 1) := by decide +kernel
theorem dX6_inside_3 : decode cX6_inside 3 = .ok (.istore 4, 2) := by decide +kernel
theorem dX6_inside_5 : decode cX6_inside 5 = .ok (.iload 4, 2) := by decide +kernel
theorem dX6_inside_7 : decode cX6_inside 7 = .ok (.aload_n 0, 1) := by decide +kernel
theorem dX6_inside_8 : decode cX6_inside 8 = .ok (.getfield 10, 3) := by decide +kernel
theorem dX6_inside_11 : decode cX6_inside 11 = .ok (.invokevirtual 52, 3) := by decide +kernel
theorem dX6_inside_14 : decode cX6_inside 14 = .ok (.if_icmp .ge 44, 3) := by decide +kernel
theorem dX6_inside_17 : decode cX6_inside 17 = .ok (.aload_n 0, 1) := by decide +kernel
theorem dX6_inside_18 : decode cX6_inside 18 = .ok (.getfield 10, 3) := by decide +kernel
theorem dX6_inside_21 : decode cX6_inside 21 = .ok (.iload 4, 2) := by decide +kernel
theorem dX6_inside_23 : decode cX6_inside 23 = .ok (.invokevirtual 171, 3) := by decide +kernel
theorem dX6_inside_26 : decode cX6_inside 26 = .ok (.checkcast 61, 3) := by decide +kernel
theorem dX6_inside_29 : decode cX6_inside 29 = .ok (.astore 5, 2) := by decide +kernel
theorem dX6_inside_31 : decode cX6_inside 31 = .ok (.aload 5, 2) := by decide +kernel
theorem dX6_inside_33 : decode cX6_inside 33 = .ok (.getfield 129, 3) := by decide +kernel
theorem dX6_inside_36 : decode cX6_inside 36 = .ok (.aload_n 1, 1) := by decide +kernel
theorem dX6_inside_37 : decode cX6_inside 37 = .ok (.if_acmp .ne 15, 3) := by decide +kernel
theorem dX6_inside_40 : decode cX6_inside 40 = .ok (.aload 5, 2) := by decide +kernel
theorem dX6_inside_42 : decode cX6_inside 42 = .ok (.getfield 87, 3) := by decide +kernel
theorem dX6_inside_45 : decode cX6_inside 45 = .ok (.iload_n 2, 1) := by decide +kernel
theorem dX6_inside_46 : decode cX6_inside 46 = .ok (.if_icmp .ne 6, 3) := by decide +kernel
theorem dX6_inside_49 : decode cX6_inside 49 = .ok (.iinc 3 1, 3) := by decide +kernel
theorem dX6_inside_52 : decode cX6_inside 52 = .ok (.iinc 4 1, 3) := by decide +kernel
theorem dX6_inside_55 : decode cX6_inside 55 = .ok (.goto (-50), 3) := by decide +kernel
theorem dX6_inside_58 : decode cX6_inside 58 = .ok (.iload_n 3, 1) := by decide +kernel
theorem dX6_inside_59 : decode cX6_inside 59 = .ok (.ireturn, 1) := by decide +kernel
theorem dX6_inside__0 : decode cX6_inside_ 0 = .ok (.iconst 0, 1) := by decide +kernel
theorem dX6_inside__1 : decode cX6_inside_ 1 = .ok (.istore_n 2, 1) := by decide +kernel
theorem dX6_inside__2 : decode cX6_inside_ 2 = .ok (.iconst 0, 1) := by decide +kernel
theorem dX6_inside__3 : decode cX6_inside_ 3 = .ok (.istore_n 3, 1) := by decide +kernel
theorem dX6_inside__4 : decode cX6_inside_ 4 = .ok (.iload_n 3, 1) := by decide +kernel
theorem dX6_inside__5 : decode cX6_inside_ 5 = .ok (.iconst 4, 1) := by decide +kernel
theorem dX6_inside__6 : decode cX6_inside_ 6 = .ok (.if_icmp .gt 18, 3) := by decide +kernel
theorem dX6_inside__9 : decode cX6_inside_ 9 = .ok (.iload_n 2, 1) := by decide +kernel
theorem dX6_inside__10 : decode cX6_inside_ 10 = .ok (.aload_n 0, 1) := by decide +kernel
theorem dX6_inside__11 : decode cX6_inside_ 11 = .ok (.aload_n 1, 1) := by decide +kernel
theorem dX6_inside__12 : decode cX6_inside_ 12 = .ok (.iload_n 3, 1) := by decide +kernel
theorem dX6_inside__13 : decode cX6_inside_ 13 = .ok (.invokevirtual 112, 3) := by decide +kernel
theorem dX6_inside__16 : decode cX6_inside_ 16 = .ok (.iadd, 1) := by decide +kernel
theorem dX6_inside__17 : decode cX6_inside_ 17 = .ok (.istore_n 2, 1) := by decide +kernel
theorem dX6_inside__18 : decode cX6_inside_ 18 = .ok (.iinc 3 1, 3) := by decide +kernel
theorem dX6_inside__21 : decode cX6_inside_ 21 = .ok (.goto (-17), 3) := by decide +kernel
theorem dX6_inside__24 : decode cX6_inside_ 24 = .ok (.iload_n 2, 1) := by decide +kernel
theorem dX6_inside__25 : decode cX6_inside_ 25 = .ok (.ireturn, 1) := by decide +kernel
theorem dX6_wheelIn_0 : decode cX6_wheelIn 0 = .ok (.iconst 0, 1) := by decide +kernel
theorem dX6_wheelIn_1 : decode cX6_wheelIn 1 = .ok (.istore_n 3, 1) := by decide +kernel
theorem dX6_wheelIn_2 : decode cX6_wheelIn 2 = .ok (.iconst 0, 1) := by decide +kernel
theorem dX6_wheelIn_3 : decode cX6_wheelIn 3 = .ok (.istore 4, 2) := by decide +kernel
theorem dX6_wheelIn_5 : decode cX6_wheelIn 5 = .ok (.iload 4, 2) := by decide +kernel
theorem dX6_wheelIn_7 : decode cX6_wheelIn 7 = .ok (.aload_n 0, 1) := by decide +kernel
theorem dX6_wheelIn_8 : decode cX6_wheelIn 8 = .ok (.getfield 10, 3) := by decide +kernel
theorem dX6_wheelIn_11 : decode cX6_wheelIn 11 = .ok (.invokevirtual 52, 3) := by decide +kernel
theorem dX6_wheelIn_14 : decode cX6_wheelIn 14 = .ok (.if_icmp .ge 54, 3) := by decide +kernel
theorem dX6_wheelIn_17 : decode cX6_wheelIn 17 = .ok (.aload_n 0, 1) := by decide +kernel
theorem dX6_wheelIn_18 : decode cX6_wheelIn 18 = .ok (.getfield 10, 3) := by decide +kernel
theorem dX6_wheelIn_21 : decode cX6_wheelIn 21 = .ok (.iload 4, 2) := by decide +kernel
theorem dX6_wheelIn_23 : decode cX6_wheelIn 23 = .ok (.invokevirtual 171, 3) := by decide +kernel
theorem dX6_wheelIn_26 : decode cX6_wheelIn 26 = .ok (.checkcast 61, 3) := by decide +kernel
theorem dX6_wheelIn_29 : decode cX6_wheelIn 29 = .ok (.astore 5, 2) := by decide +kernel
theorem dX6_wheelIn_31 : decode cX6_wheelIn 31 = .ok (.aload 5, 2) := by decide +kernel
theorem dX6_wheelIn_33 : decode cX6_wheelIn 33 = .ok (.getfield 129, 3) := by decide +kernel
theorem dX6_wheelIn_36 : decode cX6_wheelIn 36 = .ok (.aload_n 1, 1) := by decide +kernel
theorem dX6_wheelIn_37 : decode cX6_wheelIn 37 = .ok (.if_acmp .ne 25, 3) := by decide +kernel
theorem dX6_wheelIn_40 : decode cX6_wheelIn 40 = .ok (.aload 5, 2) := by decide +kernel
theorem dX6_wheelIn_42 : decode cX6_wheelIn 42 = .ok (.getfield 345, 3) := by decide +kernel
theorem dX6_wheelIn_45 : decode cX6_wheelIn 45 = .ok (.ifnull 17, 3) := by decide +kernel
theorem dX6_wheelIn_48 : decode cX6_wheelIn 48 = .ok (.iload_n 3, 1) := by decide +kernel
theorem dX6_wheelIn_49 : decode cX6_wheelIn 49 = .ok (.iload_n 2, 1) := by decide +kernel
theorem dX6_wheelIn_50 : decode cX6_wheelIn 50 = .ok (.if_icmp .ne 9, 3) := by decide +kernel
theorem dX6_wheelIn_53 : decode cX6_wheelIn 53 = .ok (.aload 5, 2) := by decide +kernel
theorem dX6_wheelIn_55 : decode cX6_wheelIn 55 = .ok (.getfield 345, 3) := by decide +kernel
theorem dX6_wheelIn_58 : decode cX6_wheelIn 58 = .ok (.areturn, 1) := by decide +kernel
theorem dX6_wheelIn_59 : decode cX6_wheelIn 59 = .ok (.iinc 3 1, 3) := by decide +kernel
theorem dX6_wheelIn_62 : decode cX6_wheelIn 62 = .ok (.iinc 4 1, 3) := by decide +kernel
theorem dX6_wheelIn_65 : decode cX6_wheelIn 65 = .ok (.goto (-60), 3) := by decide +kernel
theorem dX6_wheelIn_68 : decode cX6_wheelIn 68 = .ok (.aconst_null, 1) := by decide +kernel
theorem dX6_wheelIn_69 : decode cX6_wheelIn 69 = .ok (.areturn, 1) := by decide +kernel
theorem dX6_quarantineTree_0 : decode cX6_quarantineTree 0 = .ok (.iconst 0, 1) := by decide +kernel
theorem dX6_quarantineTree_1 : decode cX6_quarantineTree 1 = .ok (.istore_n 2, 1) := by decide +kernel
theorem dX6_quarantineTree_2 : decode cX6_quarantineTree 2 = .ok (.iload_n 2, 1) := by decide +kernel
theorem dX6_quarantineTree_3 : decode cX6_quarantineTree 3 = .ok (.aload_n 0, 1) := by decide +kernel
theorem dX6_quarantineTree_4 : decode cX6_quarantineTree 4 = .ok (.getfield 10, 3) := by decide +kernel
theorem dX6_quarantineTree_7 : decode cX6_quarantineTree 7 = .ok (.invokevirtual 52, 3) := by decide +kernel
theorem dX6_quarantineTree_10 : decode cX6_quarantineTree 10 = .ok (.if_icmp .ge 34, 3) := by decide +kernel
theorem dX6_quarantineTree_13 : decode cX6_quarantineTree 13 = .ok (.aload_n 0, 1) := by decide +kernel
theorem dX6_quarantineTree_14 : decode cX6_quarantineTree 14 = .ok (.getfield 10, 3) := by decide +kernel
theorem dX6_quarantineTree_17 : decode cX6_quarantineTree 17 = .ok (.iload_n 2, 1) := by decide +kernel
theorem dX6_quarantineTree_18 : decode cX6_quarantineTree 18 = .ok (.invokevirtual 171, 3) := by decide +kernel
theorem dX6_quarantineTree_21 : decode cX6_quarantineTree 21 = .ok (.checkcast 61, 3) := by decide +kernel
theorem dX6_quarantineTree_24 : decode cX6_quarantineTree 24 = .ok (.astore_n 3, 1) := by decide +kernel
theorem dX6_quarantineTree_25 : decode cX6_quarantineTree 25 = .ok (.aload_n 3, 1) := by decide +kernel
theorem dX6_quarantineTree_26 : decode cX6_quarantineTree 26 = .ok (.invokevirtual 137, 3) := by decide +kernel
theorem dX6_quarantineTree_29 : decode cX6_quarantineTree 29 = .ok (.aload_n 1, 1) := by decide +kernel
theorem dX6_quarantineTree_30 : decode cX6_quarantineTree 30 = .ok (.if_acmp .ne 8, 3) := by decide +kernel
theorem dX6_quarantineTree_33 : decode cX6_quarantineTree 33 = .ok (.aload_n 3, 1) := by decide +kernel
theorem dX6_quarantineTree_34 : decode cX6_quarantineTree 34 = .ok (.iconst 1, 1) := by decide +kernel
theorem dX6_quarantineTree_35 : decode cX6_quarantineTree 35 = .ok (.putfield 100, 3) := by decide +kernel
theorem dX6_quarantineTree_38 : decode cX6_quarantineTree 38 = .ok (.iinc 2 1, 3) := by decide +kernel
theorem dX6_quarantineTree_41 : decode cX6_quarantineTree 41 = .ok (.goto (-39), 3) := by decide +kernel
theorem dX6_quarantineTree_44 : decode cX6_quarantineTree 44 = .ok (.return_, 1) := by decide +kernel
theorem dX6_rubbing_0 : decode cX6_rubbing 0 = .ok (.iload_n 0, 1) := by decide +kernel
theorem dX6_rubbing_1 : decode cX6_rubbing 1 = .ok (.lookupswitch 31 #[(0, 27), (2, 29)], 27) := by decide +kernel
theorem dX6_rubbing_28 : decode cX6_rubbing 28 = .ok (.iconst 1, 1) := by decide +kernel
theorem dX6_rubbing_29 : decode cX6_rubbing 29 = .ok (.ireturn, 1) := by decide +kernel
theorem dX6_rubbing_30 : decode cX6_rubbing 30 = .ok (.iconst 3, 1) := by decide +kernel
theorem dX6_rubbing_31 : decode cX6_rubbing 31 = .ok (.ireturn, 1) := by decide +kernel
theorem dX6_rubbing_32 : decode cX6_rubbing 32 = .ok (.iconst 2, 1) := by decide +kernel
theorem dX6_rubbing_33 : decode cX6_rubbing 33 = .ok (.ireturn, 1) := by decide +kernel
theorem dX6_firstBar_0 : decode cX6_firstBar 0 = .ok (.iconst 1, 1) := by decide +kernel
theorem dX6_firstBar_1 : decode cX6_firstBar 1 = .ok (.istore_n 2, 1) := by decide +kernel
theorem dX6_firstBar_2 : decode cX6_firstBar 2 = .ok (.iload_n 2, 1) := by decide +kernel
theorem dX6_firstBar_3 : decode cX6_firstBar 3 = .ok (.bipush 7, 2) := by decide +kernel
theorem dX6_firstBar_5 : decode cX6_firstBar 5 = .ok (.if_icmp .gt 21, 3) := by decide +kernel
theorem dX6_firstBar_8 : decode cX6_firstBar 8 = .ok (.aload_n 0, 1) := by decide +kernel
theorem dX6_firstBar_9 : decode cX6_firstBar 9 = .ok (.aload_n 1, 1) := by decide +kernel
theorem dX6_firstBar_10 : decode cX6_firstBar 10 = .ok (.iload_n 2, 1) := by decide +kernel
theorem dX6_firstBar_11 : decode cX6_firstBar 11 = .ok (.invokevirtual 323, 3) := by decide +kernel
theorem dX6_firstBar_14 : decode cX6_firstBar 14 = .ok (.iconst (-1), 1) := by decide +kernel
theorem dX6_firstBar_15 : decode cX6_firstBar 15 = .ok (.if_icmp .eq 5, 3) := by decide +kernel
theorem dX6_firstBar_18 : decode cX6_firstBar 18 = .ok (.iload_n 2, 1) := by decide +kernel
theorem dX6_firstBar_19 : decode cX6_firstBar 19 = .ok (.ireturn, 1) := by decide +kernel
theorem dX6_firstBar_20 : decode cX6_firstBar 20 = .ok (.iinc 2 1, 3) := by decide +kernel
theorem dX6_firstBar_23 : decode cX6_firstBar 23 = .ok (.goto (-21), 3) := by decide +kernel
theorem dX6_firstBar_26 : decode cX6_firstBar 26 = .ok (.iconst 0, 1) := by decide +kernel
theorem dX6_firstBar_27 : decode cX6_firstBar 27 = .ok (.ireturn, 1) := by decide +kernel
theorem dX6_lowestBarring_0 : decode cX6_lowestBarring 0 = .ok (.iconst 0, 1) := by decide +kernel
theorem dX6_lowestBarring_1 : decode cX6_lowestBarring 1 = .ok (.istore_n 3, 1) := by decide +kernel
theorem dX6_lowestBarring_2 : decode cX6_lowestBarring 2 = .ok (.iload_n 3, 1) := by decide +kernel
theorem dX6_lowestBarring_3 : decode cX6_lowestBarring 3 = .ok (.aload_n 0, 1) := by decide +kernel
theorem dX6_lowestBarring_4 : decode cX6_lowestBarring 4 = .ok (.getfield 10, 3) := by decide +kernel
theorem dX6_lowestBarring_7 : decode cX6_lowestBarring 7 = .ok (.invokevirtual 52, 3) := by decide +kernel
theorem dX6_lowestBarring_10 : decode cX6_lowestBarring 10 = .ok (.if_icmp .ge 43, 3) := by decide +kernel
theorem dX6_lowestBarring_13 : decode cX6_lowestBarring 13 = .ok (.aload_n 0, 1) := by decide +kernel
theorem dX6_lowestBarring_14 : decode cX6_lowestBarring 14 = .ok (.getfield 10, 3) := by decide +kernel
theorem dX6_lowestBarring_17 : decode cX6_lowestBarring 17 = .ok (.iload_n 3, 1) := by decide +kernel
theorem dX6_lowestBarring_18 : decode cX6_lowestBarring 18 = .ok (.invokevirtual 171, 3) := by decide +kernel
theorem dX6_lowestBarring_21 : decode cX6_lowestBarring 21 = .ok (.checkcast 61, 3) := by decide +kernel
theorem dX6_lowestBarring_24 : decode cX6_lowestBarring 24 = .ok (.astore 4, 2) := by decide +kernel
theorem dX6_lowestBarring_26 : decode cX6_lowestBarring 26 = .ok (.aload 4, 2) := by decide +kernel
theorem dX6_lowestBarring_28 : decode cX6_lowestBarring 28 = .ok (.invokevirtual 137, 3) := by decide +kernel
theorem dX6_lowestBarring_31 : decode cX6_lowestBarring 31 = .ok (.aload_n 1, 1) := by decide +kernel
theorem dX6_lowestBarring_32 : decode cX6_lowestBarring 32 = .ok (.if_acmp .ne 15, 3) := by decide +kernel
theorem dX6_lowestBarring_35 : decode cX6_lowestBarring 35 = .ok (.aload_n 0, 1) := by decide +kernel
theorem dX6_lowestBarring_36 : decode cX6_lowestBarring 36 = .ok (.aload 4, 2) := by decide +kernel
theorem dX6_lowestBarring_38 : decode cX6_lowestBarring 38 = .ok (.iload_n 2, 1) := by decide +kernel
theorem dX6_lowestBarring_39 : decode cX6_lowestBarring 39 = .ok (.invokevirtual 351, 3) := by decide +kernel
theorem dX6_lowestBarring_42 : decode cX6_lowestBarring 42 = .ok (.ifCond .eq 5, 3) := by decide +kernel
theorem dX6_lowestBarring_45 : decode cX6_lowestBarring 45 = .ok (.iload_n 3, 1) := by decide +kernel
theorem dX6_lowestBarring_46 : decode cX6_lowestBarring 46 = .ok (.ireturn, 1) := by decide +kernel
theorem dX6_lowestBarring_47 : decode cX6_lowestBarring 47 = .ok (.iinc 3 1, 3) := by decide +kernel
theorem dX6_lowestBarring_50 : decode cX6_lowestBarring 50 = .ok (.goto (-48), 3) := by decide +kernel
theorem dX6_lowestBarring_53 : decode cX6_lowestBarring 53 = .ok (.iconst (-1), 1) := by decide +kernel
theorem dX6_lowestBarring_54 : decode cX6_lowestBarring 54 = .ok (.ireturn, 1) := by decide +kernel
theorem dX6_isSo_0 : decode cX6_isSo 0 = .ok (.iload_n 2, 1) := by decide +kernel
theorem dX6_isSo_1 : decode cX6_isSo 1 = .ok (.tableswitch 123 1 7 #[43, 49, 54, 59, 89, 112, 118], 43) := by decide +kernel
theorem dX6_isSo_44 : decode cX6_isSo 44 = .ok (.aload_n 0, 1) := by decide +kernel
theorem dX6_isSo_45 : decode cX6_isSo 45 = .ok (.aload_n 1, 1) := by decide +kernel
theorem dX6_isSo_46 : decode cX6_isSo 46 = .ok (.invokevirtual 355, 3) := by decide +kernel
theorem dX6_isSo_49 : decode cX6_isSo 49 = .ok (.ireturn, 1) := by decide +kernel
theorem dX6_isSo_50 : decode cX6_isSo 50 = .ok (.aload_n 1, 1) := by decide +kernel
theorem dX6_isSo_51 : decode cX6_isSo 51 = .ok (.getfield 100, 3) := by decide +kernel
theorem dX6_isSo_54 : decode cX6_isSo 54 = .ok (.ireturn, 1) := by decide +kernel
theorem dX6_isSo_55 : decode cX6_isSo 55 = .ok (.aload_n 1, 1) := by decide +kernel
theorem dX6_isSo_56 : decode cX6_isSo 56 = .ok (.getfield 248, 3) := by decide +kernel
theorem dX6_isSo_59 : decode cX6_isSo 59 = .ok (.ireturn, 1) := by decide +kernel
theorem dX6_isSo_60 : decode cX6_isSo 60 = .ok (.aload_n 1, 1) := by decide +kernel
theorem dX6_isSo_61 : decode cX6_isSo 61 = .ok (.getfield 232, 3) := by decide +kernel
theorem dX6_isSo_64 : decode cX6_isSo 64 = .ok (.getfield 73, 3) := by decide +kernel
theorem dX6_isSo_67 : decode cX6_isSo 67 = .ok (.ifCond .le 21, 3) := by decide +kernel
theorem dX6_isSo_70 : decode cX6_isSo 70 = .ok (.aload_n 1, 1) := by decide +kernel
theorem dX6_isSo_71 : decode cX6_isSo 71 = .ok (.getfield 242, 3) := by decide +kernel
theorem dX6_isSo_74 : decode cX6_isSo 74 = .ok (.aload_n 1, 1) := by decide +kernel
theorem dX6_isSo_75 : decode cX6_isSo 75 = .ok (.getfield 232, 3) := by decide +kernel
theorem dX6_isSo_78 : decode cX6_isSo 78 = .ok (.getfield 73, 3) := by decide +kernel
theorem dX6_isSo_81 : decode cX6_isSo 81 = .ok (.if_icmp .le 7, 3) := by decide +kernel
theorem dX6_isSo_84 : decode cX6_isSo 84 = .ok (.iconst 1, 1) := by decide +kernel
theorem dX6_isSo_85 : decode cX6_isSo 85 = .ok (.goto 4, 3) := by decide +kernel
theorem dX6_isSo_88 : decode cX6_isSo 88 = .ok (.iconst 0, 1) := by decide +kernel
theorem dX6_isSo_89 : decode cX6_isSo 89 = .ok (.ireturn, 1) := by decide +kernel
theorem dX6_isSo_90 : decode cX6_isSo 90 = .ok (.aload_n 1, 1) := by decide +kernel
theorem dX6_isSo_91 : decode cX6_isSo 91 = .ok (.getfield 345, 3) := by decide +kernel
theorem dX6_isSo_94 : decode cX6_isSo 94 = .ok (.ifnull 17, 3) := by decide +kernel
theorem dX6_isSo_97 : decode cX6_isSo 97 = .ok (.aload_n 1, 1) := by decide +kernel
theorem dX6_isSo_98 : decode cX6_isSo 98 = .ok (.getfield 345, 3) := by decide +kernel
theorem dX6_isSo_101 : decode cX6_isSo 101 = .ok (.invokevirtual 358, 3) := by decide +kernel
theorem dX6_isSo_104 : decode cX6_isSo 104 = .ok (.ifCond .eq 7, 3) := by decide +kernel
theorem dX6_isSo_107 : decode cX6_isSo 107 = .ok (.iconst 1, 1) := by decide +kernel
theorem dX6_isSo_108 : decode cX6_isSo 108 = .ok (.goto 4, 3) := by decide +kernel
theorem dX6_isSo_111 : decode cX6_isSo 111 = .ok (.iconst 0, 1) := by decide +kernel
theorem dX6_isSo_112 : decode cX6_isSo 112 = .ok (.ireturn, 1) := by decide +kernel
theorem dX6_isSo_113 : decode cX6_isSo 113 = .ok (.aload_n 0, 1) := by decide +kernel
theorem dX6_isSo_114 : decode cX6_isSo 114 = .ok (.aload_n 1, 1) := by decide +kernel
theorem dX6_isSo_115 : decode cX6_isSo 115 = .ok (.invokevirtual 361, 3) := by decide +kernel
theorem dX6_isSo_118 : decode cX6_isSo 118 = .ok (.ireturn, 1) := by decide +kernel
theorem dX6_isSo_119 : decode cX6_isSo 119 = .ok (.aload_n 1, 1) := by decide +kernel
theorem dX6_isSo_120 : decode cX6_isSo 120 = .ok (.invokevirtual 364, 3) := by decide +kernel
theorem dX6_isSo_123 : decode cX6_isSo 123 = .ok (.ireturn, 1) := by decide +kernel
theorem dX6_isSo_124 : decode cX6_isSo 124 = .ok (.iconst 0, 1) := by decide +kernel
theorem dX6_isSo_125 : decode cX6_isSo 125 = .ok (.ireturn, 1) := by decide +kernel
theorem dX6_hasEmptyPlace_0 : decode cX6_hasEmptyPlace 0 = .ok (.iconst 0, 1) := by decide +kernel
theorem dX6_hasEmptyPlace_1 : decode cX6_hasEmptyPlace 1 = .ok (.istore_n 2, 1) := by decide +kernel
theorem dX6_hasEmptyPlace_2 : decode cX6_hasEmptyPlace 2 = .ok (.iload_n 2, 1) := by decide +kernel
theorem dX6_hasEmptyPlace_3 : decode cX6_hasEmptyPlace 3 = .ok (.iconst 4, 1) := by decide +kernel
theorem dX6_hasEmptyPlace_4 : decode cX6_hasEmptyPlace 4 = .ok (.if_icmp .gt 28, 3) := by decide +kernel
theorem dX6_hasEmptyPlace_7 : decode cX6_hasEmptyPlace 7 = .ok (.aload_n 0, 1) := by decide +kernel
theorem dX6_hasEmptyPlace_8 : decode cX6_hasEmptyPlace 8 = .ok (.aload_n 1, 1) := by decide +kernel
theorem dX6_hasEmptyPlace_9 : decode cX6_hasEmptyPlace 9 = .ok (.iload_n 2, 1) := by decide +kernel
theorem dX6_hasEmptyPlace_10 : decode cX6_hasEmptyPlace 10 = .ok (.invokevirtual 112, 3) := by decide +kernel
theorem dX6_hasEmptyPlace_13 : decode cX6_hasEmptyPlace 13 = .ok (.aload_n 1, 1) := by decide +kernel
theorem dX6_hasEmptyPlace_14 : decode cX6_hasEmptyPlace 14 = .ok (.getfield 87, 3) := by decide +kernel
theorem dX6_hasEmptyPlace_17 : decode cX6_hasEmptyPlace 17 = .ok (.iload_n 2, 1) := by decide +kernel
theorem dX6_hasEmptyPlace_18 : decode cX6_hasEmptyPlace 18 = .ok (.invokestatic 90, 3) := by decide +kernel
theorem dX6_hasEmptyPlace_21 : decode cX6_hasEmptyPlace 21 = .ok (.if_icmp .ge 5, 3) := by decide +kernel
theorem dX6_hasEmptyPlace_24 : decode cX6_hasEmptyPlace 24 = .ok (.iconst 1, 1) := by decide +kernel
theorem dX6_hasEmptyPlace_25 : decode cX6_hasEmptyPlace 25 = .ok (.ireturn, 1) := by decide +kernel
theorem dX6_hasEmptyPlace_26 : decode cX6_hasEmptyPlace 26 = .ok (.iinc 2 1, 3) := by decide +kernel
theorem dX6_hasEmptyPlace_29 : decode cX6_hasEmptyPlace 29 = .ok (.goto (-27), 3) := by decide +kernel
theorem dX6_hasEmptyPlace_32 : decode cX6_hasEmptyPlace 32 = .ok (.iconst 0, 1) := by decide +kernel
theorem dX6_hasEmptyPlace_33 : decode cX6_hasEmptyPlace 33 = .ok (.ireturn, 1) := by decide +kernel
theorem dX6_isApart_0 : decode cX6_isApart 0 = .ok (.aload_n 1, 1) := by decide +kernel
theorem dX6_isApart_1 : decode cX6_isApart 1 = .ok (.getfield 87, 3) := by decide +kernel
theorem dX6_isApart_4 : decode cX6_isApart 4 = .ok (.iconst 2, 1) := by decide +kernel
theorem dX6_isApart_5 : decode cX6_isApart 5 = .ok (.if_icmp .ne 13, 3) := by decide +kernel
theorem dX6_isApart_8 : decode cX6_isApart 8 = .ok (.aload_n 0, 1) := by decide +kernel
theorem dX6_isApart_9 : decode cX6_isApart 9 = .ok (.aload_n 1, 1) := by decide +kernel
theorem dX6_isApart_10 : decode cX6_isApart 10 = .ok (.invokevirtual 367, 3) := by decide +kernel
theorem dX6_isApart_13 : decode cX6_isApart 13 = .ok (.bipush 20, 2) := by decide +kernel
theorem dX6_isApart_15 : decode cX6_isApart 15 = .ok (.if_icmp .gt 21, 3) := by decide +kernel
theorem dX6_isApart_18 : decode cX6_isApart 18 = .ok (.aload_n 1, 1) := by decide +kernel
theorem dX6_isApart_19 : decode cX6_isApart 19 = .ok (.getfield 87, 3) := by decide +kernel
theorem dX6_isApart_22 : decode cX6_isApart 22 = .ok (.iconst 1, 1) := by decide +kernel
theorem dX6_isApart_23 : decode cX6_isApart 23 = .ok (.if_icmp .ne 17, 3) := by decide +kernel
theorem dX6_isApart_26 : decode cX6_isApart 26 = .ok (.aload_n 0, 1) := by decide +kernel
theorem dX6_isApart_27 : decode cX6_isApart 27 = .ok (.aload_n 1, 1) := by decide +kernel
theorem dX6_isApart_28 : decode cX6_isApart 28 = .ok (.invokevirtual 367, 3) := by decide +kernel
theorem dX6_isApart_31 : decode cX6_isApart 31 = .ok (.bipush 60, 2) := by decide +kernel
theorem dX6_isApart_33 : decode cX6_isApart 33 = .ok (.if_icmp .le 7, 3) := by decide +kernel
theorem dX6_isApart_36 : decode cX6_isApart 36 = .ok (.iconst 1, 1) := by decide +kernel
theorem dX6_isApart_37 : decode cX6_isApart 37 = .ok (.goto 4, 3) := by decide +kernel
theorem dX6_isApart_40 : decode cX6_isApart 40 = .ok (.iconst 0, 1) := by decide +kernel
theorem dX6_isApart_41 : decode cX6_isApart 41 = .ok (.ireturn, 1) := by decide +kernel
theorem dX6_spreadIn_0 : decode cX6_spreadIn 0 = .ok (.sipush 9000, 3) := by decide +kernel
theorem dX6_spreadIn_3 : decode cX6_spreadIn 3 = .ok (.istore_n 2, 1) := by decide +kernel
theorem dX6_spreadIn_4 : decode cX6_spreadIn 4 = .ok (.iconst 0, 1) := by decide +kernel
theorem dX6_spreadIn_5 : decode cX6_spreadIn 5 = .ok (.istore_n 3, 1) := by decide +kernel
theorem dX6_spreadIn_6 : decode cX6_spreadIn 6 = .ok (.iconst 0, 1) := by decide +kernel
theorem dX6_spreadIn_7 : decode cX6_spreadIn 7 = .ok (.istore 4, 2) := by decide +kernel
theorem dX6_spreadIn_9 : decode cX6_spreadIn 9 = .ok (.iload 4, 2) := by decide +kernel
theorem dX6_spreadIn_11 : decode cX6_spreadIn 11 = .ok (.aload_n 0, 1) := by decide +kernel
theorem dX6_spreadIn_12 : decode cX6_spreadIn 12 = .ok (.getfield 10, 3) := by decide +kernel
theorem dX6_spreadIn_15 : decode cX6_spreadIn 15 = .ok (.invokevirtual 52, 3) := by decide +kernel
theorem dX6_spreadIn_18 : decode cX6_spreadIn 18 = .ok (.if_icmp .ge 66, 3) := by decide +kernel
theorem dX6_spreadIn_21 : decode cX6_spreadIn 21 = .ok (.aload_n 0, 1) := by decide +kernel
theorem dX6_spreadIn_22 : decode cX6_spreadIn 22 = .ok (.getfield 10, 3) := by decide +kernel
theorem dX6_spreadIn_25 : decode cX6_spreadIn 25 = .ok (.iload 4, 2) := by decide +kernel
theorem dX6_spreadIn_27 : decode cX6_spreadIn 27 = .ok (.invokevirtual 171, 3) := by decide +kernel
theorem dX6_spreadIn_30 : decode cX6_spreadIn 30 = .ok (.checkcast 61, 3) := by decide +kernel
theorem dX6_spreadIn_33 : decode cX6_spreadIn 33 = .ok (.astore 5, 2) := by decide +kernel
theorem dX6_spreadIn_35 : decode cX6_spreadIn 35 = .ok (.aload 5, 2) := by decide +kernel
theorem dX6_spreadIn_37 : decode cX6_spreadIn 37 = .ok (.getfield 345, 3) := by decide +kernel
theorem dX6_spreadIn_40 : decode cX6_spreadIn 40 = .ok (.ifnull 38, 3) := by decide +kernel
theorem dX6_spreadIn_43 : decode cX6_spreadIn 43 = .ok (.aload 5, 2) := by decide +kernel
theorem dX6_spreadIn_45 : decode cX6_spreadIn 45 = .ok (.aload_n 1, 1) := by decide +kernel
theorem dX6_spreadIn_46 : decode cX6_spreadIn 46 = .ok (.invokevirtual 370, 3) := by decide +kernel
theorem dX6_spreadIn_49 : decode cX6_spreadIn 49 = .ok (.ifCond .eq 29, 3) := by decide +kernel
theorem dX6_spreadIn_52 : decode cX6_spreadIn 52 = .ok (.iload_n 2, 1) := by decide +kernel
theorem dX6_spreadIn_53 : decode cX6_spreadIn 53 = .ok (.aload 5, 2) := by decide +kernel
theorem dX6_spreadIn_55 : decode cX6_spreadIn 55 = .ok (.getfield 345, 3) := by decide +kernel
theorem dX6_spreadIn_58 : decode cX6_spreadIn 58 = .ok (.getfield 196, 3) := by decide +kernel
theorem dX6_spreadIn_61 : decode cX6_spreadIn 61 = .ok (.invokestatic 204, 3) := by decide +kernel
theorem dX6_spreadIn_64 : decode cX6_spreadIn 64 = .ok (.istore_n 2, 1) := by decide +kernel
theorem dX6_spreadIn_65 : decode cX6_spreadIn 65 = .ok (.iload_n 3, 1) := by decide +kernel
theorem dX6_spreadIn_66 : decode cX6_spreadIn 66 = .ok (.aload 5, 2) := by decide +kernel
theorem dX6_spreadIn_68 : decode cX6_spreadIn 68 = .ok (.getfield 345, 3) := by decide +kernel
theorem dX6_spreadIn_71 : decode cX6_spreadIn 71 = .ok (.getfield 196, 3) := by decide +kernel
theorem dX6_spreadIn_74 : decode cX6_spreadIn 74 = .ok (.invokestatic 320, 3) := by decide +kernel
theorem dX6_spreadIn_77 : decode cX6_spreadIn 77 = .ok (.istore_n 3, 1) := by decide +kernel
theorem dX6_spreadIn_78 : decode cX6_spreadIn 78 = .ok (.iinc 4 1, 3) := by decide +kernel
theorem dX6_spreadIn_81 : decode cX6_spreadIn 81 = .ok (.goto (-72), 3) := by decide +kernel
theorem dX6_spreadIn_84 : decode cX6_spreadIn 84 = .ok (.iload_n 3, 1) := by decide +kernel
theorem dX6_spreadIn_85 : decode cX6_spreadIn 85 = .ok (.iload_n 2, 1) := by decide +kernel
theorem dX6_spreadIn_86 : decode cX6_spreadIn 86 = .ok (.isub, 1) := by decide +kernel
theorem dX6_spreadIn_87 : decode cX6_spreadIn 87 = .ok (.ireturn, 1) := by decide +kernel
theorem dJ6_bitCount_0f7a4_0 : decode cJ6_bitCount_0f7a4 0 = .ok (.iload_n 0, 1) := by decide +kernel
theorem dJ6_bitCount_0f7a4_1 : decode cJ6_bitCount_0f7a4 1 = .ok (.iload_n 0, 1) := by decide +kernel
theorem dJ6_bitCount_0f7a4_2 : decode cJ6_bitCount_0f7a4 2 = .ok (.iconst 1, 1) := by decide +kernel
theorem dJ6_bitCount_0f7a4_3 : decode cJ6_bitCount_0f7a4 3 = .ok (.iushr, 1) := by decide +kernel
theorem dJ6_bitCount_0f7a4_4 : decode cJ6_bitCount_0f7a4 4 = .ok (.ldc_w 265, 3) := by decide +kernel
theorem dJ6_bitCount_0f7a4_7 : decode cJ6_bitCount_0f7a4 7 = .ok (.iand, 1) := by decide +kernel
theorem dJ6_bitCount_0f7a4_8 : decode cJ6_bitCount_0f7a4 8 = .ok (.isub, 1) := by decide +kernel
theorem dJ6_bitCount_0f7a4_9 : decode cJ6_bitCount_0f7a4 9 = .ok (.istore_n 0, 1) := by decide +kernel
theorem dJ6_bitCount_0f7a4_10 : decode cJ6_bitCount_0f7a4 10 = .ok (.iload_n 0, 1) := by decide +kernel
theorem dJ6_bitCount_0f7a4_11 : decode cJ6_bitCount_0f7a4 11 = .ok (.ldc_w 266, 3) := by decide +kernel
theorem dJ6_bitCount_0f7a4_14 : decode cJ6_bitCount_0f7a4 14 = .ok (.iand, 1) := by decide +kernel
theorem dJ6_bitCount_0f7a4_15 : decode cJ6_bitCount_0f7a4 15 = .ok (.iload_n 0, 1) := by decide +kernel
theorem dJ6_bitCount_0f7a4_16 : decode cJ6_bitCount_0f7a4 16 = .ok (.iconst 2, 1) := by decide +kernel
theorem dJ6_bitCount_0f7a4_17 : decode cJ6_bitCount_0f7a4 17 = .ok (.iushr, 1) := by decide +kernel
theorem dJ6_bitCount_0f7a4_18 : decode cJ6_bitCount_0f7a4 18 = .ok (.ldc_w 266, 3) := by decide +kernel
theorem dJ6_bitCount_0f7a4_21 : decode cJ6_bitCount_0f7a4 21 = .ok (.iand, 1) := by decide +kernel
theorem dJ6_bitCount_0f7a4_22 : decode cJ6_bitCount_0f7a4 22 = .ok (.iadd, 1) := by decide +kernel
theorem dJ6_bitCount_0f7a4_23 : decode cJ6_bitCount_0f7a4 23 = .ok (.istore_n 0, 1) := by decide +kernel
theorem dJ6_bitCount_0f7a4_24 : decode cJ6_bitCount_0f7a4 24 = .ok (.iload_n 0, 1) := by decide +kernel
theorem dJ6_bitCount_0f7a4_25 : decode cJ6_bitCount_0f7a4 25 = .ok (.iload_n 0, 1) := by decide +kernel
theorem dJ6_bitCount_0f7a4_26 : decode cJ6_bitCount_0f7a4 26 = .ok (.iconst 4, 1) := by decide +kernel
theorem dJ6_bitCount_0f7a4_27 : decode cJ6_bitCount_0f7a4 27 = .ok (.iushr, 1) := by decide +kernel
theorem dJ6_bitCount_0f7a4_28 : decode cJ6_bitCount_0f7a4 28 = .ok (.iadd, 1) := by decide +kernel
theorem dJ6_bitCount_0f7a4_29 : decode cJ6_bitCount_0f7a4 29 = .ok (.ldc_w 267, 3) := by decide +kernel
theorem dJ6_bitCount_0f7a4_32 : decode cJ6_bitCount_0f7a4 32 = .ok (.iand, 1) := by decide +kernel
theorem dJ6_bitCount_0f7a4_33 : decode cJ6_bitCount_0f7a4 33 = .ok (.istore_n 0, 1) := by decide +kernel
theorem dJ6_bitCount_0f7a4_34 : decode cJ6_bitCount_0f7a4 34 = .ok (.iload_n 0, 1) := by decide +kernel
theorem dJ6_bitCount_0f7a4_35 : decode cJ6_bitCount_0f7a4 35 = .ok (.iload_n 0, 1) := by decide +kernel
theorem dJ6_bitCount_0f7a4_36 : decode cJ6_bitCount_0f7a4 36 = .ok (.bipush 8, 2) := by decide +kernel
theorem dJ6_bitCount_0f7a4_38 : decode cJ6_bitCount_0f7a4 38 = .ok (.iushr, 1) := by decide +kernel
theorem dJ6_bitCount_0f7a4_39 : decode cJ6_bitCount_0f7a4 39 = .ok (.iadd, 1) := by decide +kernel
theorem dJ6_bitCount_0f7a4_40 : decode cJ6_bitCount_0f7a4 40 = .ok (.istore_n 0, 1) := by decide +kernel
theorem dJ6_bitCount_0f7a4_41 : decode cJ6_bitCount_0f7a4 41 = .ok (.iload_n 0, 1) := by decide +kernel
theorem dJ6_bitCount_0f7a4_42 : decode cJ6_bitCount_0f7a4 42 = .ok (.iload_n 0, 1) := by decide +kernel
theorem dJ6_bitCount_0f7a4_43 : decode cJ6_bitCount_0f7a4 43 = .ok (.bipush 16, 2) := by decide +kernel
theorem dJ6_bitCount_0f7a4_45 : decode cJ6_bitCount_0f7a4 45 = .ok (.iushr, 1) := by decide +kernel
theorem dJ6_bitCount_0f7a4_46 : decode cJ6_bitCount_0f7a4 46 = .ok (.iadd, 1) := by decide +kernel
theorem dJ6_bitCount_0f7a4_47 : decode cJ6_bitCount_0f7a4 47 = .ok (.istore_n 0, 1) := by decide +kernel
theorem dJ6_bitCount_0f7a4_48 : decode cJ6_bitCount_0f7a4 48 = .ok (.iload_n 0, 1) := by decide +kernel
theorem dJ6_bitCount_0f7a4_49 : decode cJ6_bitCount_0f7a4 49 = .ok (.bipush 63, 2) := by decide +kernel
theorem dJ6_bitCount_0f7a4_51 : decode cJ6_bitCount_0f7a4 51 = .ok (.iand, 1) := by decide +kernel
theorem dJ6_bitCount_0f7a4_52 : decode cJ6_bitCount_0f7a4 52 = .ok (.ireturn, 1) := by decide +kernel
theorem dJ9_abs_0f7a4_0 : decode cJ9_abs_0f7a4 0 = .ok (.iload_n 0, 1) := by decide +kernel
theorem dJ9_abs_0f7a4_1 : decode cJ9_abs_0f7a4 1 = .ok (.ifCond .ge 8, 3) := by decide +kernel
theorem dJ9_abs_0f7a4_4 : decode cJ9_abs_0f7a4 4 = .ok (.iload_n 0, 1) := by decide +kernel
theorem dJ9_abs_0f7a4_5 : decode cJ9_abs_0f7a4 5 = .ok (.ineg, 1) := by decide +kernel
theorem dJ9_abs_0f7a4_6 : decode cJ9_abs_0f7a4 6 = .ok (.goto 4, 3) := by decide +kernel
theorem dJ9_abs_0f7a4_9 : decode cJ9_abs_0f7a4 9 = .ok (.iload_n 0, 1) := by decide +kernel
theorem dJ9_abs_0f7a4_10 : decode cJ9_abs_0f7a4 10 = .ok (.ireturn, 1) := by decide +kernel
theorem dJ9_max_7cf53_0 : decode cJ9_max_7cf53 0 = .ok (.iload_n 0, 1) := by decide +kernel
theorem dJ9_max_7cf53_1 : decode cJ9_max_7cf53 1 = .ok (.iload_n 1, 1) := by decide +kernel
theorem dJ9_max_7cf53_2 : decode cJ9_max_7cf53 2 = .ok (.if_icmp .lt 7, 3) := by decide +kernel
theorem dJ9_max_7cf53_5 : decode cJ9_max_7cf53 5 = .ok (.iload_n 0, 1) := by decide +kernel
theorem dJ9_max_7cf53_6 : decode cJ9_max_7cf53 6 = .ok (.goto 4, 3) := by decide +kernel
theorem dJ9_max_7cf53_9 : decode cJ9_max_7cf53 9 = .ok (.iload_n 1, 1) := by decide +kernel
theorem dJ9_max_7cf53_10 : decode cJ9_max_7cf53 10 = .ok (.ireturn, 1) := by decide +kernel
theorem dJ9_min_7cf53_0 : decode cJ9_min_7cf53 0 = .ok (.iload_n 0, 1) := by decide +kernel
theorem dJ9_min_7cf53_1 : decode cJ9_min_7cf53 1 = .ok (.iload_n 1, 1) := by decide +kernel
theorem dJ9_min_7cf53_2 : decode cJ9_min_7cf53 2 = .ok (.if_icmp .gt 7, 3) := by decide +kernel
theorem dJ9_min_7cf53_5 : decode cJ9_min_7cf53 5 = .ok (.iload_n 0, 1) := by decide +kernel
theorem dJ9_min_7cf53_6 : decode cJ9_min_7cf53 6 = .ok (.goto 4, 3) := by decide +kernel
theorem dJ9_min_7cf53_9 : decode cJ9_min_7cf53 9 = .ok (.iload_n 1, 1) := by decide +kernel
theorem dJ9_min_7cf53_10 : decode cJ9_min_7cf53 10 = .ok (.ireturn, 1) := by decide +kernel
theorem dJxa1e45_init_da8c8_0 : decode cJxa1e45_init_da8c8 0 = .ok (.aload_n 0, 1) := by decide +kernel
theorem dJxa1e45_init_da8c8_1 : decode cJxa1e45_init_da8c8 1 = .ok (.invokespecial 1, 3) := by decide +kernel
theorem dJxa1e45_init_da8c8_4 : decode cJxa1e45_init_da8c8 4 = .ok (.return_, 1) := by decide +kernel
theorem dJxc12de_init_da8c8_0 : decode cJxc12de_init_da8c8 0 = .ok (.aload_n 0, 1) := by decide +kernel
theorem dJxc12de_init_da8c8_1 : decode cJxc12de_init_da8c8 1 = .ok (.invokespecial 1, 3) := by decide +kernel
theorem dJxc12de_init_da8c8_4 : decode cJxc12de_init_da8c8 4 = .ok (.aload_n 0, 1) := by decide +kernel
theorem dJxc12de_init_da8c8_5 : decode cJxc12de_init_da8c8 5 = .ok (.iconst 0, 1) := by decide +kernel
theorem dJxc12de_init_da8c8_6 : decode cJxc12de_init_da8c8 6 = .ok (.putfield 7, 3) := by decide +kernel
theorem dJxc12de_init_da8c8_9 : decode cJxc12de_init_da8c8 9 = .ok (.return_, 1) := by decide +kernel
theorem dJx4a65c_init_da8c8_0 : decode cJx4a65c_init_da8c8 0 = .ok (.aload_n 0, 1) := by decide +kernel
theorem dJx4a65c_init_da8c8_1 : decode cJx4a65c_init_da8c8 1 = .ok (.invokespecial 1, 3) := by decide +kernel
theorem dJx4a65c_init_da8c8_4 : decode cJx4a65c_init_da8c8 4 = .ok (.aload_n 0, 1) := by decide +kernel
theorem dJx4a65c_init_da8c8_5 : decode cJx4a65c_init_da8c8 5 = .ok (.getstatic 39, 3) := by decide +kernel
theorem dJx4a65c_init_da8c8_8 : decode cJx4a65c_init_da8c8 8 = .ok (.putfield 9, 3) := by decide +kernel
theorem dJx4a65c_init_da8c8_11 : decode cJx4a65c_init_da8c8 11 = .ok (.return_, 1) := by decide +kernel
theorem dJx4a65c_grow_92f84_0 : decode cJx4a65c_grow_92f84 0 = .ok (.aload_n 0, 1) := by decide +kernel
theorem dJx4a65c_grow_92f84_1 : decode cJx4a65c_grow_92f84 1 = .ok (.getfield 9, 3) := by decide +kernel
theorem dJx4a65c_grow_92f84_4 : decode cJx4a65c_grow_92f84 4 = .ok (.arraylength, 1) := by decide +kernel
theorem dJx4a65c_grow_92f84_5 : decode cJx4a65c_grow_92f84 5 = .ok (.istore_n 2, 1) := by decide +kernel
theorem dJx4a65c_grow_92f84_6 : decode cJx4a65c_grow_92f84 6 = .ok (.iload_n 2, 1) := by decide +kernel
theorem dJx4a65c_grow_92f84_7 : decode cJx4a65c_grow_92f84 7 = .ok (.ifCond .gt 13, 3) := by decide +kernel
theorem dJx4a65c_grow_92f84_10 : decode cJx4a65c_grow_92f84 10 = .ok (.aload_n 0, 1) := by decide +kernel
theorem dJx4a65c_grow_92f84_11 : decode cJx4a65c_grow_92f84 11 = .ok (.getfield 9, 3) := by decide +kernel
theorem dJx4a65c_grow_92f84_14 : decode cJx4a65c_grow_92f84 14 = .ok (.getstatic 39, 3) := by decide +kernel
theorem dJx4a65c_grow_92f84_17 : decode cJx4a65c_grow_92f84 17 = .ok (.if_acmp .eq 28, 3) := by decide +kernel
theorem dJx4a65c_grow_92f84_20 : decode cJx4a65c_grow_92f84 20 = .ok (.iload_n 2, 1) := by decide +kernel
theorem dJx4a65c_grow_92f84_21 : decode cJx4a65c_grow_92f84 21 = .ok (.iload_n 1, 1) := by decide +kernel
theorem dJx4a65c_grow_92f84_22 : decode cJx4a65c_grow_92f84 22 = .ok (.iload_n 2, 1) := by decide +kernel
theorem dJx4a65c_grow_92f84_23 : decode cJx4a65c_grow_92f84 23 = .ok (.isub, 1) := by decide +kernel
theorem dJx4a65c_grow_92f84_24 : decode cJx4a65c_grow_92f84 24 = .ok (.iload_n 2, 1) := by decide +kernel
theorem dJx4a65c_grow_92f84_25 : decode cJx4a65c_grow_92f84 25 = .ok (.iconst 1, 1) := by decide +kernel
theorem dJx4a65c_grow_92f84_26 : decode cJx4a65c_grow_92f84 26 = .ok (.ishr, 1) := by decide +kernel
theorem dJx4a65c_grow_92f84_27 : decode cJx4a65c_grow_92f84 27 = .ok (.invokestatic 73, 3) := by decide +kernel
theorem dJx4a65c_grow_92f84_30 : decode cJx4a65c_grow_92f84 30 = .ok (.istore_n 3, 1) := by decide +kernel
theorem dJx4a65c_grow_92f84_31 : decode cJx4a65c_grow_92f84 31 = .ok (.aload_n 0, 1) := by decide +kernel
theorem dJx4a65c_grow_92f84_32 : decode cJx4a65c_grow_92f84 32 = .ok (.aload_n 0, 1) := by decide +kernel
theorem dJx4a65c_grow_92f84_33 : decode cJx4a65c_grow_92f84 33 = .ok (.getfield 9, 3) := by decide +kernel
theorem dJx4a65c_grow_92f84_36 : decode cJx4a65c_grow_92f84 36 = .ok (.iload_n 3, 1) := by decide +kernel
theorem dJx4a65c_grow_92f84_37 : decode cJx4a65c_grow_92f84 37 = .ok (.invokestatic 66, 3) := by decide +kernel
theorem dJx4a65c_grow_92f84_40 : decode cJx4a65c_grow_92f84 40 = .ok (.dup_x1, 1) := by decide +kernel
theorem dJx4a65c_grow_92f84_41 : decode cJx4a65c_grow_92f84 41 = .ok (.putfield 9, 3) := by decide +kernel
theorem dJx4a65c_grow_92f84_44 : decode cJx4a65c_grow_92f84 44 = .ok (.areturn, 1) := by decide +kernel
theorem dJx4a65c_grow_92f84_45 : decode cJx4a65c_grow_92f84 45 = .ok (.aload_n 0, 1) := by decide +kernel
theorem dJx4a65c_grow_92f84_46 : decode cJx4a65c_grow_92f84 46 = .ok (.bipush 10, 2) := by decide +kernel
theorem dJx4a65c_grow_92f84_48 : decode cJx4a65c_grow_92f84 48 = .ok (.iload_n 1, 1) := by decide +kernel
theorem dJx4a65c_grow_92f84_49 : decode cJx4a65c_grow_92f84 49 = .ok (.invokestatic 79, 3) := by decide +kernel
theorem dJx4a65c_grow_92f84_52 : decode cJx4a65c_grow_92f84 52 = .ok (.anewarray 7, 3) := by decide +kernel
theorem dJx4a65c_grow_92f84_55 : decode cJx4a65c_grow_92f84 55 = .ok (.dup_x1, 1) := by decide +kernel
theorem dJx4a65c_grow_92f84_56 : decode cJx4a65c_grow_92f84 56 = .ok (.putfield 9, 3) := by decide +kernel
theorem dJx4a65c_grow_92f84_59 : decode cJx4a65c_grow_92f84 59 = .ok (.areturn, 1) := by decide +kernel
theorem dJx4a65c_grow_d5877_0 : decode cJx4a65c_grow_d5877 0 = .ok (.aload_n 0, 1) := by decide +kernel
theorem dJx4a65c_grow_d5877_1 : decode cJx4a65c_grow_d5877 1 = .ok (.aload_n 0, 1) := by decide +kernel
theorem dJx4a65c_grow_d5877_2 : decode cJx4a65c_grow_d5877 2 = .ok (.getfield 48, 3) := by decide +kernel
theorem dJx4a65c_grow_d5877_5 : decode cJx4a65c_grow_d5877 5 = .ok (.iconst 1, 1) := by decide +kernel
theorem dJx4a65c_grow_d5877_6 : decode cJx4a65c_grow_d5877 6 = .ok (.iadd, 1) := by decide +kernel
theorem dJx4a65c_grow_d5877_7 : decode cJx4a65c_grow_d5877 7 = .ok (.invokevirtual 69, 3) := by decide +kernel
theorem dJx4a65c_grow_d5877_10 : decode cJx4a65c_grow_d5877 10 = .ok (.areturn, 1) := by decide +kernel
theorem dJx4a65c_size_8abf5_0 : decode cJx4a65c_size_8abf5 0 = .ok (.aload_n 0, 1) := by decide +kernel
theorem dJx4a65c_size_8abf5_1 : decode cJx4a65c_size_8abf5 1 = .ok (.getfield 48, 3) := by decide +kernel
theorem dJx4a65c_size_8abf5_4 : decode cJx4a65c_size_8abf5 4 = .ok (.ireturn, 1) := by decide +kernel
theorem dJx4a65c_isEmpty_aae02_0 : decode cJx4a65c_isEmpty_aae02 0 = .ok (.aload_n 0, 1) := by decide +kernel
theorem dJx4a65c_isEmpty_aae02_1 : decode cJx4a65c_isEmpty_aae02 1 = .ok (.getfield 48, 3) := by decide +kernel
theorem dJx4a65c_isEmpty_aae02_4 : decode cJx4a65c_isEmpty_aae02 4 = .ok (.ifCond .ne 7, 3) := by decide +kernel
theorem dJx4a65c_isEmpty_aae02_7 : decode cJx4a65c_isEmpty_aae02 7 = .ok (.iconst 1, 1) := by decide +kernel
theorem dJx4a65c_isEmpty_aae02_8 : decode cJx4a65c_isEmpty_aae02 8 = .ok (.goto 4, 3) := by decide +kernel
theorem dJx4a65c_isEmpty_aae02_11 : decode cJx4a65c_isEmpty_aae02 11 = .ok (.iconst 0, 1) := by decide +kernel
theorem dJx4a65c_isEmpty_aae02_12 : decode cJx4a65c_isEmpty_aae02 12 = .ok (.ireturn, 1) := by decide +kernel
theorem dJx4a65c_elementData_915e3_0 : decode cJx4a65c_elementData_915e3 0 = .ok (.aload_n 0, 1) := by decide +kernel
theorem dJx4a65c_elementData_915e3_1 : decode cJx4a65c_elementData_915e3 1 = .ok (.getfield 9, 3) := by decide +kernel
theorem dJx4a65c_elementData_915e3_4 : decode cJx4a65c_elementData_915e3 4 = .ok (.iload_n 1, 1) := by decide +kernel
theorem dJx4a65c_elementData_915e3_5 : decode cJx4a65c_elementData_915e3 5 = .ok (.aaload, 1) := by decide +kernel
theorem dJx4a65c_elementData_915e3_6 : decode cJx4a65c_elementData_915e3 6 = .ok (.areturn, 1) := by decide +kernel
theorem dJx4a65c_get_915e3_0 : decode cJx4a65c_get_915e3 0 = .ok (.iload_n 1, 1) := by decide +kernel
theorem dJx4a65c_get_915e3_1 : decode cJx4a65c_get_915e3 1 = .ok (.aload_n 0, 1) := by decide +kernel
theorem dJx4a65c_get_915e3_2 : decode cJx4a65c_get_915e3 2 = .ok (.getfield 48, 3) := by decide +kernel
theorem dJx4a65c_get_915e3_5 : decode cJx4a65c_get_915e3 5 = .ok (.invokestatic 118, 3) := by decide +kernel
theorem dJx4a65c_get_915e3_8 : decode cJx4a65c_get_915e3 8 = .ok (.pop, 1) := by decide +kernel
theorem dJx4a65c_get_915e3_9 : decode cJx4a65c_get_915e3 9 = .ok (.aload_n 0, 1) := by decide +kernel
theorem dJx4a65c_get_915e3_10 : decode cJx4a65c_get_915e3 10 = .ok (.iload_n 1, 1) := by decide +kernel
theorem dJx4a65c_get_915e3_11 : decode cJx4a65c_get_915e3 11 = .ok (.invokevirtual 123, 3) := by decide +kernel
theorem dJx4a65c_get_915e3_14 : decode cJx4a65c_get_915e3 14 = .ok (.areturn, 1) := by decide +kernel
theorem dJx4a65c_add_72be8_0 : decode cJx4a65c_add_72be8 0 = .ok (.iload_n 3, 1) := by decide +kernel
theorem dJx4a65c_add_72be8_1 : decode cJx4a65c_add_72be8 1 = .ok (.aload_n 2, 1) := by decide +kernel
theorem dJx4a65c_add_72be8_2 : decode cJx4a65c_add_72be8 2 = .ok (.arraylength, 1) := by decide +kernel
theorem dJx4a65c_add_72be8_3 : decode cJx4a65c_add_72be8 3 = .ok (.if_icmp .ne 8, 3) := by decide +kernel
theorem dJx4a65c_add_72be8_6 : decode cJx4a65c_add_72be8 6 = .ok (.aload_n 0, 1) := by decide +kernel
theorem dJx4a65c_add_72be8_7 : decode cJx4a65c_add_72be8 7 = .ok (.invokevirtual 129, 3) := by decide +kernel
theorem dJx4a65c_add_72be8_10 : decode cJx4a65c_add_72be8 10 = .ok (.astore_n 2, 1) := by decide +kernel
theorem dJx4a65c_add_72be8_11 : decode cJx4a65c_add_72be8 11 = .ok (.aload_n 2, 1) := by decide +kernel
theorem dJx4a65c_add_72be8_12 : decode cJx4a65c_add_72be8 12 = .ok (.iload_n 3, 1) := by decide +kernel
theorem dJx4a65c_add_72be8_13 : decode cJx4a65c_add_72be8 13 = .ok (.aload_n 1, 1) := by decide +kernel
theorem dJx4a65c_add_72be8_14 : decode cJx4a65c_add_72be8 14 = .ok (.aastore, 1) := by decide +kernel
theorem dJx4a65c_add_72be8_15 : decode cJx4a65c_add_72be8 15 = .ok (.aload_n 0, 1) := by decide +kernel
theorem dJx4a65c_add_72be8_16 : decode cJx4a65c_add_72be8 16 = .ok (.iload_n 3, 1) := by decide +kernel
theorem dJx4a65c_add_72be8_17 : decode cJx4a65c_add_72be8 17 = .ok (.iconst 1, 1) := by decide +kernel
theorem dJx4a65c_add_72be8_18 : decode cJx4a65c_add_72be8 18 = .ok (.iadd, 1) := by decide +kernel
theorem dJx4a65c_add_72be8_19 : decode cJx4a65c_add_72be8 19 = .ok (.putfield 48, 3) := by decide +kernel
theorem dJx4a65c_add_72be8_22 : decode cJx4a65c_add_72be8 22 = .ok (.return_, 1) := by decide +kernel
theorem dJx4a65c_add_9ea2d_0 : decode cJx4a65c_add_9ea2d 0 = .ok (.aload_n 0, 1) := by decide +kernel
theorem dJx4a65c_add_9ea2d_1 : decode cJx4a65c_add_9ea2d 1 = .ok (.dup, 1) := by decide +kernel
theorem dJx4a65c_add_9ea2d_2 : decode cJx4a65c_add_9ea2d 2 = .ok (.getfield 63, 3) := by decide +kernel
theorem dJx4a65c_add_9ea2d_5 : decode cJx4a65c_add_9ea2d 5 = .ok (.iconst 1, 1) := by decide +kernel
theorem dJx4a65c_add_9ea2d_6 : decode cJx4a65c_add_9ea2d 6 = .ok (.iadd, 1) := by decide +kernel
theorem dJx4a65c_add_9ea2d_7 : decode cJx4a65c_add_9ea2d 7 = .ok (.putfield 63, 3) := by decide +kernel
theorem dJx4a65c_add_9ea2d_10 : decode cJx4a65c_add_9ea2d 10 = .ok (.aload_n 0, 1) := by decide +kernel
theorem dJx4a65c_add_9ea2d_11 : decode cJx4a65c_add_9ea2d 11 = .ok (.aload_n 1, 1) := by decide +kernel
theorem dJx4a65c_add_9ea2d_12 : decode cJx4a65c_add_9ea2d 12 = .ok (.aload_n 0, 1) := by decide +kernel
theorem dJx4a65c_add_9ea2d_13 : decode cJx4a65c_add_9ea2d 13 = .ok (.getfield 9, 3) := by decide +kernel
theorem dJx4a65c_add_9ea2d_16 : decode cJx4a65c_add_9ea2d 16 = .ok (.aload_n 0, 1) := by decide +kernel
theorem dJx4a65c_add_9ea2d_17 : decode cJx4a65c_add_9ea2d 17 = .ok (.getfield 48, 3) := by decide +kernel
theorem dJx4a65c_add_9ea2d_20 : decode cJx4a65c_add_9ea2d 20 = .ok (.invokevirtual 131, 3) := by decide +kernel
theorem dJx4a65c_add_9ea2d_23 : decode cJx4a65c_add_9ea2d 23 = .ok (.iconst 1, 1) := by decide +kernel
theorem dJx4a65c_add_9ea2d_24 : decode cJx4a65c_add_9ea2d 24 = .ok (.ireturn, 1) := by decide +kernel
theorem dJx4a65c_remove_915e3_0 : decode cJx4a65c_remove_915e3 0 = .ok (.iload_n 1, 1) := by decide +kernel
theorem dJx4a65c_remove_915e3_1 : decode cJx4a65c_remove_915e3 1 = .ok (.aload_n 0, 1) := by decide +kernel
theorem dJx4a65c_remove_915e3_2 : decode cJx4a65c_remove_915e3 2 = .ok (.getfield 48, 3) := by decide +kernel
theorem dJx4a65c_remove_915e3_5 : decode cJx4a65c_remove_915e3 5 = .ok (.invokestatic 118, 3) := by decide +kernel
theorem dJx4a65c_remove_915e3_8 : decode cJx4a65c_remove_915e3 8 = .ok (.pop, 1) := by decide +kernel
theorem dJx4a65c_remove_915e3_9 : decode cJx4a65c_remove_915e3 9 = .ok (.aload_n 0, 1) := by decide +kernel
theorem dJx4a65c_remove_915e3_10 : decode cJx4a65c_remove_915e3 10 = .ok (.getfield 9, 3) := by decide +kernel
theorem dJx4a65c_remove_915e3_13 : decode cJx4a65c_remove_915e3 13 = .ok (.astore_n 2, 1) := by decide +kernel
theorem dJx4a65c_remove_915e3_14 : decode cJx4a65c_remove_915e3 14 = .ok (.aload_n 2, 1) := by decide +kernel
theorem dJx4a65c_remove_915e3_15 : decode cJx4a65c_remove_915e3 15 = .ok (.iload_n 1, 1) := by decide +kernel
theorem dJx4a65c_remove_915e3_16 : decode cJx4a65c_remove_915e3 16 = .ok (.aaload, 1) := by decide +kernel
theorem dJx4a65c_remove_915e3_17 : decode cJx4a65c_remove_915e3 17 = .ok (.astore_n 3, 1) := by decide +kernel
theorem dJx4a65c_remove_915e3_18 : decode cJx4a65c_remove_915e3 18 = .ok (.aload_n 0, 1) := by decide +kernel
theorem dJx4a65c_remove_915e3_19 : decode cJx4a65c_remove_915e3 19 = .ok (.aload_n 2, 1) := by decide +kernel
theorem dJx4a65c_remove_915e3_20 : decode cJx4a65c_remove_915e3 20 = .ok (.iload_n 1, 1) := by decide +kernel
theorem dJx4a65c_remove_915e3_21 : decode cJx4a65c_remove_915e3 21 = .ok (.invokevirtual 144, 3) := by decide +kernel
theorem dJx4a65c_remove_915e3_24 : decode cJx4a65c_remove_915e3 24 = .ok (.aload_n 3, 1) := by decide +kernel
theorem dJx4a65c_remove_915e3_25 : decode cJx4a65c_remove_915e3 25 = .ok (.areturn, 1) := by decide +kernel
theorem dJx4a65c_fastRemove_b59b0_0 : decode cJx4a65c_fastRemove_b59b0 0 = .ok (.aload_n 0, 1) := by decide +kernel
theorem dJx4a65c_fastRemove_b59b0_1 : decode cJx4a65c_fastRemove_b59b0 1 = .ok (.dup, 1) := by decide +kernel
theorem dJx4a65c_fastRemove_b59b0_2 : decode cJx4a65c_fastRemove_b59b0 2 = .ok (.getfield 63, 3) := by decide +kernel
theorem dJx4a65c_fastRemove_b59b0_5 : decode cJx4a65c_fastRemove_b59b0 5 = .ok (.iconst 1, 1) := by decide +kernel
theorem dJx4a65c_fastRemove_b59b0_6 : decode cJx4a65c_fastRemove_b59b0 6 = .ok (.iadd, 1) := by decide +kernel
theorem dJx4a65c_fastRemove_b59b0_7 : decode cJx4a65c_fastRemove_b59b0 7 = .ok (.putfield 63, 3) := by decide +kernel
theorem dJx4a65c_fastRemove_b59b0_10 : decode cJx4a65c_fastRemove_b59b0 10 = .ok (.aload_n 0, 1) := by decide +kernel
theorem dJx4a65c_fastRemove_b59b0_11 : decode cJx4a65c_fastRemove_b59b0 11 = .ok (.getfield 48, 3) := by decide +kernel
theorem dJx4a65c_fastRemove_b59b0_14 : decode cJx4a65c_fastRemove_b59b0 14 = .ok (.iconst 1, 1) := by decide +kernel
theorem dJx4a65c_fastRemove_b59b0_15 : decode cJx4a65c_fastRemove_b59b0 15 = .ok (.isub, 1) := by decide +kernel
theorem dJx4a65c_fastRemove_b59b0_16 : decode cJx4a65c_fastRemove_b59b0 16 = .ok (.dup, 1) := by decide +kernel
theorem dJx4a65c_fastRemove_b59b0_17 : decode cJx4a65c_fastRemove_b59b0 17 = .ok (.istore_n 3, 1) := by decide +kernel
theorem dJx4a65c_fastRemove_b59b0_18 : decode cJx4a65c_fastRemove_b59b0 18 = .ok (.iload_n 2, 1) := by decide +kernel
theorem dJx4a65c_fastRemove_b59b0_19 : decode cJx4a65c_fastRemove_b59b0 19 = .ok (.if_icmp .le 15, 3) := by decide +kernel
theorem dJx4a65c_fastRemove_b59b0_22 : decode cJx4a65c_fastRemove_b59b0 22 = .ok (.aload_n 1, 1) := by decide +kernel
theorem dJx4a65c_fastRemove_b59b0_23 : decode cJx4a65c_fastRemove_b59b0 23 = .ok (.iload_n 2, 1) := by decide +kernel
theorem dJx4a65c_fastRemove_b59b0_24 : decode cJx4a65c_fastRemove_b59b0 24 = .ok (.iconst 1, 1) := by decide +kernel
theorem dJx4a65c_fastRemove_b59b0_25 : decode cJx4a65c_fastRemove_b59b0 25 = .ok (.iadd, 1) := by decide +kernel
theorem dJx4a65c_fastRemove_b59b0_26 : decode cJx4a65c_fastRemove_b59b0 26 = .ok (.aload_n 1, 1) := by decide +kernel
theorem dJx4a65c_fastRemove_b59b0_27 : decode cJx4a65c_fastRemove_b59b0 27 = .ok (.iload_n 2, 1) := by decide +kernel
theorem dJx4a65c_fastRemove_b59b0_28 : decode cJx4a65c_fastRemove_b59b0 28 = .ok (.iload_n 3, 1) := by decide +kernel
theorem dJx4a65c_fastRemove_b59b0_29 : decode cJx4a65c_fastRemove_b59b0 29 = .ok (.iload_n 2, 1) := by decide +kernel
theorem dJx4a65c_fastRemove_b59b0_30 : decode cJx4a65c_fastRemove_b59b0 30 = .ok (.isub, 1) := by decide +kernel
theorem dJx4a65c_fastRemove_b59b0_31 : decode cJx4a65c_fastRemove_b59b0 31 = .ok (.invokestatic 112, 3) := by decide +kernel
theorem dJx4a65c_fastRemove_b59b0_34 : decode cJx4a65c_fastRemove_b59b0 34 = .ok (.aload_n 1, 1) := by decide +kernel
theorem dJx4a65c_fastRemove_b59b0_35 : decode cJx4a65c_fastRemove_b59b0 35 = .ok (.aload_n 0, 1) := by decide +kernel
theorem dJx4a65c_fastRemove_b59b0_36 : decode cJx4a65c_fastRemove_b59b0 36 = .ok (.iload_n 3, 1) := by decide +kernel
theorem dJx4a65c_fastRemove_b59b0_37 : decode cJx4a65c_fastRemove_b59b0 37 = .ok (.dup_x1, 1) := by decide +kernel
theorem dJx4a65c_fastRemove_b59b0_38 : decode cJx4a65c_fastRemove_b59b0 38 = .ok (.putfield 48, 3) := by decide +kernel
theorem dJx4a65c_fastRemove_b59b0_41 : decode cJx4a65c_fastRemove_b59b0 41 = .ok (.aconst_null, 1) := by decide +kernel
theorem dJx4a65c_fastRemove_b59b0_42 : decode cJx4a65c_fastRemove_b59b0 42 = .ok (.aastore, 1) := by decide +kernel
theorem dJx4a65c_fastRemove_b59b0_43 : decode cJx4a65c_fastRemove_b59b0 43 = .ok (.return_, 1) := by decide +kernel
theorem dJx4a65c_clear_da8c8_0 : decode cJx4a65c_clear_da8c8 0 = .ok (.aload_n 0, 1) := by decide +kernel
theorem dJx4a65c_clear_da8c8_1 : decode cJx4a65c_clear_da8c8 1 = .ok (.dup, 1) := by decide +kernel
theorem dJx4a65c_clear_da8c8_2 : decode cJx4a65c_clear_da8c8 2 = .ok (.getfield 63, 3) := by decide +kernel
theorem dJx4a65c_clear_da8c8_5 : decode cJx4a65c_clear_da8c8 5 = .ok (.iconst 1, 1) := by decide +kernel
theorem dJx4a65c_clear_da8c8_6 : decode cJx4a65c_clear_da8c8 6 = .ok (.iadd, 1) := by decide +kernel
theorem dJx4a65c_clear_da8c8_7 : decode cJx4a65c_clear_da8c8 7 = .ok (.putfield 63, 3) := by decide +kernel
theorem dJx4a65c_clear_da8c8_10 : decode cJx4a65c_clear_da8c8 10 = .ok (.aload_n 0, 1) := by decide +kernel
theorem dJx4a65c_clear_da8c8_11 : decode cJx4a65c_clear_da8c8 11 = .ok (.getfield 9, 3) := by decide +kernel
theorem dJx4a65c_clear_da8c8_14 : decode cJx4a65c_clear_da8c8 14 = .ok (.astore_n 1, 1) := by decide +kernel
theorem dJx4a65c_clear_da8c8_15 : decode cJx4a65c_clear_da8c8 15 = .ok (.aload_n 0, 1) := by decide +kernel
theorem dJx4a65c_clear_da8c8_16 : decode cJx4a65c_clear_da8c8 16 = .ok (.getfield 48, 3) := by decide +kernel
theorem dJx4a65c_clear_da8c8_19 : decode cJx4a65c_clear_da8c8 19 = .ok (.istore_n 2, 1) := by decide +kernel
theorem dJx4a65c_clear_da8c8_20 : decode cJx4a65c_clear_da8c8 20 = .ok (.aload_n 0, 1) := by decide +kernel
theorem dJx4a65c_clear_da8c8_21 : decode cJx4a65c_clear_da8c8 21 = .ok (.iconst 0, 1) := by decide +kernel
theorem dJx4a65c_clear_da8c8_22 : decode cJx4a65c_clear_da8c8 22 = .ok (.dup_x1, 1) := by decide +kernel
theorem dJx4a65c_clear_da8c8_23 : decode cJx4a65c_clear_da8c8 23 = .ok (.putfield 48, 3) := by decide +kernel
theorem dJx4a65c_clear_da8c8_26 : decode cJx4a65c_clear_da8c8 26 = .ok (.istore_n 3, 1) := by decide +kernel
theorem dJx4a65c_clear_da8c8_27 : decode cJx4a65c_clear_da8c8 27 = .ok (.iload_n 3, 1) := by decide +kernel
theorem dJx4a65c_clear_da8c8_28 : decode cJx4a65c_clear_da8c8 28 = .ok (.iload_n 2, 1) := by decide +kernel
theorem dJx4a65c_clear_da8c8_29 : decode cJx4a65c_clear_da8c8 29 = .ok (.if_icmp .ge 13, 3) := by decide +kernel
theorem dJx4a65c_clear_da8c8_32 : decode cJx4a65c_clear_da8c8 32 = .ok (.aload_n 1, 1) := by decide +kernel
theorem dJx4a65c_clear_da8c8_33 : decode cJx4a65c_clear_da8c8 33 = .ok (.iload_n 3, 1) := by decide +kernel
theorem dJx4a65c_clear_da8c8_34 : decode cJx4a65c_clear_da8c8 34 = .ok (.aconst_null, 1) := by decide +kernel
theorem dJx4a65c_clear_da8c8_35 : decode cJx4a65c_clear_da8c8 35 = .ok (.aastore, 1) := by decide +kernel
theorem dJx4a65c_clear_da8c8_36 : decode cJx4a65c_clear_da8c8 36 = .ok (.iinc 3 1, 3) := by decide +kernel
theorem dJx4a65c_clear_da8c8_39 : decode cJx4a65c_clear_da8c8 39 = .ok (.goto (-12), 3) := by decide +kernel
theorem dJx4a65c_clear_da8c8_42 : decode cJx4a65c_clear_da8c8 42 = .ok (.return_, 1) := by decide +kernel
theorem dJ7_copyOf_1904c_0 : decode cJ7_copyOf_1904c 0 = .ok (.aload_n 0, 1) := by decide +kernel
theorem dJ7_copyOf_1904c_1 : decode cJ7_copyOf_1904c 1 = .ok (.iload_n 1, 1) := by decide +kernel
theorem dJ7_copyOf_1904c_2 : decode cJ7_copyOf_1904c 2 = .ok (.aload_n 0, 1) := by decide +kernel
theorem dJ7_copyOf_1904c_3 : decode cJ7_copyOf_1904c 3 = .ok (.invokevirtual 86, 3) := by decide +kernel
theorem dJ7_copyOf_1904c_6 : decode cJ7_copyOf_1904c 6 = .ok (.invokestatic 300, 3) := by decide +kernel
theorem dJ7_copyOf_1904c_9 : decode cJ7_copyOf_1904c 9 = .ok (.areturn, 1) := by decide +kernel
theorem dJ7_copyOf_6403c_0 : decode cJ7_copyOf_6403c 0 = .ok (.aload_n 2, 1) := by decide +kernel
theorem dJ7_copyOf_6403c_1 : decode cJ7_copyOf_6403c 1 = .ok (.ldc 110, 2) := by decide +kernel
theorem dJ7_copyOf_6403c_3 : decode cJ7_copyOf_6403c 3 = .ok (.if_acmp .ne 10, 3) := by decide +kernel
theorem dJ7_copyOf_6403c_6 : decode cJ7_copyOf_6403c 6 = .ok (.iload_n 1, 1) := by decide +kernel
theorem dJ7_copyOf_6403c_7 : decode cJ7_copyOf_6403c 7 = .ok (.anewarray 2, 3) := by decide +kernel
theorem dJ7_copyOf_6403c_10 : decode cJ7_copyOf_6403c 10 = .ok (.goto 14, 3) := by decide +kernel
theorem dJ7_copyOf_6403c_13 : decode cJ7_copyOf_6403c 13 = .ok (.aload_n 2, 1) := by decide +kernel
theorem dJ7_copyOf_6403c_14 : decode cJ7_copyOf_6403c 14 = .ok (.invokevirtual 90, 3) := by decide +kernel
theorem dJ7_copyOf_6403c_17 : decode cJ7_copyOf_6403c 17 = .ok (.iload_n 1, 1) := by decide +kernel
theorem dJ7_copyOf_6403c_18 : decode cJ7_copyOf_6403c 18 = .ok (.invokestatic 95, 3) := by decide +kernel
theorem dJ7_copyOf_6403c_21 : decode cJ7_copyOf_6403c 21 = .ok (.checkcast 110, 3) := by decide +kernel
theorem dJ7_copyOf_6403c_24 : decode cJ7_copyOf_6403c 24 = .ok (.astore_n 3, 1) := by decide +kernel
theorem dJ7_copyOf_6403c_25 : decode cJ7_copyOf_6403c 25 = .ok (.aload_n 0, 1) := by decide +kernel
theorem dJ7_copyOf_6403c_26 : decode cJ7_copyOf_6403c 26 = .ok (.iconst 0, 1) := by decide +kernel
theorem dJ7_copyOf_6403c_27 : decode cJ7_copyOf_6403c 27 = .ok (.aload_n 3, 1) := by decide +kernel
theorem dJ7_copyOf_6403c_28 : decode cJ7_copyOf_6403c 28 = .ok (.iconst 0, 1) := by decide +kernel
theorem dJ7_copyOf_6403c_29 : decode cJ7_copyOf_6403c 29 = .ok (.aload_n 0, 1) := by decide +kernel
theorem dJ7_copyOf_6403c_30 : decode cJ7_copyOf_6403c 30 = .ok (.arraylength, 1) := by decide +kernel
theorem dJ7_copyOf_6403c_31 : decode cJ7_copyOf_6403c 31 = .ok (.iload_n 1, 1) := by decide +kernel
theorem dJ7_copyOf_6403c_32 : decode cJ7_copyOf_6403c 32 = .ok (.invokestatic 304, 3) := by decide +kernel
theorem dJ7_copyOf_6403c_35 : decode cJ7_copyOf_6403c 35 = .ok (.invokestatic 150, 3) := by decide +kernel
theorem dJ7_copyOf_6403c_38 : decode cJ7_copyOf_6403c 38 = .ok (.aload_n 3, 1) := by decide +kernel
theorem dJ7_copyOf_6403c_39 : decode cJ7_copyOf_6403c 39 = .ok (.areturn, 1) := by decide +kernel
theorem dJ15_checkIndex_7cf53_0 : decode cJ15_checkIndex_7cf53 0 = .ok (.iload_n 0, 1) := by decide +kernel
theorem dJ15_checkIndex_7cf53_1 : decode cJ15_checkIndex_7cf53 1 = .ok (.iload_n 1, 1) := by decide +kernel
theorem dJ15_checkIndex_7cf53_2 : decode cJ15_checkIndex_7cf53 2 = .ok (.aconst_null, 1) := by decide +kernel
theorem dJ15_checkIndex_7cf53_3 : decode cJ15_checkIndex_7cf53 3 = .ok (.invokestatic 105, 3) := by decide +kernel
theorem dJ15_checkIndex_7cf53_6 : decode cJ15_checkIndex_7cf53 6 = .ok (.ireturn, 1) := by decide +kernel
theorem dJ8_newLength_cabcc_0 : decode cJ8_newLength_cabcc 0 = .ok (.iload_n 0, 1) := by decide +kernel
theorem dJ8_newLength_cabcc_1 : decode cJ8_newLength_cabcc 1 = .ok (.iload_n 1, 1) := by decide +kernel
theorem dJ8_newLength_cabcc_2 : decode cJ8_newLength_cabcc 2 = .ok (.iload_n 2, 1) := by decide +kernel
theorem dJ8_newLength_cabcc_3 : decode cJ8_newLength_cabcc 3 = .ok (.invokestatic 194, 3) := by decide +kernel
theorem dJ8_newLength_cabcc_6 : decode cJ8_newLength_cabcc 6 = .ok (.iadd, 1) := by decide +kernel
theorem dJ8_newLength_cabcc_7 : decode cJ8_newLength_cabcc 7 = .ok (.istore_n 3, 1) := by decide +kernel
theorem dJ8_newLength_cabcc_8 : decode cJ8_newLength_cabcc 8 = .ok (.iconst 0, 1) := by decide +kernel
theorem dJ8_newLength_cabcc_9 : decode cJ8_newLength_cabcc 9 = .ok (.iload_n 3, 1) := by decide +kernel
theorem dJ8_newLength_cabcc_10 : decode cJ8_newLength_cabcc 10 = .ok (.if_icmp .ge 11, 3) := by decide +kernel
theorem dJ8_newLength_cabcc_13 : decode cJ8_newLength_cabcc 13 = .ok (.iload_n 3, 1) := by decide +kernel
theorem dJ8_newLength_cabcc_14 : decode cJ8_newLength_cabcc 14 = .ok (.ldc 200, 2) := by decide +kernel
theorem dJ8_newLength_cabcc_16 : decode cJ8_newLength_cabcc 16 = .ok (.if_icmp .gt 5, 3) := by decide +kernel
theorem dJ8_newLength_cabcc_19 : decode cJ8_newLength_cabcc 19 = .ok (.iload_n 3, 1) := by decide +kernel
theorem dJ8_newLength_cabcc_20 : decode cJ8_newLength_cabcc 20 = .ok (.ireturn, 1) := by decide +kernel
theorem dJ8_newLength_cabcc_21 : decode cJ8_newLength_cabcc 21 = .ok (.iload_n 0, 1) := by decide +kernel
theorem dJ8_newLength_cabcc_22 : decode cJ8_newLength_cabcc 22 = .ok (.iload_n 1, 1) := by decide +kernel
theorem dJ8_newLength_cabcc_23 : decode cJ8_newLength_cabcc 23 = .ok (.invokestatic 201, 3) := by decide +kernel
theorem dJ8_newLength_cabcc_26 : decode cJ8_newLength_cabcc 26 = .ok (.ireturn, 1) := by decide +kernel
theorem dJ3_checkIndex_8e157_0 : decode cJ3_checkIndex_8e157 0 = .ok (.iload_n 0, 1) := by decide +kernel
theorem dJ3_checkIndex_8e157_1 : decode cJ3_checkIndex_8e157 1 = .ok (.ifCond .lt 8, 3) := by decide +kernel
theorem dJ3_checkIndex_8e157_4 : decode cJ3_checkIndex_8e157 4 = .ok (.iload_n 0, 1) := by decide +kernel
theorem dJ3_checkIndex_8e157_5 : decode cJ3_checkIndex_8e157 5 = .ok (.iload_n 1, 1) := by decide +kernel
theorem dJ3_checkIndex_8e157_6 : decode cJ3_checkIndex_8e157 6 = .ok (.if_icmp .lt 10, 3) := by decide +kernel
theorem dJ3_checkIndex_8e157_9 : decode cJ3_checkIndex_8e157 9 = .ok (.aload_n 2, 1) := by decide +kernel
theorem dJ3_checkIndex_8e157_10 : decode cJ3_checkIndex_8e157 10 = .ok (.iload_n 0, 1) := by decide +kernel
theorem dJ3_checkIndex_8e157_11 : decode cJ3_checkIndex_8e157 11 = .ok (.iload_n 1, 1) := by decide +kernel
theorem dJ3_checkIndex_8e157_12 : decode cJ3_checkIndex_8e157 12 = .ok (.invokestatic 95, 3) := by decide +kernel
theorem dJ3_checkIndex_8e157_15 : decode cJ3_checkIndex_8e157 15 = .ok (.athrow, 1) := by decide +kernel
theorem dJ3_checkIndex_8e157_16 : decode cJ3_checkIndex_8e157 16 = .ok (.iload_n 0, 1) := by decide +kernel
theorem dJ3_checkIndex_8e157_17 : decode cJ3_checkIndex_8e157 17 = .ok (.ireturn, 1) := by decide +kernel
theorem dL_cell_0 : decode cL_cell 0 = .ok (.iload_n 1, 1) := by decide +kernel
theorem dL_cell_1 : decode cL_cell 1 = .ok (.aload_n 0, 1) := by decide +kernel
theorem dL_cell_2 : decode cL_cell 2 = .ok (.arraylength, 1) := by decide +kernel
theorem dL_cell_3 : decode cL_cell 3 = .ok (.if_icmp .ge 9, 3) := by decide +kernel
theorem dL_cell_6 : decode cL_cell 6 = .ok (.aload_n 0, 1) := by decide +kernel
theorem dL_cell_7 : decode cL_cell 7 = .ok (.iload_n 1, 1) := by decide +kernel
theorem dL_cell_8 : decode cL_cell 8 = .ok (.iaload, 1) := by decide +kernel
theorem dL_cell_9 : decode cL_cell 9 = .ok (.goto 15, 3) := by decide +kernel
theorem dL_cell_12 : decode cL_cell 12 = .ok (.sipush 7919, 3) := by decide +kernel
theorem dL_cell_15 : decode cL_cell 15 = .ok (.iload_n 1, 1) := by decide +kernel
theorem dL_cell_16 : decode cL_cell 16 = .ok (.iconst 3, 1) := by decide +kernel
theorem dL_cell_17 : decode cL_cell 17 = .ok (.iadd, 1) := by decide +kernel
theorem dL_cell_18 : decode cL_cell 18 = .ok (.imul, 1) := by decide +kernel
theorem dL_cell_19 : decode cL_cell 19 = .ok (.iload_n 1, 1) := by decide +kernel
theorem dL_cell_20 : decode cL_cell 20 = .ok (.bipush 11, 2) := by decide +kernel
theorem dL_cell_22 : decode cL_cell 22 = .ok (.iadd, 1) := by decide +kernel
theorem dL_cell_23 : decode cL_cell 23 = .ok (.imul, 1) := by decide +kernel
theorem dL_cell_24 : decode cL_cell 24 = .ok (.ireturn, 1) := by decide +kernel
theorem dL_low_0 : decode cL_low 0 = .ok (.iload_n 0, 1) := by decide +kernel
theorem dL_low_1 : decode cL_low 1 = .ok (.ldc 7, 2) := by decide +kernel
theorem dL_low_3 : decode cL_low 3 = .ok (.iand, 1) := by decide +kernel
theorem dL_low_4 : decode cL_low 4 = .ok (.iload_n 1, 1) := by decide +kernel
theorem dL_low_5 : decode cL_low 5 = .ok (.irem, 1) := by decide +kernel
theorem dL_low_6 : decode cL_low 6 = .ok (.ireturn, 1) := by decide +kernel
theorem dL_build_0 : decode cL_build 0 = .ok (.iconst 1, 1) := by decide +kernel
theorem dL_build_1 : decode cL_build 1 = .ok (.istore_n 1, 1) := by decide +kernel
theorem dL_build_2 : decode cL_build 2 = .ok (.iconst 0, 1) := by decide +kernel
theorem dL_build_3 : decode cL_build 3 = .ok (.istore_n 2, 1) := by decide +kernel
theorem dL_build_4 : decode cL_build 4 = .ok (.iload_n 2, 1) := by decide +kernel
theorem dL_build_5 : decode cL_build 5 = .ok (.bipush 19, 2) := by decide +kernel
theorem dL_build_7 : decode cL_build 7 = .ok (.if_icmp .ge 72, 3) := by decide +kernel
theorem dL_build_10 : decode cL_build 10 = .ok (.iload_n 2, 1) := by decide +kernel
theorem dL_build_11 : decode cL_build 11 = .ok (.ifCond .ne 7, 3) := by decide +kernel
theorem dL_build_14 : decode cL_build 14 = .ok (.iconst 0, 1) := by decide +kernel
theorem dL_build_15 : decode cL_build 15 = .ok (.goto 33, 3) := by decide +kernel
theorem dL_build_18 : decode cL_build 18 = .ok (.iload_n 2, 1) := by decide +kernel
theorem dL_build_19 : decode cL_build 19 = .ok (.iconst 3, 1) := by decide +kernel
theorem dL_build_20 : decode cL_build 20 = .ok (.if_icmp .ge 7, 3) := by decide +kernel
theorem dL_build_23 : decode cL_build 23 = .ok (.iconst 1, 1) := by decide +kernel
theorem dL_build_24 : decode cL_build 24 = .ok (.goto 24, 3) := by decide +kernel
theorem dL_build_27 : decode cL_build 27 = .ok (.iload_n 2, 1) := by decide +kernel
theorem dL_build_28 : decode cL_build 28 = .ok (.bipush 7, 2) := by decide +kernel
theorem dL_build_30 : decode cL_build 30 = .ok (.if_icmp .ge 7, 3) := by decide +kernel
theorem dL_build_33 : decode cL_build 33 = .ok (.iconst 2, 1) := by decide +kernel
theorem dL_build_34 : decode cL_build 34 = .ok (.goto 14, 3) := by decide +kernel
theorem dL_build_37 : decode cL_build 37 = .ok (.iload_n 2, 1) := by decide +kernel
theorem dL_build_38 : decode cL_build 38 = .ok (.bipush 15, 2) := by decide +kernel
theorem dL_build_40 : decode cL_build 40 = .ok (.if_icmp .ge 7, 3) := by decide +kernel
theorem dL_build_43 : decode cL_build 43 = .ok (.iconst 3, 1) := by decide +kernel
theorem dL_build_44 : decode cL_build 44 = .ok (.goto 4, 3) := by decide +kernel
theorem dL_build_47 : decode cL_build 47 = .ok (.iconst 4, 1) := by decide +kernel
theorem dL_build_48 : decode cL_build 48 = .ok (.istore_n 3, 1) := by decide +kernel
theorem dL_build_49 : decode cL_build 49 = .ok (.iload_n 1, 1) := by decide +kernel
theorem dL_build_50 : decode cL_build 50 = .ok (.ifCond .eq 21, 3) := by decide +kernel
theorem dL_build_53 : decode cL_build 53 = .ok (.aload_n 0, 1) := by decide +kernel
theorem dL_build_54 : decode cL_build 54 = .ok (.iload_n 3, 1) := by decide +kernel
theorem dL_build_55 : decode cL_build 55 = .ok (.iload_n 2, 1) := by decide +kernel
theorem dL_build_56 : decode cL_build 56 = .ok (.bipush 10, 2) := by decide +kernel
theorem dL_build_58 : decode cL_build 58 = .ok (.irem, 1) := by decide +kernel
theorem dL_build_59 : decode cL_build 59 = .ok (.iconst 1, 1) := by decide +kernel
theorem dL_build_60 : decode cL_build 60 = .ok (.invokevirtual 8, 3) := by decide +kernel
theorem dL_build_63 : decode cL_build 63 = .ok (.iload_n 2, 1) := by decide +kernel
theorem dL_build_64 : decode cL_build 64 = .ok (.if_icmp .ne 7, 3) := by decide +kernel
theorem dL_build_67 : decode cL_build 67 = .ok (.iconst 1, 1) := by decide +kernel
theorem dL_build_68 : decode cL_build 68 = .ok (.goto 4, 3) := by decide +kernel
theorem dL_build_71 : decode cL_build 71 = .ok (.iconst 0, 1) := by decide +kernel
theorem dL_build_72 : decode cL_build 72 = .ok (.istore_n 1, 1) := by decide +kernel
theorem dL_build_73 : decode cL_build 73 = .ok (.iinc 2 1, 3) := by decide +kernel
theorem dL_build_76 : decode cL_build 76 = .ok (.goto (-72), 3) := by decide +kernel
theorem dL_build_79 : decode cL_build 79 = .ok (.bipush 18, 2) := by decide +kernel
theorem dL_build_81 : decode cL_build 81 = .ok (.istore_n 2, 1) := by decide +kernel
theorem dL_build_82 : decode cL_build 82 = .ok (.iload_n 2, 1) := by decide +kernel
theorem dL_build_83 : decode cL_build 83 = .ok (.ifCond .le 84, 3) := by decide +kernel
theorem dL_build_86 : decode cL_build 86 = .ok (.iload_n 1, 1) := by decide +kernel
theorem dL_build_87 : decode cL_build 87 = .ok (.ifCond .eq 80, 3) := by decide +kernel
theorem dL_build_90 : decode cL_build 90 = .ok (.iload_n 2, 1) := by decide +kernel
theorem dL_build_91 : decode cL_build 91 = .ok (.iconst 3, 1) := by decide +kernel
theorem dL_build_92 : decode cL_build 92 = .ok (.if_icmp .ge 7, 3) := by decide +kernel
theorem dL_build_95 : decode cL_build 95 = .ok (.iconst 0, 1) := by decide +kernel
theorem dL_build_96 : decode cL_build 96 = .ok (.goto 40, 3) := by decide +kernel
theorem dL_build_99 : decode cL_build 99 = .ok (.iload_n 2, 1) := by decide +kernel
theorem dL_build_100 : decode cL_build 100 = .ok (.bipush 7, 2) := by decide +kernel
theorem dL_build_102 : decode cL_build 102 = .ok (.if_icmp .ge 13, 3) := by decide +kernel
theorem dL_build_105 : decode cL_build 105 = .ok (.iconst 1, 1) := by decide +kernel
theorem dL_build_106 : decode cL_build 106 = .ok (.iload_n 2, 1) := by decide +kernel
theorem dL_build_107 : decode cL_build 107 = .ok (.iconst 3, 1) := by decide +kernel
theorem dL_build_108 : decode cL_build 108 = .ok (.isub, 1) := by decide +kernel
theorem dL_build_109 : decode cL_build 109 = .ok (.iconst 2, 1) := by decide +kernel
theorem dL_build_110 : decode cL_build 110 = .ok (.idiv, 1) := by decide +kernel
theorem dL_build_111 : decode cL_build 111 = .ok (.iadd, 1) := by decide +kernel
theorem dL_build_112 : decode cL_build 112 = .ok (.goto 24, 3) := by decide +kernel
theorem dL_build_115 : decode cL_build 115 = .ok (.iload_n 2, 1) := by decide +kernel
theorem dL_build_116 : decode cL_build 116 = .ok (.bipush 15, 2) := by decide +kernel
theorem dL_build_118 : decode cL_build 118 = .ok (.if_icmp .ge 14, 3) := by decide +kernel
theorem dL_build_121 : decode cL_build 121 = .ok (.iconst 3, 1) := by decide +kernel
theorem dL_build_122 : decode cL_build 122 = .ok (.iload_n 2, 1) := by decide +kernel
theorem dL_build_123 : decode cL_build 123 = .ok (.bipush 7, 2) := by decide +kernel
theorem dL_build_125 : decode cL_build 125 = .ok (.isub, 1) := by decide +kernel
theorem dL_build_126 : decode cL_build 126 = .ok (.iconst 2, 1) := by decide +kernel
theorem dL_build_127 : decode cL_build 127 = .ok (.idiv, 1) := by decide +kernel
theorem dL_build_128 : decode cL_build 128 = .ok (.iadd, 1) := by decide +kernel
theorem dL_build_129 : decode cL_build 129 = .ok (.goto 7, 3) := by decide +kernel
theorem dL_build_132 : decode cL_build 132 = .ok (.iload_n 2, 1) := by decide +kernel
theorem dL_build_133 : decode cL_build 133 = .ok (.bipush 12, 2) := by decide +kernel
theorem dL_build_135 : decode cL_build 135 = .ok (.isub, 1) := by decide +kernel
theorem dL_build_136 : decode cL_build 136 = .ok (.istore_n 3, 1) := by decide +kernel
theorem dL_build_137 : decode cL_build 137 = .ok (.aload_n 0, 1) := by decide +kernel
theorem dL_build_138 : decode cL_build 138 = .ok (.iload_n 2, 1) := by decide +kernel
theorem dL_build_139 : decode cL_build 139 = .ok (.iload_n 3, 1) := by decide +kernel
theorem dL_build_140 : decode cL_build 140 = .ok (.invokevirtual 14, 3) := by decide +kernel
theorem dL_build_143 : decode cL_build 143 = .ok (.ifCond .le 16, 3) := by decide +kernel
theorem dL_build_146 : decode cL_build 146 = .ok (.aload_n 0, 1) := by decide +kernel
theorem dL_build_147 : decode cL_build 147 = .ok (.iload_n 2, 1) := by decide +kernel
theorem dL_build_148 : decode cL_build 148 = .ok (.invokevirtual 18, 3) := by decide +kernel
theorem dL_build_151 : decode cL_build 151 = .ok (.iload_n 3, 1) := by decide +kernel
theorem dL_build_152 : decode cL_build 152 = .ok (.if_icmp .ne 7, 3) := by decide +kernel
theorem dL_build_155 : decode cL_build 155 = .ok (.iconst 1, 1) := by decide +kernel
theorem dL_build_156 : decode cL_build 156 = .ok (.goto 4, 3) := by decide +kernel
theorem dL_build_159 : decode cL_build 159 = .ok (.iconst 0, 1) := by decide +kernel
theorem dL_build_160 : decode cL_build 160 = .ok (.istore_n 1, 1) := by decide +kernel
theorem dL_build_161 : decode cL_build 161 = .ok (.iinc 2 (-1), 3) := by decide +kernel
theorem dL_build_164 : decode cL_build 164 = .ok (.goto (-82), 3) := by decide +kernel
theorem dL_build_167 : decode cL_build 167 = .ok (.iload_n 1, 1) := by decide +kernel
theorem dL_build_168 : decode cL_build 168 = .ok (.ireturn, 1) := by decide +kernel
theorem dL_inside_0 : decode cL_inside 0 = .ok (.iconst 0, 1) := by decide +kernel
theorem dL_inside_1 : decode cL_inside 1 = .ok (.istore_n 3, 1) := by decide +kernel
theorem dL_inside_2 : decode cL_inside 2 = .ok (.iconst 0, 1) := by decide +kernel
theorem dL_inside_3 : decode cL_inside 3 = .ok (.istore 4, 2) := by decide +kernel
theorem dL_inside_5 : decode cL_inside 5 = .ok (.iload 4, 2) := by decide +kernel
theorem dL_inside_7 : decode cL_inside 7 = .ok (.bipush 23, 2) := by decide +kernel
theorem dL_inside_9 : decode cL_inside 9 = .ok (.if_icmp .ge 38, 3) := by decide +kernel
theorem dL_inside_12 : decode cL_inside 12 = .ok (.iload_n 3, 1) := by decide +kernel
theorem dL_inside_13 : decode cL_inside 13 = .ok (.aload_n 0, 1) := by decide +kernel
theorem dL_inside_14 : decode cL_inside 14 = .ok (.iload 4, 2) := by decide +kernel
theorem dL_inside_16 : decode cL_inside 16 = .ok (.invokevirtual 18, 3) := by decide +kernel
theorem dL_inside_19 : decode cL_inside 19 = .ok (.iload_n 1, 1) := by decide +kernel
theorem dL_inside_20 : decode cL_inside 20 = .ok (.if_icmp .ne 18, 3) := by decide +kernel
theorem dL_inside_23 : decode cL_inside 23 = .ok (.aload_n 0, 1) := by decide +kernel
theorem dL_inside_24 : decode cL_inside 24 = .ok (.iload 4, 2) := by decide +kernel
theorem dL_inside_26 : decode cL_inside 26 = .ok (.iconst 0, 1) := by decide +kernel
theorem dL_inside_27 : decode cL_inside 27 = .ok (.invokevirtual 22, 3) := by decide +kernel
theorem dL_inside_30 : decode cL_inside 30 = .ok (.iload_n 2, 1) := by decide +kernel
theorem dL_inside_31 : decode cL_inside 31 = .ok (.if_icmp .ne 7, 3) := by decide +kernel
theorem dL_inside_34 : decode cL_inside 34 = .ok (.iconst 1, 1) := by decide +kernel
theorem dL_inside_35 : decode cL_inside 35 = .ok (.goto 4, 3) := by decide +kernel
theorem dL_inside_38 : decode cL_inside 38 = .ok (.iconst 0, 1) := by decide +kernel
theorem dL_inside_39 : decode cL_inside 39 = .ok (.iadd, 1) := by decide +kernel
theorem dL_inside_40 : decode cL_inside 40 = .ok (.istore_n 3, 1) := by decide +kernel
theorem dL_inside_41 : decode cL_inside 41 = .ok (.iinc 4 1, 3) := by decide +kernel
theorem dL_inside_44 : decode cL_inside 44 = .ok (.goto (-39), 3) := by decide +kernel
theorem dL_inside_47 : decode cL_inside 47 = .ok (.iload_n 3, 1) := by decide +kernel
theorem dL_inside_48 : decode cL_inside 48 = .ok (.ireturn, 1) := by decide +kernel
theorem dL_room_0 : decode cL_room 0 = .ok (.iload_n 0, 1) := by decide +kernel
theorem dL_room_1 : decode cL_room 1 = .ok (.iconst 2, 1) := by decide +kernel
theorem dL_room_2 : decode cL_room 2 = .ok (.if_icmp .ge 14, 3) := by decide +kernel
theorem dL_room_5 : decode cL_room 5 = .ok (.iload_n 1, 1) := by decide +kernel
theorem dL_room_6 : decode cL_room 6 = .ok (.iload_n 0, 1) := by decide +kernel
theorem dL_room_7 : decode cL_room 7 = .ok (.iconst 1, 1) := by decide +kernel
theorem dL_room_8 : decode cL_room 8 = .ok (.iadd, 1) := by decide +kernel
theorem dL_room_9 : decode cL_room 9 = .ok (.if_icmp .ne 7, 3) := by decide +kernel
theorem dL_room_12 : decode cL_room 12 = .ok (.iconst 2, 1) := by decide +kernel
theorem dL_room_13 : decode cL_room 13 = .ok (.goto 32, 3) := by decide +kernel
theorem dL_room_16 : decode cL_room 16 = .ok (.iload_n 0, 1) := by decide +kernel
theorem dL_room_17 : decode cL_room 17 = .ok (.iconst 2, 1) := by decide +kernel
theorem dL_room_18 : decode cL_room 18 = .ok (.if_icmp .ne 12, 3) := by decide +kernel
theorem dL_room_21 : decode cL_room 21 = .ok (.iload_n 1, 1) := by decide +kernel
theorem dL_room_22 : decode cL_room 22 = .ok (.iconst 3, 1) := by decide +kernel
theorem dL_room_23 : decode cL_room 23 = .ok (.if_icmp .ne 7, 3) := by decide +kernel
theorem dL_room_26 : decode cL_room 26 = .ok (.iconst 2, 1) := by decide +kernel
theorem dL_room_27 : decode cL_room 27 = .ok (.goto 18, 3) := by decide +kernel
theorem dL_room_30 : decode cL_room 30 = .ok (.iload_n 0, 1) := by decide +kernel
theorem dL_room_31 : decode cL_room 31 = .ok (.iconst 2, 1) := by decide +kernel
theorem dL_room_32 : decode cL_room 32 = .ok (.if_icmp .ne 12, 3) := by decide +kernel
theorem dL_room_35 : decode cL_room 35 = .ok (.iload_n 1, 1) := by decide +kernel
theorem dL_room_36 : decode cL_room 36 = .ok (.iconst 4, 1) := by decide +kernel
theorem dL_room_37 : decode cL_room 37 = .ok (.if_icmp .ne 7, 3) := by decide +kernel
theorem dL_room_40 : decode cL_room 40 = .ok (.iconst 1, 1) := by decide +kernel
theorem dL_room_41 : decode cL_room 41 = .ok (.goto 4, 3) := by decide +kernel
theorem dL_room_44 : decode cL_room 44 = .ok (.iconst 0, 1) := by decide +kernel
theorem dL_room_45 : decode cL_room 45 = .ok (.ireturn, 1) := by decide +kernel
theorem dL_stands_0 : decode cL_stands 0 = .ok (.iconst 0, 1) := by decide +kernel
theorem dL_stands_1 : decode cL_stands 1 = .ok (.istore_n 2, 1) := by decide +kernel
theorem dL_stands_2 : decode cL_stands 2 = .ok (.iconst 0, 1) := by decide +kernel
theorem dL_stands_3 : decode cL_stands 3 = .ok (.istore_n 3, 1) := by decide +kernel
theorem dL_stands_4 : decode cL_stands 4 = .ok (.iload_n 3, 1) := by decide +kernel
theorem dL_stands_5 : decode cL_stands 5 = .ok (.iconst 3, 1) := by decide +kernel
theorem dL_stands_6 : decode cL_stands 6 = .ok (.if_icmp .ge 45, 3) := by decide +kernel
theorem dL_stands_9 : decode cL_stands 9 = .ok (.iconst 0, 1) := by decide +kernel
theorem dL_stands_10 : decode cL_stands 10 = .ok (.istore 4, 2) := by decide +kernel
theorem dL_stands_12 : decode cL_stands 12 = .ok (.iload 4, 2) := by decide +kernel
theorem dL_stands_14 : decode cL_stands 14 = .ok (.iconst 4, 1) := by decide +kernel
theorem dL_stands_15 : decode cL_stands 15 = .ok (.if_icmp .ge 30, 3) := by decide +kernel
theorem dL_stands_18 : decode cL_stands 18 = .ok (.iload_n 2, 1) := by decide +kernel
theorem dL_stands_19 : decode cL_stands 19 = .ok (.ifCond .ne 14, 3) := by decide +kernel
theorem dL_stands_22 : decode cL_stands 22 = .ok (.aload_n 0, 1) := by decide +kernel
theorem dL_stands_23 : decode cL_stands 23 = .ok (.iload_n 3, 1) := by decide +kernel
theorem dL_stands_24 : decode cL_stands 24 = .ok (.iload 4, 2) := by decide +kernel
theorem dL_stands_26 : decode cL_stands 26 = .ok (.invokevirtual 25, 3) := by decide +kernel
theorem dL_stands_29 : decode cL_stands 29 = .ok (.iload_n 1, 1) := by decide +kernel
theorem dL_stands_30 : decode cL_stands 30 = .ok (.if_icmp .ne 7, 3) := by decide +kernel
theorem dL_stands_33 : decode cL_stands 33 = .ok (.iconst 1, 1) := by decide +kernel
theorem dL_stands_34 : decode cL_stands 34 = .ok (.goto 4, 3) := by decide +kernel
theorem dL_stands_37 : decode cL_stands 37 = .ok (.iconst 0, 1) := by decide +kernel
theorem dL_stands_38 : decode cL_stands 38 = .ok (.istore_n 2, 1) := by decide +kernel
theorem dL_stands_39 : decode cL_stands 39 = .ok (.iinc 4 1, 3) := by decide +kernel
theorem dL_stands_42 : decode cL_stands 42 = .ok (.goto (-30), 3) := by decide +kernel
theorem dL_stands_45 : decode cL_stands 45 = .ok (.iinc 3 1, 3) := by decide +kernel
theorem dL_stands_48 : decode cL_stands 48 = .ok (.goto (-44), 3) := by decide +kernel
theorem dL_stands_51 : decode cL_stands 51 = .ok (.iload_n 2, 1) := by decide +kernel
theorem dL_stands_52 : decode cL_stands 52 = .ok (.ireturn, 1) := by decide +kernel
theorem dL_law_0 : decode cL_law 0 = .ok (.new 9, 3) := by decide +kernel
theorem dL_law_3 : decode cL_law 3 = .ok (.dup, 1) := by decide +kernel
theorem dL_law_4 : decode cL_law 4 = .ok (.invokespecial 28, 3) := by decide +kernel
theorem dL_law_7 : decode cL_law 7 = .ok (.astore_n 1, 1) := by decide +kernel
theorem dL_law_8 : decode cL_law 8 = .ok (.aload_n 1, 1) := by decide +kernel
theorem dL_law_9 : decode cL_law 9 = .ok (.invokestatic 29, 3) := by decide +kernel
theorem dL_law_12 : decode cL_law 12 = .ok (.istore_n 2, 1) := by decide +kernel
theorem dL_law_13 : decode cL_law 13 = .ok (.iload_n 2, 1) := by decide +kernel
theorem dL_law_14 : decode cL_law 14 = .ok (.ifCond .eq 56, 3) := by decide +kernel
theorem dL_law_17 : decode cL_law 17 = .ok (.aload_n 1, 1) := by decide +kernel
theorem dL_law_18 : decode cL_law 18 = .ok (.iconst 0, 1) := by decide +kernel
theorem dL_law_19 : decode cL_law 19 = .ok (.bipush 9, 2) := by decide +kernel
theorem dL_law_21 : decode cL_law 21 = .ok (.iconst 2, 1) := by decide +kernel
theorem dL_law_22 : decode cL_law 22 = .ok (.invokevirtual 8, 3) := by decide +kernel
theorem dL_law_25 : decode cL_law 25 = .ok (.bipush 19, 2) := by decide +kernel
theorem dL_law_27 : decode cL_law 27 = .ok (.if_icmp .ne 43, 3) := by decide +kernel
theorem dL_law_30 : decode cL_law 30 = .ok (.aload_n 1, 1) := by decide +kernel
theorem dL_law_31 : decode cL_law 31 = .ok (.iconst 3, 1) := by decide +kernel
theorem dL_law_32 : decode cL_law 32 = .ok (.iconst 1, 1) := by decide +kernel
theorem dL_law_33 : decode cL_law 33 = .ok (.iconst 1, 1) := by decide +kernel
theorem dL_law_34 : decode cL_law 34 = .ok (.invokevirtual 8, 3) := by decide +kernel
theorem dL_law_37 : decode cL_law 37 = .ok (.bipush 20, 2) := by decide +kernel
theorem dL_law_39 : decode cL_law 39 = .ok (.if_icmp .ne 31, 3) := by decide +kernel
theorem dL_law_42 : decode cL_law 42 = .ok (.aload_n 1, 1) := by decide +kernel
theorem dL_law_43 : decode cL_law 43 = .ok (.iconst 4, 1) := by decide +kernel
theorem dL_law_44 : decode cL_law 44 = .ok (.iconst 2, 1) := by decide +kernel
theorem dL_law_45 : decode cL_law 45 = .ok (.iconst 2, 1) := by decide +kernel
theorem dL_law_46 : decode cL_law 46 = .ok (.invokevirtual 8, 3) := by decide +kernel
theorem dL_law_49 : decode cL_law 49 = .ok (.bipush 21, 2) := by decide +kernel
theorem dL_law_51 : decode cL_law 51 = .ok (.if_icmp .ne 19, 3) := by decide +kernel
theorem dL_law_54 : decode cL_law 54 = .ok (.aload_n 1, 1) := by decide +kernel
theorem dL_law_55 : decode cL_law 55 = .ok (.iconst 1, 1) := by decide +kernel
theorem dL_law_56 : decode cL_law 56 = .ok (.iconst 3, 1) := by decide +kernel
theorem dL_law_57 : decode cL_law 57 = .ok (.iconst 3, 1) := by decide +kernel
theorem dL_law_58 : decode cL_law 58 = .ok (.invokevirtual 8, 3) := by decide +kernel
theorem dL_law_61 : decode cL_law 61 = .ok (.bipush 22, 2) := by decide +kernel
theorem dL_law_63 : decode cL_law 63 = .ok (.if_icmp .ne 7, 3) := by decide +kernel
theorem dL_law_66 : decode cL_law 66 = .ok (.iconst 1, 1) := by decide +kernel
theorem dL_law_67 : decode cL_law 67 = .ok (.goto 4, 3) := by decide +kernel
theorem dL_law_70 : decode cL_law 70 = .ok (.iconst 0, 1) := by decide +kernel
theorem dL_law_71 : decode cL_law 71 = .ok (.istore_n 2, 1) := by decide +kernel
theorem dL_law_72 : decode cL_law 72 = .ok (.aload_n 1, 1) := by decide +kernel
theorem dL_law_73 : decode cL_law 73 = .ok (.iconst 3, 1) := by decide +kernel
theorem dL_law_74 : decode cL_law 74 = .ok (.sipush 9000, 3) := by decide +kernel
theorem dL_law_77 : decode cL_law 77 = .ok (.sipush 1500, 3) := by decide +kernel
theorem dL_law_80 : decode cL_law 80 = .ok (.sipush 400, 3) := by decide +kernel
theorem dL_law_83 : decode cL_law 83 = .ok (.invokevirtual 35, 3) := by decide +kernel
theorem dL_law_86 : decode cL_law 86 = .ok (.pop, 1) := by decide +kernel
theorem dL_law_87 : decode cL_law 87 = .ok (.aload_n 0, 1) := by decide +kernel
theorem dL_law_88 : decode cL_law 88 = .ok (.arraylength, 1) := by decide +kernel
theorem dL_law_89 : decode cL_law 89 = .ok (.bipush 45, 2) := by decide +kernel
theorem dL_law_91 : decode cL_law 91 = .ok (.if_icmp .ge 8, 3) := by decide +kernel
theorem dL_law_94 : decode cL_law 94 = .ok (.aload_n 0, 1) := by decide +kernel
theorem dL_law_95 : decode cL_law 95 = .ok (.arraylength, 1) := by decide +kernel
theorem dL_law_96 : decode cL_law 96 = .ok (.goto 5, 3) := by decide +kernel
theorem dL_law_99 : decode cL_law 99 = .ok (.bipush 45, 2) := by decide +kernel
theorem dL_law_101 : decode cL_law 101 = .ok (.istore_n 3, 1) := by decide +kernel
theorem dL_law_102 : decode cL_law 102 = .ok (.iconst 0, 1) := by decide +kernel
theorem dL_law_103 : decode cL_law 103 = .ok (.istore 4, 2) := by decide +kernel
theorem dL_law_105 : decode cL_law 105 = .ok (.iconst 0, 1) := by decide +kernel
theorem dL_law_106 : decode cL_law 106 = .ok (.istore 5, 2) := by decide +kernel
theorem dL_law_108 : decode cL_law 108 = .ok (.iload 5, 2) := by decide +kernel
theorem dL_law_110 : decode cL_law 110 = .ok (.iload_n 3, 1) := by decide +kernel
theorem dL_law_111 : decode cL_law 111 = .ok (.if_icmp .ge 1651, 3) := by decide +kernel
theorem dL_law_114 : decode cL_law 114 = .ok (.iload_n 2, 1) := by decide +kernel
theorem dL_law_115 : decode cL_law 115 = .ok (.ifCond .eq 1647, 3) := by decide +kernel
theorem dL_law_118 : decode cL_law 118 = .ok (.aload_n 0, 1) := by decide +kernel
theorem dL_law_119 : decode cL_law 119 = .ok (.iload 5, 2) := by decide +kernel
theorem dL_law_121 : decode cL_law 121 = .ok (.invokestatic 39, 3) := by decide +kernel
theorem dL_law_124 : decode cL_law 124 = .ok (.istore 6, 2) := by decide +kernel
theorem dL_law_126 : decode cL_law 126 = .ok (.iload 6, 2) := by decide +kernel
theorem dL_law_128 : decode cL_law 128 = .ok (.bipush 13, 2) := by decide +kernel
theorem dL_law_130 : decode cL_law 130 = .ok (.invokestatic 43, 3) := by decide +kernel
theorem dL_law_133 : decode cL_law 133 = .ok (.istore 7, 2) := by decide +kernel
theorem dL_law_135 : decode cL_law 135 = .ok (.iload 6, 2) := by decide +kernel
theorem dL_law_137 : decode cL_law 137 = .ok (.iconst 4, 1) := by decide +kernel
theorem dL_law_138 : decode cL_law 138 = .ok (.ishr, 1) := by decide +kernel
theorem dL_law_139 : decode cL_law 139 = .ok (.bipush 23, 2) := by decide +kernel
theorem dL_law_141 : decode cL_law 141 = .ok (.invokestatic 43, 3) := by decide +kernel
theorem dL_law_144 : decode cL_law 144 = .ok (.istore 8, 2) := by decide +kernel
theorem dL_law_146 : decode cL_law 146 = .ok (.aload_n 1, 1) := by decide +kernel
theorem dL_law_147 : decode cL_law 147 = .ok (.iload 8, 2) := by decide +kernel
theorem dL_law_149 : decode cL_law 149 = .ok (.invokevirtual 18, 3) := by decide +kernel
theorem dL_law_152 : decode cL_law 152 = .ok (.istore 9, 2) := by decide +kernel
theorem dL_law_154 : decode cL_law 154 = .ok (.aload_n 1, 1) := by decide +kernel
theorem dL_law_155 : decode cL_law 155 = .ok (.aload_n 1, 1) := by decide +kernel
theorem dL_law_156 : decode cL_law 156 = .ok (.iload 8, 2) := by decide +kernel
theorem dL_law_158 : decode cL_law 158 = .ok (.invokevirtual 46, 3) := by decide +kernel
theorem dL_law_161 : decode cL_law 161 = .ok (.invokestatic 49, 3) := by decide +kernel
theorem dL_law_164 : decode cL_law 164 = .ok (.istore 10, 2) := by decide +kernel
theorem dL_law_166 : decode cL_law 166 = .ok (.iload 7, 2) := by decide +kernel
theorem dL_law_168 : decode cL_law 168 = .ok (.ifCond .ne 74, 3) := by decide +kernel
theorem dL_law_171 : decode cL_law 171 = .ok (.aload_n 1, 1) := by decide +kernel
theorem dL_law_172 : decode cL_law 172 = .ok (.iconst 0, 1) := by decide +kernel
theorem dL_law_173 : decode cL_law 173 = .ok (.invokevirtual 53, 3) := by decide +kernel
theorem dL_law_176 : decode cL_law 176 = .ok (.istore 11, 2) := by decide +kernel
theorem dL_law_178 : decode cL_law 178 = .ok (.aload_n 1, 1) := by decide +kernel
theorem dL_law_179 : decode cL_law 179 = .ok (.iconst 0, 1) := by decide +kernel
theorem dL_law_180 : decode cL_law 180 = .ok (.invokevirtual 56, 3) := by decide +kernel
theorem dL_law_183 : decode cL_law 183 = .ok (.iload 11, 2) := by decide +kernel
theorem dL_law_185 : decode cL_law 185 = .ok (.if_icmp .ne 52, 3) := by decide +kernel
theorem dL_law_188 : decode cL_law 188 = .ok (.aload_n 1, 1) := by decide +kernel
theorem dL_law_189 : decode cL_law 189 = .ok (.iconst 0, 1) := by decide +kernel
theorem dL_law_190 : decode cL_law 190 = .ok (.invokevirtual 59, 3) := by decide +kernel
theorem dL_law_193 : decode cL_law 193 = .ok (.iload 11, 2) := by decide +kernel
theorem dL_law_195 : decode cL_law 195 = .ok (.ifCond .ne 7, 3) := by decide +kernel
theorem dL_law_198 : decode cL_law 198 = .ok (.iconst 1, 1) := by decide +kernel
theorem dL_law_199 : decode cL_law 199 = .ok (.goto 4, 3) := by decide +kernel
theorem dL_law_202 : decode cL_law 202 = .ok (.iconst 0, 1) := by decide +kernel
theorem dL_law_203 : decode cL_law 203 = .ok (.if_icmp .ne 34, 3) := by decide +kernel
theorem dL_law_206 : decode cL_law 206 = .ok (.aload_n 1, 1) := by decide +kernel
theorem dL_law_207 : decode cL_law 207 = .ok (.iconst 0, 1) := by decide +kernel
theorem dL_law_208 : decode cL_law 208 = .ok (.invokevirtual 63, 3) := by decide +kernel
theorem dL_law_211 : decode cL_law 211 = .ok (.iconst (-1), 1) := by decide +kernel
theorem dL_law_212 : decode cL_law 212 = .ok (.if_icmp .ne 7, 3) := by decide +kernel
theorem dL_law_215 : decode cL_law 215 = .ok (.iconst 1, 1) := by decide +kernel
theorem dL_law_216 : decode cL_law 216 = .ok (.goto 4, 3) := by decide +kernel
theorem dL_law_219 : decode cL_law 219 = .ok (.iconst 0, 1) := by decide +kernel
theorem dL_law_220 : decode cL_law 220 = .ok (.iload 11, 2) := by decide +kernel
theorem dL_law_222 : decode cL_law 222 = .ok (.ifCond .ne 7, 3) := by decide +kernel
theorem dL_law_225 : decode cL_law 225 = .ok (.iconst 1, 1) := by decide +kernel
theorem dL_law_226 : decode cL_law 226 = .ok (.goto 4, 3) := by decide +kernel
theorem dL_law_229 : decode cL_law 229 = .ok (.iconst 0, 1) := by decide +kernel
theorem dL_law_230 : decode cL_law 230 = .ok (.if_icmp .ne 7, 3) := by decide +kernel
theorem dL_law_233 : decode cL_law 233 = .ok (.iconst 1, 1) := by decide +kernel
theorem dL_law_234 : decode cL_law 234 = .ok (.goto 4, 3) := by decide +kernel
theorem dL_law_237 : decode cL_law 237 = .ok (.iconst 0, 1) := by decide +kernel
theorem dL_law_238 : decode cL_law 238 = .ok (.istore_n 2, 1) := by decide +kernel
theorem dL_law_239 : decode cL_law 239 = .ok (.goto 1336, 3) := by decide +kernel
theorem dL_law_242 : decode cL_law 242 = .ok (.iload 7, 2) := by decide +kernel
theorem dL_law_244 : decode cL_law 244 = .ok (.iconst 4, 1) := by decide +kernel
theorem dL_law_245 : decode cL_law 245 = .ok (.if_icmp .ge 171, 3) := by decide +kernel
theorem dL_law_248 : decode cL_law 248 = .ok (.aload_n 1, 1) := by decide +kernel
theorem dL_law_249 : decode cL_law 249 = .ok (.iconst 0, 1) := by decide +kernel
theorem dL_law_250 : decode cL_law 250 = .ok (.invokevirtual 56, 3) := by decide +kernel
theorem dL_law_253 : decode cL_law 253 = .ok (.pop, 1) := by decide +kernel
theorem dL_law_254 : decode cL_law 254 = .ok (.aload_n 1, 1) := by decide +kernel
theorem dL_law_255 : decode cL_law 255 = .ok (.iconst 0, 1) := by decide +kernel
theorem dL_law_256 : decode cL_law 256 = .ok (.invokevirtual 59, 3) := by decide +kernel
theorem dL_law_259 : decode cL_law 259 = .ok (.ifCond .eq 1316, 3) := by decide +kernel
theorem dL_law_262 : decode cL_law 262 = .ok (.aload_n 1, 1) := by decide +kernel
theorem dL_law_263 : decode cL_law 263 = .ok (.iconst 0, 1) := by decide +kernel
theorem dL_law_264 : decode cL_law 264 = .ok (.invokestatic 49, 3) := by decide +kernel
theorem dL_law_267 : decode cL_law 267 = .ok (.ifCond .ne 1308, 3) := by decide +kernel
theorem dL_law_270 : decode cL_law 270 = .ok (.iconst 1, 1) := by decide +kernel
theorem dL_law_271 : decode cL_law 271 = .ok (.iload 6, 2) := by decide +kernel
theorem dL_law_273 : decode cL_law 273 = .ok (.iconst 4, 1) := by decide +kernel
theorem dL_law_274 : decode cL_law 274 = .ok (.ishr, 1) := by decide +kernel
theorem dL_law_275 : decode cL_law 275 = .ok (.sipush 900, 3) := by decide +kernel
theorem dL_law_278 : decode cL_law 278 = .ok (.invokestatic 43, 3) := by decide +kernel
theorem dL_law_281 : decode cL_law 281 = .ok (.iadd, 1) := by decide +kernel
theorem dL_law_282 : decode cL_law 282 = .ok (.istore 11, 2) := by decide +kernel
theorem dL_law_284 : decode cL_law 284 = .ok (.aload_n 1, 1) := by decide +kernel
theorem dL_law_285 : decode cL_law 285 = .ok (.bipush 7, 2) := by decide +kernel
theorem dL_law_287 : decode cL_law 287 = .ok (.iconst 3, 1) := by decide +kernel
theorem dL_law_288 : decode cL_law 288 = .ok (.invokevirtual 22, 3) := by decide +kernel
theorem dL_law_291 : decode cL_law 291 = .ok (.istore 12, 2) := by decide +kernel
theorem dL_law_293 : decode cL_law 293 = .ok (.aload_n 1, 1) := by decide +kernel
theorem dL_law_294 : decode cL_law 294 = .ok (.bipush 20, 2) := by decide +kernel
theorem dL_law_296 : decode cL_law 296 = .ok (.iconst 3, 1) := by decide +kernel
theorem dL_law_297 : decode cL_law 297 = .ok (.invokevirtual 22, 3) := by decide +kernel
theorem dL_law_300 : decode cL_law 300 = .ok (.istore 13, 2) := by decide +kernel
theorem dL_law_302 : decode cL_law 302 = .ok (.aload_n 1, 1) := by decide +kernel
theorem dL_law_303 : decode cL_law 303 = .ok (.bipush 20, 2) := by decide +kernel
theorem dL_law_305 : decode cL_law 305 = .ok (.invokevirtual 46, 3) := by decide +kernel
theorem dL_law_308 : decode cL_law 308 = .ok (.ifCond .ne 7, 3) := by decide +kernel
theorem dL_law_311 : decode cL_law 311 = .ok (.iconst 1, 1) := by decide +kernel
theorem dL_law_312 : decode cL_law 312 = .ok (.goto 4, 3) := by decide +kernel
theorem dL_law_315 : decode cL_law 315 = .ok (.iconst 0, 1) := by decide +kernel
theorem dL_law_316 : decode cL_law 316 = .ok (.istore 14, 2) := by decide +kernel
theorem dL_law_318 : decode cL_law 318 = .ok (.aload_n 1, 1) := by decide +kernel
theorem dL_law_319 : decode cL_law 319 = .ok (.bipush 7, 2) := by decide +kernel
theorem dL_law_321 : decode cL_law 321 = .ok (.invokevirtual 46, 3) := by decide +kernel
theorem dL_law_324 : decode cL_law 324 = .ok (.ifCond .ne 7, 3) := by decide +kernel
theorem dL_law_327 : decode cL_law 327 = .ok (.iconst 1, 1) := by decide +kernel
theorem dL_law_328 : decode cL_law 328 = .ok (.goto 4, 3) := by decide +kernel
theorem dL_law_331 : decode cL_law 331 = .ok (.iconst 0, 1) := by decide +kernel
theorem dL_law_332 : decode cL_law 332 = .ok (.istore 15, 2) := by decide +kernel
theorem dL_law_334 : decode cL_law 334 = .ok (.aload_n 1, 1) := by decide +kernel
theorem dL_law_335 : decode cL_law 335 = .ok (.iconst 0, 1) := by decide +kernel
theorem dL_law_336 : decode cL_law 336 = .ok (.iload 11, 2) := by decide +kernel
theorem dL_law_338 : decode cL_law 338 = .ok (.iload 6, 2) := by decide +kernel
theorem dL_law_340 : decode cL_law 340 = .ok (.bipush 6, 2) := by decide +kernel
theorem dL_law_342 : decode cL_law 342 = .ok (.ishr, 1) := by decide +kernel
theorem dL_law_343 : decode cL_law 343 = .ok (.iconst 4, 1) := by decide +kernel
theorem dL_law_344 : decode cL_law 344 = .ok (.invokestatic 43, 3) := by decide +kernel
theorem dL_law_347 : decode cL_law 347 = .ok (.invokevirtual 66, 3) := by decide +kernel
theorem dL_law_350 : decode cL_law 350 = .ok (.pop, 1) := by decide +kernel
theorem dL_law_351 : decode cL_law 351 = .ok (.aload_n 1, 1) := by decide +kernel
theorem dL_law_352 : decode cL_law 352 = .ok (.bipush 7, 2) := by decide +kernel
theorem dL_law_354 : decode cL_law 354 = .ok (.iconst 3, 1) := by decide +kernel
theorem dL_law_355 : decode cL_law 355 = .ok (.invokevirtual 22, 3) := by decide +kernel
theorem dL_law_358 : decode cL_law 358 = .ok (.iload 12, 2) := by decide +kernel
theorem dL_law_360 : decode cL_law 360 = .ok (.iload 15, 2) := by decide +kernel
theorem dL_law_362 : decode cL_law 362 = .ok (.ifCond .eq 8, 3) := by decide +kernel
theorem dL_law_365 : decode cL_law 365 = .ok (.iload 11, 2) := by decide +kernel
theorem dL_law_367 : decode cL_law 367 = .ok (.goto 4, 3) := by decide +kernel
theorem dL_law_370 : decode cL_law 370 = .ok (.iconst 0, 1) := by decide +kernel
theorem dL_law_371 : decode cL_law 371 = .ok (.iadd, 1) := by decide +kernel
theorem dL_law_372 : decode cL_law 372 = .ok (.if_icmp .ne 39, 3) := by decide +kernel
theorem dL_law_375 : decode cL_law 375 = .ok (.aload_n 1, 1) := by decide +kernel
theorem dL_law_376 : decode cL_law 376 = .ok (.bipush 20, 2) := by decide +kernel
theorem dL_law_378 : decode cL_law 378 = .ok (.iconst 3, 1) := by decide +kernel
theorem dL_law_379 : decode cL_law 379 = .ok (.invokevirtual 22, 3) := by decide +kernel
theorem dL_law_382 : decode cL_law 382 = .ok (.iload 13, 2) := by decide +kernel
theorem dL_law_384 : decode cL_law 384 = .ok (.iload 14, 2) := by decide +kernel
theorem dL_law_386 : decode cL_law 386 = .ok (.ifCond .eq 8, 3) := by decide +kernel
theorem dL_law_389 : decode cL_law 389 = .ok (.iload 11, 2) := by decide +kernel
theorem dL_law_391 : decode cL_law 391 = .ok (.goto 4, 3) := by decide +kernel
theorem dL_law_394 : decode cL_law 394 = .ok (.iconst 0, 1) := by decide +kernel
theorem dL_law_395 : decode cL_law 395 = .ok (.iadd, 1) := by decide +kernel
theorem dL_law_396 : decode cL_law 396 = .ok (.if_icmp .ne 15, 3) := by decide +kernel
theorem dL_law_399 : decode cL_law 399 = .ok (.aload_n 1, 1) := by decide +kernel
theorem dL_law_400 : decode cL_law 400 = .ok (.iconst 0, 1) := by decide +kernel
theorem dL_law_401 : decode cL_law 401 = .ok (.invokevirtual 59, 3) := by decide +kernel
theorem dL_law_404 : decode cL_law 404 = .ok (.ifCond .ne 7, 3) := by decide +kernel
theorem dL_law_407 : decode cL_law 407 = .ok (.iconst 1, 1) := by decide +kernel
theorem dL_law_408 : decode cL_law 408 = .ok (.goto 4, 3) := by decide +kernel
theorem dL_law_411 : decode cL_law 411 = .ok (.iconst 0, 1) := by decide +kernel
theorem dL_law_412 : decode cL_law 412 = .ok (.istore_n 2, 1) := by decide +kernel
theorem dL_law_413 : decode cL_law 413 = .ok (.goto 1162, 3) := by decide +kernel
theorem dL_law_416 : decode cL_law 416 = .ok (.iload 7, 2) := by decide +kernel
theorem dL_law_418 : decode cL_law 418 = .ok (.iconst 4, 1) := by decide +kernel
theorem dL_law_419 : decode cL_law 419 = .ok (.if_icmp .ne 137, 3) := by decide +kernel
theorem dL_law_422 : decode cL_law 422 = .ok (.iload 8, 2) := by decide +kernel
theorem dL_law_424 : decode cL_law 424 = .ok (.bipush 21, 2) := by decide +kernel
theorem dL_law_426 : decode cL_law 426 = .ok (.if_icmp .ne 58, 3) := by decide +kernel
theorem dL_law_429 : decode cL_law 429 = .ok (.iload 9, 2) := by decide +kernel
theorem dL_law_431 : decode cL_law 431 = .ok (.iconst (-1), 1) := by decide +kernel
theorem dL_law_432 : decode cL_law 432 = .ok (.if_icmp .ne 52, 3) := by decide +kernel
theorem dL_law_435 : decode cL_law 435 = .ok (.iload 6, 2) := by decide +kernel
theorem dL_law_437 : decode cL_law 437 = .ok (.bipush 9, 2) := by decide +kernel
theorem dL_law_439 : decode cL_law 439 = .ok (.ishr, 1) := by decide +kernel
theorem dL_law_440 : decode cL_law 440 = .ok (.iconst 3, 1) := by decide +kernel
theorem dL_law_441 : decode cL_law 441 = .ok (.invokestatic 43, 3) := by decide +kernel
theorem dL_law_444 : decode cL_law 444 = .ok (.ifCond .ne 40, 3) := by decide +kernel
theorem dL_law_447 : decode cL_law 447 = .ok (.aload_n 1, 1) := by decide +kernel
theorem dL_law_448 : decode cL_law 448 = .ok (.bipush 21, 2) := by decide +kernel
theorem dL_law_450 : decode cL_law 450 = .ok (.invokevirtual 69, 3) := by decide +kernel
theorem dL_law_453 : decode cL_law 453 = .ok (.aload_n 1, 1) := by decide +kernel
theorem dL_law_454 : decode cL_law 454 = .ok (.bipush 21, 2) := by decide +kernel
theorem dL_law_456 : decode cL_law 456 = .ok (.invokevirtual 18, 3) := by decide +kernel
theorem dL_law_459 : decode cL_law 459 = .ok (.bipush (-2), 2) := by decide +kernel
theorem dL_law_461 : decode cL_law 461 = .ok (.if_icmp .ne 18, 3) := by decide +kernel
theorem dL_law_464 : decode cL_law 464 = .ok (.aload_n 1, 1) := by decide +kernel
theorem dL_law_465 : decode cL_law 465 = .ok (.bipush 21, 2) := by decide +kernel
theorem dL_law_467 : decode cL_law 467 = .ok (.invokevirtual 46, 3) := by decide +kernel
theorem dL_law_470 : decode cL_law 470 = .ok (.bipush 21, 2) := by decide +kernel
theorem dL_law_472 : decode cL_law 472 = .ok (.if_icmp .ne 7, 3) := by decide +kernel
theorem dL_law_475 : decode cL_law 475 = .ok (.iconst 1, 1) := by decide +kernel
theorem dL_law_476 : decode cL_law 476 = .ok (.goto 4, 3) := by decide +kernel
theorem dL_law_479 : decode cL_law 479 = .ok (.iconst 0, 1) := by decide +kernel
theorem dL_law_480 : decode cL_law 480 = .ok (.istore_n 2, 1) := by decide +kernel
theorem dL_law_481 : decode cL_law 481 = .ok (.goto 1094, 3) := by decide +kernel
theorem dL_law_484 : decode cL_law 484 = .ok (.iload 9, 2) := by decide +kernel
theorem dL_law_486 : decode cL_law 486 = .ok (.ifCond .lt 1089, 3) := by decide +kernel
theorem dL_law_489 : decode cL_law 489 = .ok (.iload 10, 2) := by decide +kernel
theorem dL_law_491 : decode cL_law 491 = .ok (.ifCond .ne 1084, 3) := by decide +kernel
theorem dL_law_494 : decode cL_law 494 = .ok (.aload_n 1, 1) := by decide +kernel
theorem dL_law_495 : decode cL_law 495 = .ok (.iload 8, 2) := by decide +kernel
theorem dL_law_497 : decode cL_law 497 = .ok (.invokevirtual 46, 3) := by decide +kernel
theorem dL_law_500 : decode cL_law 500 = .ok (.istore 11, 2) := by decide +kernel
theorem dL_law_502 : decode cL_law 502 = .ok (.aload_n 1, 1) := by decide +kernel
theorem dL_law_503 : decode cL_law 503 = .ok (.iload 8, 2) := by decide +kernel
theorem dL_law_505 : decode cL_law 505 = .ok (.invokevirtual 73, 3) := by decide +kernel
theorem dL_law_508 : decode cL_law 508 = .ok (.iload 9, 2) := by decide +kernel
theorem dL_law_510 : decode cL_law 510 = .ok (.if_icmp .ne 41, 3) := by decide +kernel
theorem dL_law_513 : decode cL_law 513 = .ok (.aload_n 1, 1) := by decide +kernel
theorem dL_law_514 : decode cL_law 514 = .ok (.iload 8, 2) := by decide +kernel
theorem dL_law_516 : decode cL_law 516 = .ok (.invokevirtual 18, 3) := by decide +kernel
theorem dL_law_519 : decode cL_law 519 = .ok (.iconst (-1), 1) := by decide +kernel
theorem dL_law_520 : decode cL_law 520 = .ok (.if_icmp .ne 31, 3) := by decide +kernel
theorem dL_law_523 : decode cL_law 523 = .ok (.aload_n 1, 1) := by decide +kernel
theorem dL_law_524 : decode cL_law 524 = .ok (.iload 8, 2) := by decide +kernel
theorem dL_law_526 : decode cL_law 526 = .ok (.invokevirtual 46, 3) := by decide +kernel
theorem dL_law_529 : decode cL_law 529 = .ok (.iload 8, 2) := by decide +kernel
theorem dL_law_531 : decode cL_law 531 = .ok (.if_icmp .ne 20, 3) := by decide +kernel
theorem dL_law_534 : decode cL_law 534 = .ok (.iload 11, 2) := by decide +kernel
theorem dL_law_536 : decode cL_law 536 = .ok (.ifCond .ne 11, 3) := by decide +kernel
theorem dL_law_539 : decode cL_law 539 = .ok (.aload_n 1, 1) := by decide +kernel
theorem dL_law_540 : decode cL_law 540 = .ok (.iconst 0, 1) := by decide +kernel
theorem dL_law_541 : decode cL_law 541 = .ok (.invokevirtual 59, 3) := by decide +kernel
theorem dL_law_544 : decode cL_law 544 = .ok (.ifCond .ne 7, 3) := by decide +kernel
theorem dL_law_547 : decode cL_law 547 = .ok (.iconst 1, 1) := by decide +kernel
theorem dL_law_548 : decode cL_law 548 = .ok (.goto 4, 3) := by decide +kernel
theorem dL_law_551 : decode cL_law 551 = .ok (.iconst 0, 1) := by decide +kernel
theorem dL_law_552 : decode cL_law 552 = .ok (.istore_n 2, 1) := by decide +kernel
theorem dL_law_553 : decode cL_law 553 = .ok (.goto 1022, 3) := by decide +kernel
theorem dL_law_556 : decode cL_law 556 = .ok (.iload 7, 2) := by decide +kernel
theorem dL_law_558 : decode cL_law 558 = .ok (.iconst 5, 1) := by decide +kernel
theorem dL_law_559 : decode cL_law 559 = .ok (.if_icmp .ne 197, 3) := by decide +kernel
theorem dL_law_562 : decode cL_law 562 = .ok (.iload 6, 2) := by decide +kernel
theorem dL_law_564 : decode cL_law 564 = .ok (.bipush 9, 2) := by decide +kernel
theorem dL_law_566 : decode cL_law 566 = .ok (.ishr, 1) := by decide +kernel
theorem dL_law_567 : decode cL_law 567 = .ok (.bipush 23, 2) := by decide +kernel
theorem dL_law_569 : decode cL_law 569 = .ok (.invokestatic 43, 3) := by decide +kernel
theorem dL_law_572 : decode cL_law 572 = .ok (.istore 11, 2) := by decide +kernel
theorem dL_law_574 : decode cL_law 574 = .ok (.aload_n 1, 1) := by decide +kernel
theorem dL_law_575 : decode cL_law 575 = .ok (.iload 8, 2) := by decide +kernel
theorem dL_law_577 : decode cL_law 577 = .ok (.iconst 0, 1) := by decide +kernel
theorem dL_law_578 : decode cL_law 578 = .ok (.invokevirtual 22, 3) := by decide +kernel
theorem dL_law_581 : decode cL_law 581 = .ok (.istore 12, 2) := by decide +kernel
theorem dL_law_583 : decode cL_law 583 = .ok (.aload_n 1, 1) := by decide +kernel
theorem dL_law_584 : decode cL_law 584 = .ok (.iload 8, 2) := by decide +kernel
theorem dL_law_586 : decode cL_law 586 = .ok (.iconst 2, 1) := by decide +kernel
theorem dL_law_587 : decode cL_law 587 = .ok (.invokevirtual 22, 3) := by decide +kernel
theorem dL_law_590 : decode cL_law 590 = .ok (.aload_n 1, 1) := by decide +kernel
theorem dL_law_591 : decode cL_law 591 = .ok (.iload 11, 2) := by decide +kernel
theorem dL_law_593 : decode cL_law 593 = .ok (.iconst 2, 1) := by decide +kernel
theorem dL_law_594 : decode cL_law 594 = .ok (.invokevirtual 22, 3) := by decide +kernel
theorem dL_law_597 : decode cL_law 597 = .ok (.isub, 1) := by decide +kernel
theorem dL_law_598 : decode cL_law 598 = .ok (.istore 13, 2) := by decide +kernel
theorem dL_law_600 : decode cL_law 600 = .ok (.iload 9, 2) := by decide +kernel
theorem dL_law_602 : decode cL_law 602 = .ok (.iconst (-1), 1) := by decide +kernel
theorem dL_law_603 : decode cL_law 603 = .ok (.if_icmp .ne 55, 3) := by decide +kernel
theorem dL_law_606 : decode cL_law 606 = .ok (.aload_n 1, 1) := by decide +kernel
theorem dL_law_607 : decode cL_law 607 = .ok (.iload 8, 2) := by decide +kernel
theorem dL_law_609 : decode cL_law 609 = .ok (.bipush 6, 2) := by decide +kernel
theorem dL_law_611 : decode cL_law 611 = .ok (.invokevirtual 22, 3) := by decide +kernel
theorem dL_law_614 : decode cL_law 614 = .ok (.ifCond .ne 44, 3) := by decide +kernel
theorem dL_law_617 : decode cL_law 617 = .ok (.aload_n 1, 1) := by decide +kernel
theorem dL_law_618 : decode cL_law 618 = .ok (.iload 11, 2) := by decide +kernel
theorem dL_law_620 : decode cL_law 620 = .ok (.invokevirtual 18, 3) := by decide +kernel
theorem dL_law_623 : decode cL_law 623 = .ok (.bipush (-2), 2) := by decide +kernel
theorem dL_law_625 : decode cL_law 625 = .ok (.if_icmp .eq 33, 3) := by decide +kernel
theorem dL_law_628 : decode cL_law 628 = .ok (.aload_n 1, 1) := by decide +kernel
theorem dL_law_629 : decode cL_law 629 = .ok (.aload_n 1, 1) := by decide +kernel
theorem dL_law_630 : decode cL_law 630 = .ok (.iload 11, 2) := by decide +kernel
theorem dL_law_632 : decode cL_law 632 = .ok (.invokevirtual 46, 3) := by decide +kernel
theorem dL_law_635 : decode cL_law 635 = .ok (.invokestatic 49, 3) := by decide +kernel
theorem dL_law_638 : decode cL_law 638 = .ok (.ifCond .ne 20, 3) := by decide +kernel
theorem dL_law_641 : decode cL_law 641 = .ok (.iload 13, 2) := by decide +kernel
theorem dL_law_643 : decode cL_law 643 = .ok (.iconst 2, 1) := by decide +kernel
theorem dL_law_644 : decode cL_law 644 = .ok (.if_icmp .ge 14, 3) := by decide +kernel
theorem dL_law_647 : decode cL_law 647 = .ok (.iload 13, 2) := by decide +kernel
theorem dL_law_649 : decode cL_law 649 = .ok (.bipush (-2), 2) := by decide +kernel
theorem dL_law_651 : decode cL_law 651 = .ok (.if_icmp .le 7, 3) := by decide +kernel
theorem dL_law_654 : decode cL_law 654 = .ok (.iconst 1, 1) := by decide +kernel
theorem dL_law_655 : decode cL_law 655 = .ok (.goto 4, 3) := by decide +kernel
theorem dL_law_658 : decode cL_law 658 = .ok (.iconst 0, 1) := by decide +kernel
theorem dL_law_659 : decode cL_law 659 = .ok (.istore 14, 2) := by decide +kernel
theorem dL_law_661 : decode cL_law 661 = .ok (.aload_n 1, 1) := by decide +kernel
theorem dL_law_662 : decode cL_law 662 = .ok (.iload 11, 2) := by decide +kernel
theorem dL_law_664 : decode cL_law 664 = .ok (.iload 12, 2) := by decide +kernel
theorem dL_law_666 : decode cL_law 666 = .ok (.invokestatic 76, 3) := by decide +kernel
theorem dL_law_669 : decode cL_law 669 = .ok (.istore 15, 2) := by decide +kernel
theorem dL_law_671 : decode cL_law 671 = .ok (.iload 14, 2) := by decide +kernel
theorem dL_law_673 : decode cL_law 673 = .ok (.ifCond .eq 80, 3) := by decide +kernel
theorem dL_law_676 : decode cL_law 676 = .ok (.iload 15, 2) := by decide +kernel
theorem dL_law_678 : decode cL_law 678 = .ok (.aload_n 1, 1) := by decide +kernel
theorem dL_law_679 : decode cL_law 679 = .ok (.iload 11, 2) := by decide +kernel
theorem dL_law_681 : decode cL_law 681 = .ok (.iconst 0, 1) := by decide +kernel
theorem dL_law_682 : decode cL_law 682 = .ok (.invokevirtual 22, 3) := by decide +kernel
theorem dL_law_685 : decode cL_law 685 = .ok (.iload 12, 2) := by decide +kernel
theorem dL_law_687 : decode cL_law 687 = .ok (.invokestatic 80, 3) := by decide +kernel
theorem dL_law_690 : decode cL_law 690 = .ok (.if_icmp .ge 63, 3) := by decide +kernel
theorem dL_law_693 : decode cL_law 693 = .ok (.aload_n 1, 1) := by decide +kernel
theorem dL_law_694 : decode cL_law 694 = .ok (.iload 8, 2) := by decide +kernel
theorem dL_law_696 : decode cL_law 696 = .ok (.iload 11, 2) := by decide +kernel
theorem dL_law_698 : decode cL_law 698 = .ok (.invokevirtual 14, 3) := by decide +kernel
theorem dL_law_701 : decode cL_law 701 = .ok (.iload 15, 2) := by decide +kernel
theorem dL_law_703 : decode cL_law 703 = .ok (.if_icmp .le 48, 3) := by decide +kernel
theorem dL_law_706 : decode cL_law 706 = .ok (.aload_n 1, 1) := by decide +kernel
theorem dL_law_707 : decode cL_law 707 = .ok (.iload 8, 2) := by decide +kernel
theorem dL_law_709 : decode cL_law 709 = .ok (.invokevirtual 18, 3) := by decide +kernel
theorem dL_law_712 : decode cL_law 712 = .ok (.iload 11, 2) := by decide +kernel
theorem dL_law_714 : decode cL_law 714 = .ok (.if_icmp .ne 37, 3) := by decide +kernel
theorem dL_law_717 : decode cL_law 717 = .ok (.aload_n 1, 1) := by decide +kernel
theorem dL_law_718 : decode cL_law 718 = .ok (.iload 11, 2) := by decide +kernel
theorem dL_law_720 : decode cL_law 720 = .ok (.iload 12, 2) := by decide +kernel
theorem dL_law_722 : decode cL_law 722 = .ok (.invokestatic 76, 3) := by decide +kernel
theorem dL_law_725 : decode cL_law 725 = .ok (.iload 15, 2) := by decide +kernel
theorem dL_law_727 : decode cL_law 727 = .ok (.iconst 1, 1) := by decide +kernel
theorem dL_law_728 : decode cL_law 728 = .ok (.iadd, 1) := by decide +kernel
theorem dL_law_729 : decode cL_law 729 = .ok (.if_icmp .ne 22, 3) := by decide +kernel
theorem dL_law_732 : decode cL_law 732 = .ok (.aload_n 1, 1) := by decide +kernel
theorem dL_law_733 : decode cL_law 733 = .ok (.iload 8, 2) := by decide +kernel
theorem dL_law_735 : decode cL_law 735 = .ok (.invokevirtual 46, 3) := by decide +kernel
theorem dL_law_738 : decode cL_law 738 = .ok (.aload_n 1, 1) := by decide +kernel
theorem dL_law_739 : decode cL_law 739 = .ok (.iload 11, 2) := by decide +kernel
theorem dL_law_741 : decode cL_law 741 = .ok (.invokevirtual 46, 3) := by decide +kernel
theorem dL_law_744 : decode cL_law 744 = .ok (.if_icmp .ne 7, 3) := by decide +kernel
theorem dL_law_747 : decode cL_law 747 = .ok (.iconst 1, 1) := by decide +kernel
theorem dL_law_748 : decode cL_law 748 = .ok (.goto 4, 3) := by decide +kernel
theorem dL_law_751 : decode cL_law 751 = .ok (.iconst 0, 1) := by decide +kernel
theorem dL_law_752 : decode cL_law 752 = .ok (.istore_n 2, 1) := by decide +kernel
theorem dL_law_753 : decode cL_law 753 = .ok (.goto 822, 3) := by decide +kernel
theorem dL_law_756 : decode cL_law 756 = .ok (.iload 7, 2) := by decide +kernel
theorem dL_law_758 : decode cL_law 758 = .ok (.bipush 6, 2) := by decide +kernel
theorem dL_law_760 : decode cL_law 760 = .ok (.if_icmp .ne 66, 3) := by decide +kernel
theorem dL_law_763 : decode cL_law 763 = .ok (.iconst 3, 1) := by decide +kernel
theorem dL_law_764 : decode cL_law 764 = .ok (.iload 6, 2) := by decide +kernel
theorem dL_law_766 : decode cL_law 766 = .ok (.iconst 4, 1) := by decide +kernel
theorem dL_law_767 : decode cL_law 767 = .ok (.ishr, 1) := by decide +kernel
theorem dL_law_768 : decode cL_law 768 = .ok (.iconst 4, 1) := by decide +kernel
theorem dL_law_769 : decode cL_law 769 = .ok (.invokestatic 43, 3) := by decide +kernel
theorem dL_law_772 : decode cL_law 772 = .ok (.iadd, 1) := by decide +kernel
theorem dL_law_773 : decode cL_law 773 = .ok (.istore 11, 2) := by decide +kernel
theorem dL_law_775 : decode cL_law 775 = .ok (.aload_n 1, 1) := by decide +kernel
theorem dL_law_776 : decode cL_law 776 = .ok (.iload 11, 2) := by decide +kernel
theorem dL_law_778 : decode cL_law 778 = .ok (.iconst 3, 1) := by decide +kernel
theorem dL_law_779 : decode cL_law 779 = .ok (.invokestatic 76, 3) := by decide +kernel
theorem dL_law_782 : decode cL_law 782 = .ok (.iconst 2, 1) := by decide +kernel
theorem dL_law_783 : decode cL_law 783 = .ok (.if_icmp .ne 40, 3) := by decide +kernel
theorem dL_law_786 : decode cL_law 786 = .ok (.aload_n 1, 1) := by decide +kernel
theorem dL_law_787 : decode cL_law 787 = .ok (.aload_n 1, 1) := by decide +kernel
theorem dL_law_788 : decode cL_law 788 = .ok (.iload 11, 2) := by decide +kernel
theorem dL_law_790 : decode cL_law 790 = .ok (.invokevirtual 46, 3) := by decide +kernel
theorem dL_law_793 : decode cL_law 793 = .ok (.invokestatic 49, 3) := by decide +kernel
theorem dL_law_796 : decode cL_law 796 = .ok (.ifCond .ne 27, 3) := by decide +kernel
theorem dL_law_799 : decode cL_law 799 = .ok (.aload_n 1, 1) := by decide +kernel
theorem dL_law_800 : decode cL_law 800 = .ok (.iload 11, 2) := by decide +kernel
theorem dL_law_802 : decode cL_law 802 = .ok (.invokevirtual 83, 3) := by decide +kernel
theorem dL_law_805 : decode cL_law 805 = .ok (.ifCond .lt 16, 3) := by decide +kernel
theorem dL_law_808 : decode cL_law 808 = .ok (.aload_n 1, 1) := by decide +kernel
theorem dL_law_809 : decode cL_law 809 = .ok (.iload 11, 2) := by decide +kernel
theorem dL_law_811 : decode cL_law 811 = .ok (.invokevirtual 83, 3) := by decide +kernel
theorem dL_law_814 : decode cL_law 814 = .ok (.ifCond .ne 7, 3) := by decide +kernel
theorem dL_law_817 : decode cL_law 817 = .ok (.iconst 1, 1) := by decide +kernel
theorem dL_law_818 : decode cL_law 818 = .ok (.goto 4, 3) := by decide +kernel
theorem dL_law_821 : decode cL_law 821 = .ok (.iconst 0, 1) := by decide +kernel
theorem dL_law_822 : decode cL_law 822 = .ok (.istore_n 2, 1) := by decide +kernel
theorem dL_law_823 : decode cL_law 823 = .ok (.goto 752, 3) := by decide +kernel
theorem dL_law_826 : decode cL_law 826 = .ok (.iload 7, 2) := by decide +kernel
theorem dL_law_828 : decode cL_law 828 = .ok (.bipush 7, 2) := by decide +kernel
theorem dL_law_830 : decode cL_law 830 = .ok (.if_icmp .ne 110, 3) := by decide +kernel
theorem dL_law_833 : decode cL_law 833 = .ok (.bipush 7, 2) := by decide +kernel
theorem dL_law_835 : decode cL_law 835 = .ok (.iload 6, 2) := by decide +kernel
theorem dL_law_837 : decode cL_law 837 = .ok (.iconst 4, 1) := by decide +kernel
theorem dL_law_838 : decode cL_law 838 = .ok (.ishr, 1) := by decide +kernel
theorem dL_law_839 : decode cL_law 839 = .ok (.bipush 8, 2) := by decide +kernel
theorem dL_law_841 : decode cL_law 841 = .ok (.invokestatic 43, 3) := by decide +kernel
theorem dL_law_844 : decode cL_law 844 = .ok (.iadd, 1) := by decide +kernel
theorem dL_law_845 : decode cL_law 845 = .ok (.istore 11, 2) := by decide +kernel
theorem dL_law_847 : decode cL_law 847 = .ok (.iload 6, 2) := by decide +kernel
theorem dL_law_849 : decode cL_law 849 = .ok (.bipush 7, 2) := by decide +kernel
theorem dL_law_851 : decode cL_law 851 = .ok (.ishr, 1) := by decide +kernel
theorem dL_law_852 : decode cL_law 852 = .ok (.bipush 11, 2) := by decide +kernel
theorem dL_law_854 : decode cL_law 854 = .ok (.invokestatic 43, 3) := by decide +kernel
theorem dL_law_857 : decode cL_law 857 = .ok (.iconst 5, 1) := by decide +kernel
theorem dL_law_858 : decode cL_law 858 = .ok (.isub, 1) := by decide +kernel
theorem dL_law_859 : decode cL_law 859 = .ok (.istore 12, 2) := by decide +kernel
theorem dL_law_861 : decode cL_law 861 = .ok (.aload_n 1, 1) := by decide +kernel
theorem dL_law_862 : decode cL_law 862 = .ok (.iload 11, 2) := by decide +kernel
theorem dL_law_864 : decode cL_law 864 = .ok (.iload 12, 2) := by decide +kernel
theorem dL_law_866 : decode cL_law 866 = .ok (.invokevirtual 86, 3) := by decide +kernel
theorem dL_law_869 : decode cL_law 869 = .ok (.istore 13, 2) := by decide +kernel
theorem dL_law_871 : decode cL_law 871 = .ok (.iload 13, 2) := by decide +kernel
theorem dL_law_873 : decode cL_law 873 = .ok (.aload_n 1, 1) := by decide +kernel
theorem dL_law_874 : decode cL_law 874 = .ok (.iload 11, 2) := by decide +kernel
theorem dL_law_876 : decode cL_law 876 = .ok (.iconst 1, 1) := by decide +kernel
theorem dL_law_877 : decode cL_law 877 = .ok (.invokevirtual 89, 3) := by decide +kernel
theorem dL_law_880 : decode cL_law 880 = .ok (.iload 12, 2) := by decide +kernel
theorem dL_law_882 : decode cL_law 882 = .ok (.iadd, 1) := by decide +kernel
theorem dL_law_883 : decode cL_law 883 = .ok (.if_icmp .ne 52, 3) := by decide +kernel
theorem dL_law_886 : decode cL_law 886 = .ok (.aload_n 1, 1) := by decide +kernel
theorem dL_law_887 : decode cL_law 887 = .ok (.iload 11, 2) := by decide +kernel
theorem dL_law_889 : decode cL_law 889 = .ok (.iconst 2, 1) := by decide +kernel
theorem dL_law_890 : decode cL_law 890 = .ok (.invokevirtual 89, 3) := by decide +kernel
theorem dL_law_893 : decode cL_law 893 = .ok (.iload 13, 2) := by decide +kernel
theorem dL_law_895 : decode cL_law 895 = .ok (.if_icmp .ne 40, 3) := by decide +kernel
theorem dL_law_898 : decode cL_law 898 = .ok (.aload_n 1, 1) := by decide +kernel
theorem dL_law_899 : decode cL_law 899 = .ok (.iload 11, 2) := by decide +kernel
theorem dL_law_901 : decode cL_law 901 = .ok (.iconst 1, 1) := by decide +kernel
theorem dL_law_902 : decode cL_law 902 = .ok (.iconst 0, 1) := by decide +kernel
theorem dL_law_903 : decode cL_law 903 = .ok (.invokevirtual 92, 3) := by decide +kernel
theorem dL_law_906 : decode cL_law 906 = .ok (.iload 13, 2) := by decide +kernel
theorem dL_law_908 : decode cL_law 908 = .ok (.sipush 250, 3) := by decide +kernel
theorem dL_law_911 : decode cL_law 911 = .ok (.if_icmp .le 16, 3) := by decide +kernel
theorem dL_law_914 : decode cL_law 914 = .ok (.sipush 200, 3) := by decide +kernel
theorem dL_law_917 : decode cL_law 917 = .ok (.iload 13, 2) := by decide +kernel
theorem dL_law_919 : decode cL_law 919 = .ok (.sipush 250, 3) := by decide +kernel
theorem dL_law_922 : decode cL_law 922 = .ok (.isub, 1) := by decide +kernel
theorem dL_law_923 : decode cL_law 923 = .ok (.imul, 1) := by decide +kernel
theorem dL_law_924 : decode cL_law 924 = .ok (.goto 4, 3) := by decide +kernel
theorem dL_law_927 : decode cL_law 927 = .ok (.iconst 0, 1) := by decide +kernel
theorem dL_law_928 : decode cL_law 928 = .ok (.if_icmp .ne 7, 3) := by decide +kernel
theorem dL_law_931 : decode cL_law 931 = .ok (.iconst 1, 1) := by decide +kernel
theorem dL_law_932 : decode cL_law 932 = .ok (.goto 4, 3) := by decide +kernel
theorem dL_law_935 : decode cL_law 935 = .ok (.iconst 0, 1) := by decide +kernel
theorem dL_law_936 : decode cL_law 936 = .ok (.istore_n 2, 1) := by decide +kernel
theorem dL_law_937 : decode cL_law 937 = .ok (.goto 638, 3) := by decide +kernel
theorem dL_law_940 : decode cL_law 940 = .ok (.iload 7, 2) := by decide +kernel
theorem dL_law_942 : decode cL_law 942 = .ok (.bipush 8, 2) := by decide +kernel
theorem dL_law_944 : decode cL_law 944 = .ok (.if_icmp .ne 123, 3) := by decide +kernel
theorem dL_law_947 : decode cL_law 947 = .ok (.aload_n 1, 1) := by decide +kernel
theorem dL_law_948 : decode cL_law 948 = .ok (.iload 8, 2) := by decide +kernel
theorem dL_law_950 : decode cL_law 950 = .ok (.iconst 0, 1) := by decide +kernel
theorem dL_law_951 : decode cL_law 951 = .ok (.invokevirtual 22, 3) := by decide +kernel
theorem dL_law_954 : decode cL_law 954 = .ok (.iconst 2, 1) := by decide +kernel
theorem dL_law_955 : decode cL_law 955 = .ok (.if_icmp .le 620, 3) := by decide +kernel
theorem dL_law_958 : decode cL_law 958 = .ok (.iload 9, 2) := by decide +kernel
theorem dL_law_960 : decode cL_law 960 = .ok (.bipush (-2), 2) := by decide +kernel
theorem dL_law_962 : decode cL_law 962 = .ok (.if_icmp .eq 613, 3) := by decide +kernel
theorem dL_law_965 : decode cL_law 965 = .ok (.iconst 1, 1) := by decide +kernel
theorem dL_law_966 : decode cL_law 966 = .ok (.iload 6, 2) := by decide +kernel
theorem dL_law_968 : decode cL_law 968 = .ok (.bipush 9, 2) := by decide +kernel
theorem dL_law_970 : decode cL_law 970 = .ok (.ishr, 1) := by decide +kernel
theorem dL_law_971 : decode cL_law 971 = .ok (.bipush 30, 2) := by decide +kernel
theorem dL_law_973 : decode cL_law 973 = .ok (.invokestatic 43, 3) := by decide +kernel
theorem dL_law_976 : decode cL_law 976 = .ok (.iadd, 1) := by decide +kernel
theorem dL_law_977 : decode cL_law 977 = .ok (.istore 11, 2) := by decide +kernel
theorem dL_law_979 : decode cL_law 979 = .ok (.aload_n 1, 1) := by decide +kernel
theorem dL_law_980 : decode cL_law 980 = .ok (.iload 8, 2) := by decide +kernel
theorem dL_law_982 : decode cL_law 982 = .ok (.iload 11, 2) := by decide +kernel
theorem dL_law_984 : decode cL_law 984 = .ok (.invokevirtual 95, 3) := by decide +kernel
theorem dL_law_987 : decode cL_law 987 = .ok (.pop, 1) := by decide +kernel
theorem dL_law_988 : decode cL_law 988 = .ok (.aload_n 1, 1) := by decide +kernel
theorem dL_law_989 : decode cL_law 989 = .ok (.iload 8, 2) := by decide +kernel
theorem dL_law_991 : decode cL_law 991 = .ok (.iload 11, 2) := by decide +kernel
theorem dL_law_993 : decode cL_law 993 = .ok (.invokevirtual 95, 3) := by decide +kernel
theorem dL_law_996 : decode cL_law 996 = .ok (.iload 11, 2) := by decide +kernel
theorem dL_law_998 : decode cL_law 998 = .ok (.if_icmp .ne 7, 3) := by decide +kernel
theorem dL_law_1001 : decode cL_law 1001 = .ok (.iconst 1, 1) := by decide +kernel
theorem dL_law_1002 : decode cL_law 1002 = .ok (.goto 4, 3) := by decide +kernel
theorem dL_law_1005 : decode cL_law 1005 = .ok (.iconst 0, 1) := by decide +kernel
theorem dL_law_1006 : decode cL_law 1006 = .ok (.istore_n 2, 1) := by decide +kernel
theorem dL_law_1007 : decode cL_law 1007 = .ok (.iload 10, 2) := by decide +kernel
theorem dL_law_1009 : decode cL_law 1009 = .ok (.ifCond .ne 55, 3) := by decide +kernel
theorem dL_law_1012 : decode cL_law 1012 = .ok (.iload_n 2, 1) := by decide +kernel
theorem dL_law_1013 : decode cL_law 1013 = .ok (.ifCond .eq 49, 3) := by decide +kernel
theorem dL_law_1016 : decode cL_law 1016 = .ok (.aload_n 1, 1) := by decide +kernel
theorem dL_law_1017 : decode cL_law 1017 = .ok (.iload 8, 2) := by decide +kernel
theorem dL_law_1019 : decode cL_law 1019 = .ok (.iconst 0, 1) := by decide +kernel
theorem dL_law_1020 : decode cL_law 1020 = .ok (.invokevirtual 98, 3) := by decide +kernel
theorem dL_law_1023 : decode cL_law 1023 = .ok (.iload 11, 2) := by decide +kernel
theorem dL_law_1025 : decode cL_law 1025 = .ok (.bipush 10, 2) := by decide +kernel
theorem dL_law_1027 : decode cL_law 1027 = .ok (.if_icmp .ge 7, 3) := by decide +kernel
theorem dL_law_1030 : decode cL_law 1030 = .ok (.iconst 0, 1) := by decide +kernel
theorem dL_law_1031 : decode cL_law 1031 = .ok (.goto 5, 3) := by decide +kernel
theorem dL_law_1034 : decode cL_law 1034 = .ok (.iload 11, 2) := by decide +kernel
theorem dL_law_1036 : decode cL_law 1036 = .ok (.if_icmp .ne 26, 3) := by decide +kernel
theorem dL_law_1039 : decode cL_law 1039 = .ok (.iload 11, 2) := by decide +kernel
theorem dL_law_1041 : decode cL_law 1041 = .ok (.bipush 10, 2) := by decide +kernel
theorem dL_law_1043 : decode cL_law 1043 = .ok (.if_icmp .lt 15, 3) := by decide +kernel
theorem dL_law_1046 : decode cL_law 1046 = .ok (.aload_n 1, 1) := by decide +kernel
theorem dL_law_1047 : decode cL_law 1047 = .ok (.iload 8, 2) := by decide +kernel
theorem dL_law_1049 : decode cL_law 1049 = .ok (.bipush 6, 2) := by decide +kernel
theorem dL_law_1051 : decode cL_law 1051 = .ok (.invokevirtual 22, 3) := by decide +kernel
theorem dL_law_1054 : decode cL_law 1054 = .ok (.iconst 1, 1) := by decide +kernel
theorem dL_law_1055 : decode cL_law 1055 = .ok (.if_icmp .ne 7, 3) := by decide +kernel
theorem dL_law_1058 : decode cL_law 1058 = .ok (.iconst 1, 1) := by decide +kernel
theorem dL_law_1059 : decode cL_law 1059 = .ok (.goto 4, 3) := by decide +kernel
theorem dL_law_1062 : decode cL_law 1062 = .ok (.iconst 0, 1) := by decide +kernel
theorem dL_law_1063 : decode cL_law 1063 = .ok (.istore_n 2, 1) := by decide +kernel
theorem dL_law_1064 : decode cL_law 1064 = .ok (.goto 511, 3) := by decide +kernel
theorem dL_law_1067 : decode cL_law 1067 = .ok (.iload 7, 2) := by decide +kernel
theorem dL_law_1069 : decode cL_law 1069 = .ok (.bipush 9, 2) := by decide +kernel
theorem dL_law_1071 : decode cL_law 1071 = .ok (.if_icmp .ne 112, 3) := by decide +kernel
theorem dL_law_1074 : decode cL_law 1074 = .ok (.iconst 0, 1) := by decide +kernel
theorem dL_law_1075 : decode cL_law 1075 = .ok (.istore 11, 2) := by decide +kernel
theorem dL_law_1077 : decode cL_law 1077 = .ok (.iconst 0, 1) := by decide +kernel
theorem dL_law_1078 : decode cL_law 1078 = .ok (.istore 12, 2) := by decide +kernel
theorem dL_law_1080 : decode cL_law 1080 = .ok (.iload 12, 2) := by decide +kernel
theorem dL_law_1082 : decode cL_law 1082 = .ok (.bipush 23, 2) := by decide +kernel
theorem dL_law_1084 : decode cL_law 1084 = .ok (.if_icmp .ge 60, 3) := by decide +kernel
theorem dL_law_1087 : decode cL_law 1087 = .ok (.iload 11, 2) := by decide +kernel
theorem dL_law_1089 : decode cL_law 1089 = .ok (.aload_n 1, 1) := by decide +kernel
theorem dL_law_1090 : decode cL_law 1090 = .ok (.iload 12, 2) := by decide +kernel
theorem dL_law_1092 : decode cL_law 1092 = .ok (.iconst 1, 1) := by decide +kernel
theorem dL_law_1093 : decode cL_law 1093 = .ok (.invokevirtual 22, 3) := by decide +kernel
theorem dL_law_1096 : decode cL_law 1096 = .ok (.iload 6, 2) := by decide +kernel
theorem dL_law_1098 : decode cL_law 1098 = .ok (.iconst 4, 1) := by decide +kernel
theorem dL_law_1099 : decode cL_law 1099 = .ok (.ishr, 1) := by decide +kernel
theorem dL_law_1100 : decode cL_law 1100 = .ok (.bipush 10, 2) := by decide +kernel
theorem dL_law_1102 : decode cL_law 1102 = .ok (.invokestatic 43, 3) := by decide +kernel
theorem dL_law_1105 : decode cL_law 1105 = .ok (.if_icmp .ne 29, 3) := by decide +kernel
theorem dL_law_1108 : decode cL_law 1108 = .ok (.aload_n 1, 1) := by decide +kernel
theorem dL_law_1109 : decode cL_law 1109 = .ok (.iload 12, 2) := by decide +kernel
theorem dL_law_1111 : decode cL_law 1111 = .ok (.bipush 7, 2) := by decide +kernel
theorem dL_law_1113 : decode cL_law 1113 = .ok (.invokevirtual 22, 3) := by decide +kernel
theorem dL_law_1116 : decode cL_law 1116 = .ok (.ifCond .ne 18, 3) := by decide +kernel
theorem dL_law_1119 : decode cL_law 1119 = .ok (.aload_n 1, 1) := by decide +kernel
theorem dL_law_1120 : decode cL_law 1120 = .ok (.iload 12, 2) := by decide +kernel
theorem dL_law_1122 : decode cL_law 1122 = .ok (.invokevirtual 18, 3) := by decide +kernel
theorem dL_law_1125 : decode cL_law 1125 = .ok (.bipush (-2), 2) := by decide +kernel
theorem dL_law_1127 : decode cL_law 1127 = .ok (.if_icmp .eq 7, 3) := by decide +kernel
theorem dL_law_1130 : decode cL_law 1130 = .ok (.iconst 1, 1) := by decide +kernel
theorem dL_law_1131 : decode cL_law 1131 = .ok (.goto 4, 3) := by decide +kernel
theorem dL_law_1134 : decode cL_law 1134 = .ok (.iconst 0, 1) := by decide +kernel
theorem dL_law_1135 : decode cL_law 1135 = .ok (.iadd, 1) := by decide +kernel
theorem dL_law_1136 : decode cL_law 1136 = .ok (.istore 11, 2) := by decide +kernel
theorem dL_law_1138 : decode cL_law 1138 = .ok (.iinc 12 1, 3) := by decide +kernel
theorem dL_law_1141 : decode cL_law 1141 = .ok (.goto (-61), 3) := by decide +kernel
theorem dL_law_1144 : decode cL_law 1144 = .ok (.iload 6, 2) := by decide +kernel
theorem dL_law_1146 : decode cL_law 1146 = .ok (.bipush 8, 2) := by decide +kernel
theorem dL_law_1148 : decode cL_law 1148 = .ok (.ishr, 1) := by decide +kernel
theorem dL_law_1149 : decode cL_law 1149 = .ok (.iconst 4, 1) := by decide +kernel
theorem dL_law_1150 : decode cL_law 1150 = .ok (.invokestatic 43, 3) := by decide +kernel
theorem dL_law_1153 : decode cL_law 1153 = .ok (.ifCond .gt 21, 3) := by decide +kernel
theorem dL_law_1156 : decode cL_law 1156 = .ok (.aload_n 1, 1) := by decide +kernel
theorem dL_law_1157 : decode cL_law 1157 = .ok (.iload 6, 2) := by decide +kernel
theorem dL_law_1159 : decode cL_law 1159 = .ok (.iconst 4, 1) := by decide +kernel
theorem dL_law_1160 : decode cL_law 1160 = .ok (.ishr, 1) := by decide +kernel
theorem dL_law_1161 : decode cL_law 1161 = .ok (.bipush 10, 2) := by decide +kernel
theorem dL_law_1163 : decode cL_law 1163 = .ok (.invokestatic 43, 3) := by decide +kernel
theorem dL_law_1166 : decode cL_law 1166 = .ok (.invokevirtual 102, 3) := by decide +kernel
theorem dL_law_1169 : decode cL_law 1169 = .ok (.iload 11, 2) := by decide +kernel
theorem dL_law_1171 : decode cL_law 1171 = .ok (.if_icmp .ne 7, 3) := by decide +kernel
theorem dL_law_1174 : decode cL_law 1174 = .ok (.iconst 1, 1) := by decide +kernel
theorem dL_law_1175 : decode cL_law 1175 = .ok (.goto 4, 3) := by decide +kernel
theorem dL_law_1178 : decode cL_law 1178 = .ok (.iconst 0, 1) := by decide +kernel
theorem dL_law_1179 : decode cL_law 1179 = .ok (.istore_n 2, 1) := by decide +kernel
theorem dL_law_1180 : decode cL_law 1180 = .ok (.goto 395, 3) := by decide +kernel
theorem dL_law_1183 : decode cL_law 1183 = .ok (.iload 7, 2) := by decide +kernel
theorem dL_law_1185 : decode cL_law 1185 = .ok (.bipush 10, 2) := by decide +kernel
theorem dL_law_1187 : decode cL_law 1187 = .ok (.if_icmp .ne 99, 3) := by decide +kernel
theorem dL_law_1190 : decode cL_law 1190 = .ok (.aload_n 1, 1) := by decide +kernel
theorem dL_law_1191 : decode cL_law 1191 = .ok (.iload 8, 2) := by decide +kernel
theorem dL_law_1193 : decode cL_law 1193 = .ok (.bipush 6, 2) := by decide +kernel
theorem dL_law_1195 : decode cL_law 1195 = .ok (.invokevirtual 22, 3) := by decide +kernel
theorem dL_law_1198 : decode cL_law 1198 = .ok (.iconst 1, 1) := by decide +kernel
theorem dL_law_1199 : decode cL_law 1199 = .ok (.if_icmp .ne 32, 3) := by decide +kernel
theorem dL_law_1202 : decode cL_law 1202 = .ok (.iload 10, 2) := by decide +kernel
theorem dL_law_1204 : decode cL_law 1204 = .ok (.ifCond .ne 27, 3) := by decide +kernel
theorem dL_law_1207 : decode cL_law 1207 = .ok (.aload_n 1, 1) := by decide +kernel
theorem dL_law_1208 : decode cL_law 1208 = .ok (.iload 8, 2) := by decide +kernel
theorem dL_law_1210 : decode cL_law 1210 = .ok (.invokevirtual 105, 3) := by decide +kernel
theorem dL_law_1213 : decode cL_law 1213 = .ok (.pop, 1) := by decide +kernel
theorem dL_law_1214 : decode cL_law 1214 = .ok (.aload_n 1, 1) := by decide +kernel
theorem dL_law_1215 : decode cL_law 1215 = .ok (.iload 8, 2) := by decide +kernel
theorem dL_law_1217 : decode cL_law 1217 = .ok (.bipush 6, 2) := by decide +kernel
theorem dL_law_1219 : decode cL_law 1219 = .ok (.invokevirtual 22, 3) := by decide +kernel
theorem dL_law_1222 : decode cL_law 1222 = .ok (.ifCond .ne 7, 3) := by decide +kernel
theorem dL_law_1225 : decode cL_law 1225 = .ok (.iconst 1, 1) := by decide +kernel
theorem dL_law_1226 : decode cL_law 1226 = .ok (.goto 4, 3) := by decide +kernel
theorem dL_law_1229 : decode cL_law 1229 = .ok (.iconst 0, 1) := by decide +kernel
theorem dL_law_1230 : decode cL_law 1230 = .ok (.istore_n 2, 1) := by decide +kernel
theorem dL_law_1231 : decode cL_law 1231 = .ok (.iload 9, 2) := by decide +kernel
theorem dL_law_1233 : decode cL_law 1233 = .ok (.iconst (-1), 1) := by decide +kernel
theorem dL_law_1234 : decode cL_law 1234 = .ok (.if_icmp .ne 341, 3) := by decide +kernel
theorem dL_law_1237 : decode cL_law 1237 = .ok (.iload 10, 2) := by decide +kernel
theorem dL_law_1239 : decode cL_law 1239 = .ok (.ifCond .ne 336, 3) := by decide +kernel
theorem dL_law_1242 : decode cL_law 1242 = .ok (.aload_n 1, 1) := by decide +kernel
theorem dL_law_1243 : decode cL_law 1243 = .ok (.iload 8, 2) := by decide +kernel
theorem dL_law_1245 : decode cL_law 1245 = .ok (.iconst 1, 1) := by decide +kernel
theorem dL_law_1246 : decode cL_law 1246 = .ok (.invokevirtual 98, 3) := by decide +kernel
theorem dL_law_1249 : decode cL_law 1249 = .ok (.pop, 1) := by decide +kernel
theorem dL_law_1250 : decode cL_law 1250 = .ok (.iload_n 2, 1) := by decide +kernel
theorem dL_law_1251 : decode cL_law 1251 = .ok (.ifCond .eq 30, 3) := by decide +kernel
theorem dL_law_1254 : decode cL_law 1254 = .ok (.aload_n 1, 1) := by decide +kernel
theorem dL_law_1255 : decode cL_law 1255 = .ok (.iload 8, 2) := by decide +kernel
theorem dL_law_1257 : decode cL_law 1257 = .ok (.bipush 7, 2) := by decide +kernel
theorem dL_law_1259 : decode cL_law 1259 = .ok (.invokevirtual 22, 3) := by decide +kernel
theorem dL_law_1262 : decode cL_law 1262 = .ok (.ifCond .eq 15, 3) := by decide +kernel
theorem dL_law_1265 : decode cL_law 1265 = .ok (.aload_n 1, 1) := by decide +kernel
theorem dL_law_1266 : decode cL_law 1266 = .ok (.iload 8, 2) := by decide +kernel
theorem dL_law_1268 : decode cL_law 1268 = .ok (.bipush 6, 2) := by decide +kernel
theorem dL_law_1270 : decode cL_law 1270 = .ok (.invokevirtual 22, 3) := by decide +kernel
theorem dL_law_1273 : decode cL_law 1273 = .ok (.iconst 1, 1) := by decide +kernel
theorem dL_law_1274 : decode cL_law 1274 = .ok (.if_icmp .ne 7, 3) := by decide +kernel
theorem dL_law_1277 : decode cL_law 1277 = .ok (.iconst 1, 1) := by decide +kernel
theorem dL_law_1278 : decode cL_law 1278 = .ok (.goto 4, 3) := by decide +kernel
theorem dL_law_1281 : decode cL_law 1281 = .ok (.iconst 0, 1) := by decide +kernel
theorem dL_law_1282 : decode cL_law 1282 = .ok (.istore_n 2, 1) := by decide +kernel
theorem dL_law_1283 : decode cL_law 1283 = .ok (.goto 292, 3) := by decide +kernel
theorem dL_law_1286 : decode cL_law 1286 = .ok (.iload 7, 2) := by decide +kernel
theorem dL_law_1288 : decode cL_law 1288 = .ok (.bipush 11, 2) := by decide +kernel
theorem dL_law_1290 : decode cL_law 1290 = .ok (.if_icmp .ne 159, 3) := by decide +kernel
theorem dL_law_1293 : decode cL_law 1293 = .ok (.bipush 7, 2) := by decide +kernel
theorem dL_law_1295 : decode cL_law 1295 = .ok (.iload 6, 2) := by decide +kernel
theorem dL_law_1297 : decode cL_law 1297 = .ok (.iconst 4, 1) := by decide +kernel
theorem dL_law_1298 : decode cL_law 1298 = .ok (.ishr, 1) := by decide +kernel
theorem dL_law_1299 : decode cL_law 1299 = .ok (.bipush 8, 2) := by decide +kernel
theorem dL_law_1301 : decode cL_law 1301 = .ok (.invokestatic 43, 3) := by decide +kernel
theorem dL_law_1304 : decode cL_law 1304 = .ok (.iadd, 1) := by decide +kernel
theorem dL_law_1305 : decode cL_law 1305 = .ok (.istore 11, 2) := by decide +kernel
theorem dL_law_1307 : decode cL_law 1307 = .ok (.aload_n 1, 1) := by decide +kernel
theorem dL_law_1308 : decode cL_law 1308 = .ok (.iload 11, 2) := by decide +kernel
theorem dL_law_1310 : decode cL_law 1310 = .ok (.iconst 4, 1) := by decide +kernel
theorem dL_law_1311 : decode cL_law 1311 = .ok (.invokevirtual 22, 3) := by decide +kernel
theorem dL_law_1314 : decode cL_law 1314 = .ok (.istore 12, 2) := by decide +kernel
theorem dL_law_1316 : decode cL_law 1316 = .ok (.iload 12, 2) := by decide +kernel
theorem dL_law_1318 : decode cL_law 1318 = .ok (.sipush 1100, 3) := by decide +kernel
theorem dL_law_1321 : decode cL_law 1321 = .ok (.if_icmp .lt 67, 3) := by decide +kernel
theorem dL_law_1324 : decode cL_law 1324 = .ok (.aload_n 1, 1) := by decide +kernel
theorem dL_law_1325 : decode cL_law 1325 = .ok (.aload_n 1, 1) := by decide +kernel
theorem dL_law_1326 : decode cL_law 1326 = .ok (.iload 11, 2) := by decide +kernel
theorem dL_law_1328 : decode cL_law 1328 = .ok (.invokevirtual 46, 3) := by decide +kernel
theorem dL_law_1331 : decode cL_law 1331 = .ok (.invokestatic 49, 3) := by decide +kernel
theorem dL_law_1334 : decode cL_law 1334 = .ok (.ifCond .ne 54, 3) := by decide +kernel
theorem dL_law_1337 : decode cL_law 1337 = .ok (.aload_n 1, 1) := by decide +kernel
theorem dL_law_1338 : decode cL_law 1338 = .ok (.iload 11, 2) := by decide +kernel
theorem dL_law_1340 : decode cL_law 1340 = .ok (.invokevirtual 18, 3) := by decide +kernel
theorem dL_law_1343 : decode cL_law 1343 = .ok (.bipush (-2), 2) := by decide +kernel
theorem dL_law_1345 : decode cL_law 1345 = .ok (.if_icmp .eq 43, 3) := by decide +kernel
theorem dL_law_1348 : decode cL_law 1348 = .ok (.aload_n 1, 1) := by decide +kernel
theorem dL_law_1349 : decode cL_law 1349 = .ok (.iload 11, 2) := by decide +kernel
theorem dL_law_1351 : decode cL_law 1351 = .ok (.invokevirtual 108, 3) := by decide +kernel
theorem dL_law_1354 : decode cL_law 1354 = .ok (.iload 12, 2) := by decide +kernel
theorem dL_law_1356 : decode cL_law 1356 = .ok (.if_icmp .ne 27, 3) := by decide +kernel
theorem dL_law_1359 : decode cL_law 1359 = .ok (.aload_n 1, 1) := by decide +kernel
theorem dL_law_1360 : decode cL_law 1360 = .ok (.iload 11, 2) := by decide +kernel
theorem dL_law_1362 : decode cL_law 1362 = .ok (.iconst 4, 1) := by decide +kernel
theorem dL_law_1363 : decode cL_law 1363 = .ok (.invokevirtual 22, 3) := by decide +kernel
theorem dL_law_1366 : decode cL_law 1366 = .ok (.ifCond .ne 17, 3) := by decide +kernel
theorem dL_law_1369 : decode cL_law 1369 = .ok (.aload_n 1, 1) := by decide +kernel
theorem dL_law_1370 : decode cL_law 1370 = .ok (.iload 11, 2) := by decide +kernel
theorem dL_law_1372 : decode cL_law 1372 = .ok (.iconst 5, 1) := by decide +kernel
theorem dL_law_1373 : decode cL_law 1373 = .ok (.invokevirtual 22, 3) := by decide +kernel
theorem dL_law_1376 : decode cL_law 1376 = .ok (.ifCond .ne 7, 3) := by decide +kernel
theorem dL_law_1379 : decode cL_law 1379 = .ok (.iconst 1, 1) := by decide +kernel
theorem dL_law_1380 : decode cL_law 1380 = .ok (.goto 4, 3) := by decide +kernel
theorem dL_law_1383 : decode cL_law 1383 = .ok (.iconst 0, 1) := by decide +kernel
theorem dL_law_1384 : decode cL_law 1384 = .ok (.istore_n 2, 1) := by decide +kernel
theorem dL_law_1385 : decode cL_law 1385 = .ok (.goto 61, 3) := by decide +kernel
theorem dL_law_1388 : decode cL_law 1388 = .ok (.aload_n 1, 1) := by decide +kernel
theorem dL_law_1389 : decode cL_law 1389 = .ok (.iload 11, 2) := by decide +kernel
theorem dL_law_1391 : decode cL_law 1391 = .ok (.iconst 5, 1) := by decide +kernel
theorem dL_law_1392 : decode cL_law 1392 = .ok (.invokevirtual 22, 3) := by decide +kernel
theorem dL_law_1395 : decode cL_law 1395 = .ok (.ifCond .ne 51, 3) := by decide +kernel
theorem dL_law_1398 : decode cL_law 1398 = .ok (.aload_n 1, 1) := by decide +kernel
theorem dL_law_1399 : decode cL_law 1399 = .ok (.iload 11, 2) := by decide +kernel
theorem dL_law_1401 : decode cL_law 1401 = .ok (.iconst 1, 1) := by decide +kernel
theorem dL_law_1402 : decode cL_law 1402 = .ok (.iload 6, 2) := by decide +kernel
theorem dL_law_1404 : decode cL_law 1404 = .ok (.bipush 9, 2) := by decide +kernel
theorem dL_law_1406 : decode cL_law 1406 = .ok (.ishr, 1) := by decide +kernel
theorem dL_law_1407 : decode cL_law 1407 = .ok (.sipush 999, 3) := by decide +kernel
theorem dL_law_1410 : decode cL_law 1410 = .ok (.invokestatic 43, 3) := by decide +kernel
theorem dL_law_1413 : decode cL_law 1413 = .ok (.iadd, 1) := by decide +kernel
theorem dL_law_1414 : decode cL_law 1414 = .ok (.invokevirtual 111, 3) := by decide +kernel
theorem dL_law_1417 : decode cL_law 1417 = .ok (.aload_n 1, 1) := by decide +kernel
theorem dL_law_1418 : decode cL_law 1418 = .ok (.iload 11, 2) := by decide +kernel
theorem dL_law_1420 : decode cL_law 1420 = .ok (.iconst 5, 1) := by decide +kernel
theorem dL_law_1421 : decode cL_law 1421 = .ok (.invokevirtual 22, 3) := by decide +kernel
theorem dL_law_1424 : decode cL_law 1424 = .ok (.iconst 1, 1) := by decide +kernel
theorem dL_law_1425 : decode cL_law 1425 = .ok (.iload 6, 2) := by decide +kernel
theorem dL_law_1427 : decode cL_law 1427 = .ok (.bipush 9, 2) := by decide +kernel
theorem dL_law_1429 : decode cL_law 1429 = .ok (.ishr, 1) := by decide +kernel
theorem dL_law_1430 : decode cL_law 1430 = .ok (.sipush 999, 3) := by decide +kernel
theorem dL_law_1433 : decode cL_law 1433 = .ok (.invokestatic 43, 3) := by decide +kernel
theorem dL_law_1436 : decode cL_law 1436 = .ok (.iadd, 1) := by decide +kernel
theorem dL_law_1437 : decode cL_law 1437 = .ok (.if_icmp .ne 7, 3) := by decide +kernel
theorem dL_law_1440 : decode cL_law 1440 = .ok (.iconst 1, 1) := by decide +kernel
theorem dL_law_1441 : decode cL_law 1441 = .ok (.goto 4, 3) := by decide +kernel
theorem dL_law_1444 : decode cL_law 1444 = .ok (.iconst 0, 1) := by decide +kernel
theorem dL_law_1445 : decode cL_law 1445 = .ok (.istore_n 2, 1) := by decide +kernel
theorem dL_law_1446 : decode cL_law 1446 = .ok (.goto 129, 3) := by decide +kernel
theorem dL_law_1449 : decode cL_law 1449 = .ok (.iload 6, 2) := by decide +kernel
theorem dL_law_1451 : decode cL_law 1451 = .ok (.iconst 4, 1) := by decide +kernel
theorem dL_law_1452 : decode cL_law 1452 = .ok (.ishr, 1) := by decide +kernel
theorem dL_law_1453 : decode cL_law 1453 = .ok (.iconst 2, 1) := by decide +kernel
theorem dL_law_1454 : decode cL_law 1454 = .ok (.invokestatic 43, 3) := by decide +kernel
theorem dL_law_1457 : decode cL_law 1457 = .ok (.bipush 19, 2) := by decide +kernel
theorem dL_law_1459 : decode cL_law 1459 = .ok (.imul, 1) := by decide +kernel
theorem dL_law_1460 : decode cL_law 1460 = .ok (.istore 11, 2) := by decide +kernel
theorem dL_law_1462 : decode cL_law 1462 = .ok (.aload_n 1, 1) := by decide +kernel
theorem dL_law_1463 : decode cL_law 1463 = .ok (.iconst 0, 1) := by decide +kernel
theorem dL_law_1464 : decode cL_law 1464 = .ok (.invokestatic 49, 3) := by decide +kernel
theorem dL_law_1467 : decode cL_law 1467 = .ok (.ifCond .ne 12, 3) := by decide +kernel
theorem dL_law_1470 : decode cL_law 1470 = .ok (.aload_n 1, 1) := by decide +kernel
theorem dL_law_1471 : decode cL_law 1471 = .ok (.bipush 19, 2) := by decide +kernel
theorem dL_law_1473 : decode cL_law 1473 = .ok (.invokestatic 49, 3) := by decide +kernel
theorem dL_law_1476 : decode cL_law 1476 = .ok (.ifCond .eq 7, 3) := by decide +kernel
theorem dL_law_1479 : decode cL_law 1479 = .ok (.iconst 1, 1) := by decide +kernel
theorem dL_law_1480 : decode cL_law 1480 = .ok (.goto 4, 3) := by decide +kernel
theorem dL_law_1483 : decode cL_law 1483 = .ok (.iconst 0, 1) := by decide +kernel
theorem dL_law_1484 : decode cL_law 1484 = .ok (.istore 12, 2) := by decide +kernel
theorem dL_law_1486 : decode cL_law 1486 = .ok (.iload 12, 2) := by decide +kernel
theorem dL_law_1488 : decode cL_law 1488 = .ok (.ifCond .eq 19, 3) := by decide +kernel
theorem dL_law_1491 : decode cL_law 1491 = .ok (.aload_n 1, 1) := by decide +kernel
theorem dL_law_1492 : decode cL_law 1492 = .ok (.invokevirtual 115, 3) := by decide +kernel
theorem dL_law_1495 : decode cL_law 1495 = .ok (.ifCond .lt 7, 3) := by decide +kernel
theorem dL_law_1498 : decode cL_law 1498 = .ok (.iconst 1, 1) := by decide +kernel
theorem dL_law_1499 : decode cL_law 1499 = .ok (.goto 4, 3) := by decide +kernel
theorem dL_law_1502 : decode cL_law 1502 = .ok (.iconst 0, 1) := by decide +kernel
theorem dL_law_1503 : decode cL_law 1503 = .ok (.istore_n 2, 1) := by decide +kernel
theorem dL_law_1504 : decode cL_law 1504 = .ok (.goto 71, 3) := by decide +kernel
theorem dL_law_1507 : decode cL_law 1507 = .ok (.iload 4, 2) := by decide +kernel
theorem dL_law_1509 : decode cL_law 1509 = .ok (.ifCond .ne 34, 3) := by decide +kernel
theorem dL_law_1512 : decode cL_law 1512 = .ok (.aload_n 1, 1) := by decide +kernel
theorem dL_law_1513 : decode cL_law 1513 = .ok (.iload 11, 2) := by decide +kernel
theorem dL_law_1515 : decode cL_law 1515 = .ok (.iload 6, 2) := by decide +kernel
theorem dL_law_1517 : decode cL_law 1517 = .ok (.iconst 5, 1) := by decide +kernel
theorem dL_law_1518 : decode cL_law 1518 = .ok (.ishr, 1) := by decide +kernel
theorem dL_law_1519 : decode cL_law 1519 = .ok (.bipush 50, 2) := by decide +kernel
theorem dL_law_1521 : decode cL_law 1521 = .ok (.invokestatic 43, 3) := by decide +kernel
theorem dL_law_1524 : decode cL_law 1524 = .ok (.invokevirtual 119, 3) := by decide +kernel
theorem dL_law_1527 : decode cL_law 1527 = .ok (.iconst 1, 1) := by decide +kernel
theorem dL_law_1528 : decode cL_law 1528 = .ok (.if_icmp .ne 7, 3) := by decide +kernel
theorem dL_law_1531 : decode cL_law 1531 = .ok (.iconst 1, 1) := by decide +kernel
theorem dL_law_1532 : decode cL_law 1532 = .ok (.goto 4, 3) := by decide +kernel
theorem dL_law_1535 : decode cL_law 1535 = .ok (.iconst 0, 1) := by decide +kernel
theorem dL_law_1536 : decode cL_law 1536 = .ok (.istore_n 2, 1) := by decide +kernel
theorem dL_law_1537 : decode cL_law 1537 = .ok (.iconst 1, 1) := by decide +kernel
theorem dL_law_1538 : decode cL_law 1538 = .ok (.istore 4, 2) := by decide +kernel
theorem dL_law_1540 : decode cL_law 1540 = .ok (.goto 35, 3) := by decide +kernel
theorem dL_law_1543 : decode cL_law 1543 = .ok (.aload_n 1, 1) := by decide +kernel
theorem dL_law_1544 : decode cL_law 1544 = .ok (.invokevirtual 122, 3) := by decide +kernel
theorem dL_law_1547 : decode cL_law 1547 = .ok (.ifCond .ne 23, 3) := by decide +kernel
theorem dL_law_1550 : decode cL_law 1550 = .ok (.aload_n 1, 1) := by decide +kernel
theorem dL_law_1551 : decode cL_law 1551 = .ok (.invokevirtual 125, 3) := by decide +kernel
theorem dL_law_1554 : decode cL_law 1554 = .ok (.ifCond .ne 16, 3) := by decide +kernel
theorem dL_law_1557 : decode cL_law 1557 = .ok (.aload_n 1, 1) := by decide +kernel
theorem dL_law_1558 : decode cL_law 1558 = .ok (.iconst 0, 1) := by decide +kernel
theorem dL_law_1559 : decode cL_law 1559 = .ok (.iconst 0, 1) := by decide +kernel
theorem dL_law_1560 : decode cL_law 1560 = .ok (.invokevirtual 25, 3) := by decide +kernel
theorem dL_law_1563 : decode cL_law 1563 = .ok (.ifCond .lt 7, 3) := by decide +kernel
theorem dL_law_1566 : decode cL_law 1566 = .ok (.iconst 1, 1) := by decide +kernel
theorem dL_law_1567 : decode cL_law 1567 = .ok (.goto 4, 3) := by decide +kernel
theorem dL_law_1570 : decode cL_law 1570 = .ok (.iconst 0, 1) := by decide +kernel
theorem dL_law_1571 : decode cL_law 1571 = .ok (.istore_n 2, 1) := by decide +kernel
theorem dL_law_1572 : decode cL_law 1572 = .ok (.iconst 0, 1) := by decide +kernel
theorem dL_law_1573 : decode cL_law 1573 = .ok (.istore 4, 2) := by decide +kernel
theorem dL_law_1575 : decode cL_law 1575 = .ok (.iconst 0, 1) := by decide +kernel
theorem dL_law_1576 : decode cL_law 1576 = .ok (.istore 11, 2) := by decide +kernel
theorem dL_law_1578 : decode cL_law 1578 = .ok (.iload 11, 2) := by decide +kernel
theorem dL_law_1580 : decode cL_law 1580 = .ok (.bipush 23, 2) := by decide +kernel
theorem dL_law_1582 : decode cL_law 1582 = .ok (.if_icmp .ge 107, 3) := by decide +kernel
theorem dL_law_1585 : decode cL_law 1585 = .ok (.iload_n 2, 1) := by decide +kernel
theorem dL_law_1586 : decode cL_law 1586 = .ok (.ifCond .eq 103, 3) := by decide +kernel
theorem dL_law_1589 : decode cL_law 1589 = .ok (.aload_n 1, 1) := by decide +kernel
theorem dL_law_1590 : decode cL_law 1590 = .ok (.iload 11, 2) := by decide +kernel
theorem dL_law_1592 : decode cL_law 1592 = .ok (.bipush 8, 2) := by decide +kernel
theorem dL_law_1594 : decode cL_law 1594 = .ok (.invokevirtual 22, 3) := by decide +kernel
theorem dL_law_1597 : decode cL_law 1597 = .ok (.istore 12, 2) := by decide +kernel
theorem dL_law_1599 : decode cL_law 1599 = .ok (.aload_n 1, 1) := by decide +kernel
theorem dL_law_1600 : decode cL_law 1600 = .ok (.iload 11, 2) := by decide +kernel
theorem dL_law_1602 : decode cL_law 1602 = .ok (.invokevirtual 18, 3) := by decide +kernel
theorem dL_law_1605 : decode cL_law 1605 = .ok (.iload 12, 2) := by decide +kernel
theorem dL_law_1607 : decode cL_law 1607 = .ok (.ifCond .ne 7, 3) := by decide +kernel
theorem dL_law_1610 : decode cL_law 1610 = .ok (.iconst (-1), 1) := by decide +kernel
theorem dL_law_1611 : decode cL_law 1611 = .ok (.goto 13, 3) := by decide +kernel
theorem dL_law_1614 : decode cL_law 1614 = .ok (.aload_n 1, 1) := by decide +kernel
theorem dL_law_1615 : decode cL_law 1615 = .ok (.iload 11, 2) := by decide +kernel
theorem dL_law_1617 : decode cL_law 1617 = .ok (.iload 12, 2) := by decide +kernel
theorem dL_law_1619 : decode cL_law 1619 = .ok (.iconst 1, 1) := by decide +kernel
theorem dL_law_1620 : decode cL_law 1620 = .ok (.isub, 1) := by decide +kernel
theorem dL_law_1621 : decode cL_law 1621 = .ok (.invokevirtual 128, 3) := by decide +kernel
theorem dL_law_1624 : decode cL_law 1624 = .ok (.if_icmp .ne 57, 3) := by decide +kernel
theorem dL_law_1627 : decode cL_law 1627 = .ok (.aload_n 1, 1) := by decide +kernel
theorem dL_law_1628 : decode cL_law 1628 = .ok (.iload 11, 2) := by decide +kernel
theorem dL_law_1630 : decode cL_law 1630 = .ok (.invokevirtual 18, 3) := by decide +kernel
theorem dL_law_1633 : decode cL_law 1633 = .ok (.ifCond .lt 44, 3) := by decide +kernel
theorem dL_law_1636 : decode cL_law 1636 = .ok (.aload_n 1, 1) := by decide +kernel
theorem dL_law_1637 : decode cL_law 1637 = .ok (.aload_n 1, 1) := by decide +kernel
theorem dL_law_1638 : decode cL_law 1638 = .ok (.iload 11, 2) := by decide +kernel
theorem dL_law_1640 : decode cL_law 1640 = .ok (.invokevirtual 18, 3) := by decide +kernel
theorem dL_law_1643 : decode cL_law 1643 = .ok (.iconst 0, 1) := by decide +kernel
theorem dL_law_1644 : decode cL_law 1644 = .ok (.invokevirtual 22, 3) := by decide +kernel
theorem dL_law_1647 : decode cL_law 1647 = .ok (.aload_n 1, 1) := by decide +kernel
theorem dL_law_1648 : decode cL_law 1648 = .ok (.iload 11, 2) := by decide +kernel
theorem dL_law_1650 : decode cL_law 1650 = .ok (.iconst 0, 1) := by decide +kernel
theorem dL_law_1651 : decode cL_law 1651 = .ok (.invokevirtual 22, 3) := by decide +kernel
theorem dL_law_1654 : decode cL_law 1654 = .ok (.invokestatic 80, 3) := by decide +kernel
theorem dL_law_1657 : decode cL_law 1657 = .ok (.aload_n 1, 1) := by decide +kernel
theorem dL_law_1658 : decode cL_law 1658 = .ok (.aload_n 1, 1) := by decide +kernel
theorem dL_law_1659 : decode cL_law 1659 = .ok (.iload 11, 2) := by decide +kernel
theorem dL_law_1661 : decode cL_law 1661 = .ok (.invokevirtual 18, 3) := by decide +kernel
theorem dL_law_1664 : decode cL_law 1664 = .ok (.aload_n 1, 1) := by decide +kernel
theorem dL_law_1665 : decode cL_law 1665 = .ok (.iload 11, 2) := by decide +kernel
theorem dL_law_1667 : decode cL_law 1667 = .ok (.iconst 0, 1) := by decide +kernel
theorem dL_law_1668 : decode cL_law 1668 = .ok (.invokevirtual 22, 3) := by decide +kernel
theorem dL_law_1671 : decode cL_law 1671 = .ok (.invokestatic 76, 3) := by decide +kernel
theorem dL_law_1674 : decode cL_law 1674 = .ok (.if_icmp .lt 7, 3) := by decide +kernel
theorem dL_law_1677 : decode cL_law 1677 = .ok (.iconst 1, 1) := by decide +kernel
theorem dL_law_1678 : decode cL_law 1678 = .ok (.goto 4, 3) := by decide +kernel
theorem dL_law_1681 : decode cL_law 1681 = .ok (.iconst 0, 1) := by decide +kernel
theorem dL_law_1682 : decode cL_law 1682 = .ok (.istore_n 2, 1) := by decide +kernel
theorem dL_law_1683 : decode cL_law 1683 = .ok (.iinc 11 1, 3) := by decide +kernel
theorem dL_law_1686 : decode cL_law 1686 = .ok (.goto (-108), 3) := by decide +kernel
theorem dL_law_1689 : decode cL_law 1689 = .ok (.iload_n 2, 1) := by decide +kernel
theorem dL_law_1690 : decode cL_law 1690 = .ok (.ifCond .eq 64, 3) := by decide +kernel
theorem dL_law_1693 : decode cL_law 1693 = .ok (.aload_n 1, 1) := by decide +kernel
theorem dL_law_1694 : decode cL_law 1694 = .ok (.iload 8, 2) := by decide +kernel
theorem dL_law_1696 : decode cL_law 1696 = .ok (.invokevirtual 131, 3) := by decide +kernel
theorem dL_law_1699 : decode cL_law 1699 = .ok (.aload_n 1, 1) := by decide +kernel
theorem dL_law_1700 : decode cL_law 1700 = .ok (.iload 8, 2) := by decide +kernel
theorem dL_law_1702 : decode cL_law 1702 = .ok (.iconst 3, 1) := by decide +kernel
theorem dL_law_1703 : decode cL_law 1703 = .ok (.invokevirtual 22, 3) := by decide +kernel
theorem dL_law_1706 : decode cL_law 1706 = .ok (.if_icmp .ne 48, 3) := by decide +kernel
theorem dL_law_1709 : decode cL_law 1709 = .ok (.aload_n 1, 1) := by decide +kernel
theorem dL_law_1710 : decode cL_law 1710 = .ok (.iconst 0, 1) := by decide +kernel
theorem dL_law_1711 : decode cL_law 1711 = .ok (.invokevirtual 53, 3) := by decide +kernel
theorem dL_law_1714 : decode cL_law 1714 = .ok (.ifCond .ne 7, 3) := by decide +kernel
theorem dL_law_1717 : decode cL_law 1717 = .ok (.iconst 1, 1) := by decide +kernel
theorem dL_law_1718 : decode cL_law 1718 = .ok (.goto 4, 3) := by decide +kernel
theorem dL_law_1721 : decode cL_law 1721 = .ok (.iconst 0, 1) := by decide +kernel
theorem dL_law_1722 : decode cL_law 1722 = .ok (.aload_n 1, 1) := by decide +kernel
theorem dL_law_1723 : decode cL_law 1723 = .ok (.iconst 0, 1) := by decide +kernel
theorem dL_law_1724 : decode cL_law 1724 = .ok (.invokevirtual 63, 3) := by decide +kernel
theorem dL_law_1727 : decode cL_law 1727 = .ok (.iconst (-1), 1) := by decide +kernel
theorem dL_law_1728 : decode cL_law 1728 = .ok (.if_icmp .ne 7, 3) := by decide +kernel
theorem dL_law_1731 : decode cL_law 1731 = .ok (.iconst 1, 1) := by decide +kernel
theorem dL_law_1732 : decode cL_law 1732 = .ok (.goto 4, 3) := by decide +kernel
theorem dL_law_1735 : decode cL_law 1735 = .ok (.iconst 0, 1) := by decide +kernel
theorem dL_law_1736 : decode cL_law 1736 = .ok (.if_icmp .ne 18, 3) := by decide +kernel
theorem dL_law_1739 : decode cL_law 1739 = .ok (.aload_n 1, 1) := by decide +kernel
theorem dL_law_1740 : decode cL_law 1740 = .ok (.invokevirtual 134, 3) := by decide +kernel
theorem dL_law_1743 : decode cL_law 1743 = .ok (.aload_n 1, 1) := by decide +kernel
theorem dL_law_1744 : decode cL_law 1744 = .ok (.invokevirtual 122, 3) := by decide +kernel
theorem dL_law_1747 : decode cL_law 1747 = .ok (.if_icmp .ne 7, 3) := by decide +kernel
theorem dL_law_1750 : decode cL_law 1750 = .ok (.iconst 1, 1) := by decide +kernel
theorem dL_law_1751 : decode cL_law 1751 = .ok (.goto 4, 3) := by decide +kernel
theorem dL_law_1754 : decode cL_law 1754 = .ok (.iconst 0, 1) := by decide +kernel
theorem dL_law_1755 : decode cL_law 1755 = .ok (.istore_n 2, 1) := by decide +kernel
theorem dL_law_1756 : decode cL_law 1756 = .ok (.iinc 5 1, 3) := by decide +kernel
theorem dL_law_1759 : decode cL_law 1759 = .ok (.goto (-1651), 3) := by decide +kernel
theorem dL_law_1762 : decode cL_law 1762 = .ok (.iload_n 2, 1) := by decide +kernel
theorem dL_law_1763 : decode cL_law 1763 = .ok (.ireturn, 1) := by decide +kernel
end
section
def ww_str : List (String × Nat × String) := [("WheelWorks", 339, "no such kind"), ("WheelWorks", 47, "melt or mod out of range"), ("WheelWorks", 58, "no more parts"), ("WheelWorks", 71, "life, interval or window out of range"), ("WheelWorks", 341, "no such part"), ("WheelWorks", 94, "no place for such a part"), ("WheelWorks", 104, "the part cannot be fitted"), ("WheelWorks", 116, "the host cannot be fitted to"), ("WheelWorks", 127, "the mods are too far apart"), ("WheelWorks", 147, "in no host, or bound"), ("WheelWorks", 152, "not in the store, or not empty"), ("WheelWorks", 158, "bound, or waits for the night"), ("WheelWorks", 343, "no train"), ("WheelWorks", 337, "kilometres or season out of range"), ("WheelWorks", 166, "not released, or bound"), ("WheelWorks", 188, "no bogie"), ("WheelWorks", 194, "not both wheelsets, or bound"), ("WheelWorks", 349, "no wheelset"), ("WheelWorks", 211, "error out of range"), ("WheelWorks", 222, "no examination is possible"), ("WheelWorks", 230, "kilometres out of range"), ("WheelWorks", 236, "nothing can be waived"), ("WheelWorks", 238, "neither wheelset nor motor"), ("WheelWorks", 240, "size out of range"), ("WheelWorks", 246, "cannot be looked at"), ("WheelWorks", 251, "not quarantined, or bound"), ("WheelWorks", 253, "melt out of range"), ("WheelWorks", 261, "time out of range"), ("WheelWorks", 270, "no room to wait, or waits"), ("WheelWorks", 272, "stands on a road, or is scrapped"), ("WheelWorks", 283, "none waits, or one stands on a road"), ("WheelWorks", 288, "none stands on a road"), ("WheelWorks", 299, "no such thing to tell of a part"), ("WheelWorks", 307, "no such move"), ("WheelWorks", 318, "no such thing to tell of a wheelset"), ("WheelWorks", 332, "no such road or place")]
def ww_ca : List (String × String) := [("java/lang/IllegalArgumentException", "java/lang/IllegalArgumentException"), ("java/lang/IllegalStateException", "java/lang/IllegalStateException"), ("java/lang/IndexOutOfBoundsException", "java/lang/IndexOutOfBoundsException"), ("WheelWorks$KindLimits", "java/lang/Object"), ("WheelWorks", "java/lang/Object"), ("java/util/ArrayList", "java/lang/Object"), ("WheelWorks$Log", "java/lang/Object"), ("WheelWorks$Yard", "java/lang/Object"), ("java/lang/IllegalArgumentException", "java/lang/Object"), ("java/lang/IllegalStateException", "java/lang/Object"), ("WheelWorks$Part", "java/lang/Object"), ("WheelWorks$Wheel", "java/lang/Object"), ("java/lang/IndexOutOfBoundsException", "java/lang/Object"), ("WheelWorks$Event", "java/lang/Object"), ("java/lang/Throwable", "java/lang/Object"), ("java/lang/String", "java/lang/Object"), ("[LWheelWorks$KindLimits;", "java/lang/Object"), ("[I", "java/lang/Object"), ("[B", "java/lang/Object"), ("[Ljava/lang/Object;", "java/lang/Object")]
def ww_de : List MethodName := [⟨"java/lang/RuntimeException", "<init>", "()V"⟩, ⟨"java/lang/RuntimeException", "<init>", "(Ljava/lang/String;)V"⟩, ⟨"java/lang/Exception", "<init>", "()V"⟩, ⟨"java/lang/Exception", "<init>", "(Ljava/lang/String;)V"⟩, ⟨"java/lang/Throwable", "<init>", "()V"⟩, ⟨"java/lang/Throwable", "<init>", "(Ljava/lang/String;)V"⟩, ⟨"java/lang/Object", "getClass", "()Ljava/lang/Class;"⟩]
def ww_ne : List (String × Nat × MethodName × String) := [("WheelWorks", 24, ⟨"WheelWorks$Log", "<init>", "()V"⟩, "WheelWorks"), ("WheelWorks", 31, ⟨"WheelWorks$Yard", "<init>", "()V"⟩, "WheelWorks"), ("WheelWorks", 36, ⟨"WheelWorks$KindLimits", "<init>", "()V"⟩, "WheelWorks"), ("WheelWorks$Part", 33, ⟨"WheelWorks$Wheel", "<init>", "()V"⟩, "WheelWorks")]
def ww_nc : List (String × String) := [("java/lang/IllegalArgumentException", "java/lang/IndexOutOfBoundsException"), ("java/lang/IllegalStateException", "java/lang/IndexOutOfBoundsException"), ("java/lang/IllegalStateException", "java/lang/IllegalArgumentException")]
/-! ===== the pool memory: (addresses, kind, length), int fields, reference fields, int rows, reference rows, long rows. Field id = 40 * kind + slot. Kinds: 0 ArrayList 1 Event 2 KindLimits 3 Log 4 Part 5 Wheel 6 Yard 7 WheelWorks 8 WheelWorksModel (places of vwCl); 9 int[] 10 boolean[] 11 KindLimits[] 12 Object[] 13 long[] ===== -/
abbrev ww_M : Type := (List Nat × (Nat → Nat) × (Nat → Nat)) × (Nat → Nat → Int32) × (Nat → Nat → Option Nat) × (Nat → Nat → Int32) × (Nat → Nat → Option Nat) × (Nat → Nat → Int64)
def ww_L (M : ww_M) : List Nat := M.1.1
def ww_K (M : ww_M) : Nat → Nat := M.1.2.1
def ww_N (M : ww_M) : Nat → Nat := M.1.2.2
def ww_I (M : ww_M) : Nat → Nat → Int32 := M.2.1
def ww_R (M : ww_M) : Nat → Nat → Option Nat := M.2.2.1
def ww_X (M : ww_M) : Nat → Nat → Int32 := M.2.2.2.1
def ww_Y (M : ww_M) : Nat → Nat → Option Nat := M.2.2.2.2.1
def ww_Z (M : ww_M) : Nat → Nat → Int64 := M.2.2.2.2.2
def ww_u2 {α : Type} (f : Nat → Nat → α) (k a : Nat) (v : α) : Nat → Nat → α := fun k' a' => if k' = k ∧ a' = a then v else f k' a'
theorem ww_u2s {α : Type} {f : Nat → Nat → α} {k a : Nat} {v : α} : ww_u2 f k a v k a = v := if_pos ⟨rfl, rfl⟩
theorem ww_u2n {α : Type} {f : Nat → Nat → α} {k a k' a' : Nat} {v : α} (h : ¬ (k' = k ∧ a' = a)) : ww_u2 f k a v k' a' = f k' a' := if_neg h
def ww_sI (M : ww_M) (k a : Nat) (v : Int32) : ww_M := (M.1, ww_u2 (ww_I M) k a v, M.2.2)
def ww_sR (M : ww_M) (k a : Nat) (v : Option Nat) : ww_M := (M.1, M.2.1, ww_u2 (ww_R M) k a v, M.2.2.2)
def ww_sX (M : ww_M) (a i : Nat) (v : Int32) : ww_M := (M.1, M.2.1, M.2.2.1, ww_u2 (ww_X M) a i v, M.2.2.2.2)
def ww_sY (M : ww_M) (a i : Nat) (v : Option Nat) : ww_M := (M.1, M.2.1, M.2.2.1, M.2.2.2.1, ww_u2 (ww_Y M) a i v, M.2.2.2.2.2)
def ww_sZ (M : ww_M) (a i : Nat) (v : Int64) : ww_M := (M.1, M.2.1, M.2.2.1, M.2.2.2.1, M.2.2.2.2.1, ww_u2 (ww_Z M) a i v)
/-- a whole row of references anew (System.arraycopy) -/
def ww_cY (M : ww_M) (a : Nat) (f : Nat → Option Nat) : ww_M := (M.1, M.2.1, M.2.2.1, M.2.2.2.1, (fun a' => if a' = a then f else ww_Y M a'), M.2.2.2.2.2)
/-- a new object or array q of kind κ and length n -/
def ww_nw (M : ww_M) (q κ n : Nat) : ww_M := ((ww_L M ++ [q], va_up (ww_K M) q κ, va_up (ww_N M) q n), (fun k a => if a = q then 0 else ww_I M k a), (fun k a => if a = q then none else ww_R M k a), (fun a i => if a = q then 0 else ww_X M a i), (fun a i => if a = q then none else ww_Y M a i), (fun a i => if a = q then 0 else ww_Z M a i))
def ww_nf : Nat → Nat := fun κ => match κ with
  | 0 => 3
  | 1 => 3
  | 2 => 3
  | 3 => 2
  | 4 => 18
  | 5 => 4
  | 6 => 5
  | 7 => 4
  | 8 => 33
  | _ => 0
def ww_ir (f : Nat) : Bool := f == 1 || (f == 120 || f == 121) || (164 ≤ f && f ≤ 166) || (240 ≤ f && f ≤ 242) || (280 ≤ f && f ≤ 283) || (322 ≤ f && f ≤ 342) || (344 ≤ f && f ≤ 345) || (347 ≤ f && f ≤ 352)
def ww_fv (M : ww_M) (f a : Nat) : Value := if ww_ir f = true then va_rf (ww_R M f a) else .int (ww_I M f a)
def ww_fs (M : ww_M) (κ a : Nat) : List Value := (List.range (ww_nf κ)).map (fun k => ww_fv M (40 * κ + k) a)
def ww_E (cy : Nat → ClassId) (M : ww_M) (a : Nat) : va_E :=
  if ww_K M a < 9 then .inr (ww_K M a, ww_fs M (ww_K M a) a)
  else if ww_K M a < 11 then .inl (cy (ww_K M a), ww_N M a, .inl (ww_X M a))
  else if ww_K M a < 13 then .inl (cy (ww_K M a), ww_N M a, .inr (.inr (.inr (.inr (ww_Y M a)))))
  else .inl (cy (ww_K M a), ww_N M a, .inr (.inl (ww_Z M a)))
def ww_W (cy : Nat → ClassId) (M : ww_M) : va_W := va_pl (ww_L M) (ww_E cy M)
theorem ww_fs_get {M : ww_M} {κ a k : Nat} (hk : k < ww_nf κ) : (ww_fs M κ a)[k]? = some (ww_fv M (40 * κ + k) a) := by
  simp [ww_fs, hk]
theorem ww_fs_len {M : ww_M} {κ a : Nat} : (ww_fs M κ a).length = ww_nf κ := by simp [ww_fs]
theorem ww_fs_set {M M' : ww_M} {κ a k : Nat} {v : Value} (h1 : ww_fv M' (40 * κ + k) a = v) (h2 : ∀ j, j ≠ k → ww_fv M' (40 * κ + j) a = ww_fv M (40 * κ + j) a) : (ww_fs M κ a).set k v = ww_fs M' κ a := by
  apply List.ext_getElem?
  intro j
  by_cases hj : j < ww_nf κ
  · by_cases hjk : j = k
    · subst hjk
      rw [List.getElem?_set_self (by rw [ww_fs_len]; exact hj), ww_fs_get hj, h1]
    · rw [List.getElem?_set_ne (Ne.symm hjk), ww_fs_get hj, ww_fs_get hj, h2 j hjk]
  · rw [List.getElem?_eq_none (by rw [List.length_set, ww_fs_len]; omega), List.getElem?_eq_none (by rw [ww_fs_len]; omega)]
theorem ww_fs_congr {M M' : ww_M} {κ a : Nat} (h : ∀ k, ww_fv M' (40 * κ + k) a = ww_fv M (40 * κ + k) a) : ww_fs M' κ a = ww_fs M κ a := by
  unfold ww_fs
  exact List.map_congr_left (fun k _ => h k)
/-- how an update of the world's entry at a is an update of the memory -/
theorem ww_W_set {cy : Nat → ClassId} {A : Nat → Prop} {M M' : ww_M} {a j : Nat} {e : va_E} (hD : va_D A (ww_W cy M)) (ha : a ∈ ww_L M) (hj : (ww_W cy M)[j]? = some (a, ww_E cy M a)) (h0 : M'.1 = M.1) (h1 : ww_E cy M' a = e) (h2 : ∀ b, b ≠ a → ww_E cy M' b = ww_E cy M b) : (ww_W cy M).set j (a, e) = ww_W cy M' := by
  have h := va_pl_set (X := []) (L := ww_L M) (f := ww_E cy M) (A := A) (a := a) (k := j) (e := e) hD ha hj
  have e1 : ([] ++ va_pl (ww_L M) (ww_E cy M)) = ww_W cy M := rfl
  have e2 : ([] ++ va_pl (ww_L M) (va_up (ww_E cy M) a e)) = va_pl (ww_L M) (va_up (ww_E cy M) a e) := rfl
  rw [e1, e2] at h
  rw [h]
  have hL : ww_L M' = ww_L M := by unfold ww_L; rw [h0]
  show va_pl (ww_L M) _ = va_pl (ww_L M') (ww_E cy M')
  rw [hL]
  apply va_pl_congr
  intro b
  unfold va_up
  by_cases hb : b = a
  · subst hb; rw [if_pos rfl, h1]
  · rw [if_neg hb, h2 b hb]
theorem ww_W_get {cy : Nat → ClassId} {M : ww_M} {a : Nat} (ha : a ∈ ww_L M) : ∃ j : Nat, (ww_W cy M)[j]? = some (a, ww_E cy M a) := va_pl_get (X := []) ha
theorem ww_E_o {cy : Nat → ClassId} {M : ww_M} {a κ : Nat} (hK : ww_K M a = κ) (h : κ < 9) : ww_E cy M a = .inr (κ, ww_fs M κ a) := by
  unfold ww_E; rw [hK, if_pos h]
theorem ww_E_i {cy : Nat → ClassId} {M : ww_M} {a κ : Nat} (hK : ww_K M a = κ) (h : 9 ≤ κ) (h2 : κ < 11) : ww_E cy M a = .inl (cy κ, ww_N M a, .inl (ww_X M a)) := by
  unfold ww_E; rw [hK, if_neg (by omega), if_pos h2]
theorem ww_E_r {cy : Nat → ClassId} {M : ww_M} {a κ : Nat} (hK : ww_K M a = κ) (h : 11 ≤ κ) (h2 : κ < 13) : ww_E cy M a = .inl (cy κ, ww_N M a, .inr (.inr (.inr (.inr (ww_Y M a))))) := by
  unfold ww_E; rw [hK, if_neg (by omega), if_neg (by omega), if_pos h2]
theorem ww_E_l {cy : Nat → ClassId} {M : ww_M} {a : Nat} (hK : ww_K M a = 13) : ww_E cy M a = .inl (cy 13, ww_N M a, .inr (.inl (ww_Z M a))) := by
  unfold ww_E; rw [hK, if_neg (by omega), if_neg (by omega), if_neg (by omega)]
/-- a push of the world's is a new thing of the memory's -/
theorem ww_W_push {cy : Nat → ClassId} {M : ww_M} {q κ n : Nat} {e : va_E} (hq : q ∉ ww_L M) (h1 : ww_E cy (ww_nw M q κ n) q = e) : ww_W cy M ++ [(q, e)] = ww_W cy (ww_nw M q κ n) := by
  show va_pl (ww_L M) (ww_E cy M) ++ [(q, e)] = va_pl (ww_L M ++ [q]) (ww_E cy (ww_nw M q κ n))
  rw [va_pl_push hq]
  apply va_pl_congr
  intro b
  unfold va_up
  by_cases hb : b = q
  · subst hb; rw [if_pos rfl, h1]
  · rw [if_neg hb]
    have hKb : ww_K (ww_nw M q κ n) b = ww_K M b := if_neg hb
    have hNb : ww_N (ww_nw M q κ n) b = ww_N M b := if_neg hb
    have hX : ww_X (ww_nw M q κ n) b = ww_X M b := funext fun i => if_neg hb
    have hY : ww_Y (ww_nw M q κ n) b = ww_Y M b := funext fun i => if_neg hb
    have hZ : ww_Z (ww_nw M q κ n) b = ww_Z M b := funext fun i => if_neg hb
    have hfs : ∀ k, ww_fs (ww_nw M q κ n) k b = ww_fs M k b := fun k => ww_fs_congr fun j => by
      have hI : ww_I (ww_nw M q κ n) (40 * k + j) b = ww_I M (40 * k + j) b := if_neg hb
      have hR : ww_R (ww_nw M q κ n) (40 * k + j) b = ww_R M (40 * k + j) b := if_neg hb
      unfold ww_fv; rw [hI, hR]
    unfold ww_E
    rw [hKb, hNb, hX, hY, hZ, hfs]
/-! ===== the words, the state's facts, contracts, the judgement ===== -/
/-- base of the pool, the classes' numbers, the array classes by kind, the empty array of ArrayList's, the script: cell, length, contents; the Class object of Object[] -/
abbrev ww_G : Type := Nat × va_G × (Nat → ClassId) × Nat × Nat × Nat × (Nat → Int32) × Nat
abbrev ww_ge (g : ww_G) : Nat := g.2.2.2.1
abbrev ww_gb (g : ww_G) : Nat := g.2.2.2.2.1
abbrev ww_gl (g : ww_G) : Nat := g.2.2.2.2.2.1
abbrev ww_gx (g : ww_G) : Nat → Int32 := g.2.2.2.2.2.2.1
abbrev ww_gm (g : ww_G) : Nat := g.2.2.2.2.2.2.2
def ww_gA (g : ww_G) : Nat → Prop := fun q => g.1 ≤ q
def ww_ty (g : ww_G) : List (ClassId × FieldType) := [(g.2.2.1 9, .int), (g.2.2.1 10, .int), (g.2.2.1 11, .object "WheelWorks$KindLimits"), (g.2.2.1 12, .object "java/lang/Object"), (g.2.2.1 13, .int)]
def ww_GW : List Cond := lw_tbl.filter goodWord
theorem ww_gw {w : Cond} (h : w ∈ lw_tbl) (hg : goodWord w = true) : w ∈ ww_GW := List.mem_filter.mpr ⟨h, hg⟩
theorem ww_GW_good {big : List Cond} (h : ∀ w ∈ ww_GW, w ∈ big) : GoodIn big ww_GW := fun w hw => ⟨h w hw, good_of_word (List.mem_filter.mp hw).2⟩
theorem ww_word {args a' : Array Value} {s U : State} (hW : s.WarmedH U.vm) {w : Cond} (h : w ∈ ww_GW) (hs : w.before args s = true) : w.before a' U = true := word_at hW (good_of_word (List.mem_filter.mp h).2) hs
def ww_F (g : ww_G) (U : State) (H : Heap) : Prop :=
  (g.1 ≤ H.size ∧ va_K g.2.1 vwCl (ww_ty g) U) ∧
  (va_Z RJx4a65c "DEFAULTCAPACITY_EMPTY_ELEMENTDATA" "[Ljava/lang/Object;" (.ref (ww_ge g)) (ww_gA g) U H ∧ va_T (.object "java/lang/Object") (ww_ge g) 0 (fun _ => .null) (ww_gA g) U H) ∧
  (vx_Zq Bundle.tN "UNASSIGNED_STACK" Bundle.steD (ww_gA g) U H ∧ vx_Zq Bundle.tN "SUPPRESSED_SENTINEL" Bundle.listD (ww_gA g) U H) ∧
  (va_X (ww_gb g) (ww_gl g) (ww_gx g) U H ∧ ¬ ww_gA g (ww_gb g) ∧ ww_gb g < H.size) ∧
  (∀ q ∈ ww_str, ∃ a, vk_R q.1 q.2.1 q.2.2 a U) ∧ ((∀ q ∈ ww_ca, va_Nw (.castable q.1 q.2) U) ∧ (∀ x ∈ ww_de, va_Nw (.declares x) U) ∧ (∀ q ∈ ww_ne, va_Nw (.methodLinkNest q.1 q.2.1 q.2.2.1 q.2.2.2) U) ∧ (∀ q ∈ ww_nc, va_Nc q.1 q.2 U)) ∧
  (va_Mi "[Ljava/lang/Object;" (ww_gm g) U ∧ va_AO "java/lang/Object" U ∧ va_AO "WheelWorks$KindLimits" U)
theorem ww_F_to {g : ww_G} {s U : State} {H : Heap} (hW : s.WarmedH U.vm) (h : ww_F g s s.heap) (h1 : s.heap.size ≤ H.size) (h2 : ∀ q : Nat, q < s.heap.size → ¬ ww_gA g q → H[q]? = s.heap[q]?) : ww_F g U H := by
  obtain ⟨⟨a1, a2⟩, ⟨b1, b2⟩, ⟨c1, c2⟩, ⟨d1, d2, d3⟩, e1, ⟨f1, f2, f3, f4⟩, g1, g2, g3⟩ := h
  have ha := hW.alike
  exact ⟨⟨Nat.le_trans a1 h1, va_K.moved ha a2⟩, ⟨va_Z.moved ha (b1.kept h2), va_T.moved ha (b2.kept h2)⟩, ⟨vx_Zq.moved ha (c1.kept h2), vx_Zq.moved ha (c2.kept h2)⟩,
    ⟨va_X.moved ha (d1.kept (h2 _ d3 d2)), d2, Nat.lt_of_lt_of_le d3 h1⟩,
    fun q hq => by obtain ⟨a, h⟩ := e1 q hq; exact ⟨a, vk_R.warm hW h⟩,
    ⟨fun q hq => va_Nw.warmC hW (f1 q hq), fun q hq => va_Nw.warmD hW (f2 q hq), fun q hq => va_Nw.warmM hW (f3 q hq), fun q hq => va_Nc.moved ha (f4 q hq)⟩,
    va_Mi.moved ha g1, va_AO.moved ha g2, va_AO.moved ha g3⟩
def ww_H (g : ww_G) (M : ww_M) (H : Heap) : Prop := va_P g.2.1 vwCl (ww_W g.2.2.1 M) H ∧ va_D (ww_gA g) (ww_W g.2.2.1 M)
/-- a method: name, code, locals, what it returns, its handlers -/
abbrev ww_Yd : Type := MethodName × ByteArray × Nat × Option FieldType × List (Nat × Nat × Nat × Nat)
def ww_hd (Y : ww_Yd) : Cond := match Y.2.2.2.2 with
  | [] => .code Y.1 Y.2.1 Y.2.2.1 Y.2.2.2.1
  | h :: t => .codeWith Y.1 Y.2.1 Y.2.2.1 Y.2.2.2.1 (h :: t)
def ww_rm (d mc ms : Nat) : Room := { frames := d, cells := mc, slots := ms, locals := 100 * d }
def ww_Pc (g : ww_G) (av : List Value) (M : ww_M) : Array Value → State → Prop := fun v U => v = av.toArray ∧ ww_F g U U.heap ∧ ww_H g M U.heap
def ww_Qc (g : ww_G) (Q : Option Value → ww_M → Prop) : Array Value → State → Outcome → State → Prop := fun _ st o t => (∃ v M', o = .returned v ∧ Q v M' ∧ ww_H g M' t.heap) ∧ va_F (ww_gA g) st t
def ww_Xc (g : ww_G) (X : String → ww_M → Prop) : String → State → State → Prop := fun E st t => (∃ M', X E M' ∧ ww_H g M' t.heap) ∧ va_F (ww_gA g) st t
/-- the contract of a method, from the memory M with the arguments av -/
def ww_C (g : ww_G) (Y : ww_Yd) (d mc ms : Nat) (av : List Value) (M : ww_M) (Q : Option Value → ww_M → Prop) (X : String → ww_M → Prop) : Prop :=
  ∀ l : Launch, l.stackTraces = false → vx_Met l Y.1 (ww_hd Y :: ww_GW) (ww_rm d mc ms) (ww_Pc g av M) (ww_Qc g Q) (ww_Xc g X) mc ms (ww_gA g)
theorem ww_blind {g : ww_G} {av : List Value} {M : ww_M} : FrameBlind (ww_Pc g av M) := fun a U f mk h =>
  ⟨h.1, ww_F_to (s := U) (U := U.calling f mk a) (State.WarmedH.refl U) h.2.1 (Nat.le_refl _) (fun _ _ _ => rfl), h.2.2⟩
def ww_Cx (g : ww_G) (Y : ww_Yd) (d : Nat) (p : Program) (l : Launch) (R : Room) (s : State) (m : MethodId) (args : Array Value) (meth : Method) (c : Code) : Prop :=
  p.tables.exec = Jvm.exec ∧ c.code = Y.2.1 ∧ c.maxLocals = Y.2.2.1 ∧ (meth.sig.returnType = Y.2.2.2.1 ∧ meth.locks = false ∧ meth.name = Y.1.name) ∧ c.exceptionTable.toList = tableOf Y.2.2.2.2 ∧ s.vm.findClass Y.1.cls = some m.cls ∧ (∀ w ∈ ww_GW, w.before args s = true) ∧ l.stackTraces = false ∧ ww_F g s s.heap ∧ d ≤ R.frames ∧ 100 * d ≤ R.locals
def ww_lv (ls : Array Slot) (n : Nat) (lv : List (Nat × Value)) : Prop := lv_has ls n lv ∧ ∀ q ∈ lv, q.2.category = 1
/-- the judgement: the method Y at pc, with locals lv and operand stack st, in the memory M, with d frames, kc cells and ks slots left, comes to its end: it returns v in M' with Q v M', or throws E in M' with X E M' -/
def ww_A (g : ww_G) (Y : ww_Yd) (d kc ks : Nat) (M : ww_M) (pc : Nat) (lv : List (Nat × Value)) (st : List Value) (Q : Option Value → ww_M → Prop) (X : String → ww_M → Prop) : Prop :=
  ∀ (p : Program) (l : Launch) (e : Env) (R : Room) (s : State) (m : MethodId) (args : Array Value) (below : List Frame) (meth : Method) (c : Code) (H : Heap) (locs : List Loc) (cells slots mc ms : Nat) (ls : Array Slot),
    ww_Cx g Y d p l R s m args meth c → (cells + kc ≤ mc ∧ slots + ks ≤ ms ∧ mc ≤ R.cells ∧ ms ≤ R.slots) → ww_lv ls Y.2.2.1 lv → ww_H g M H → va_S (ww_gA g) s.heap H locs →
    W p l e R s m args below meth c H locs cells slots (vx_MQ below (ww_Qc g Q) (ww_Xc g X) args s mc ms (ww_gA g)) (F0 m pc ls st)
/-- an empty table where the code's word says so -/
theorem ww_table0 {p : Program} {l : Launch} {x : MethodName} {S : Spec} {cc : ByteArray} {maxL : Nat} {ret : Option FieldType} {e : Env} {s s₁ : State} {m : MethodId} {args : Array Value} {below : List Frame} {meth : Method} {c : Code}
    (B : BodyLoose p l x S cc maxL ret e s m args below meth c s₁) (h : (Cond.code x cc maxL ret).before args s = true) : c.exceptionTable.toList = [] := by
  obtain ⟨meth', c', h1, h2, -, -, -, -, h7, -⟩ := Cond.code_spec B.named h
  cases B.method.symm.trans h1
  have h3 := (Stand.of_body B).code
  cases h3.symm.trans h2
  have h8 : c.exceptionTable = #[] := by simpa using h7
  rw [h8]
theorem ww_enter {g : ww_G} {Y : ww_Yd} {d mc ms : Nat} {av : List Value} {M : ww_M} {Q : Option Value → ww_M → Prop} {X : String → ww_M → Prop} (hn : plainName Y.1.cls = true) (hlen : (lg_sl av).length ≤ Y.2.2.1) (hcat : ∀ q ∈ lv_args 0 av, q.2.category = 1) (k : ww_A g Y d mc ms M 0 (lv_args 0 av) [] Q X) : ww_C g Y d mc ms av M Q X := by
  intro l hl
  obtain ⟨y, bytes, maxL, ret, hh⟩ := Y
  cases hh with
  | nil =>
    refine vx_ofW (cc := bytes) (maxL := maxL) (ret := ret) (ws' := ww_GW) hn rfl ?_
    intro p e s m args below meth c s₁ B hml hout hv
    obtain ⟨rfl, hF, hH⟩ := hv
    have hts := atoms_spec (ws := ww_hd (y, bytes, maxL, ret, []) :: ww_GW) B.pre
    rw [lg_entry_eq]
    exact k p l e _ s m _ below meth c s.heap [] 0 0 mc ms _ ⟨B.exec, B.bytes, hml, ⟨B.returns, B.notSynchronized, (name_of_methodNamed B.named B.method).1⟩, ww_table0 B (hts _ List.mem_cons_self), findClass_of_methodNamed B.named, fun w hw => hts w (List.mem_cons_of_mem _ hw), hl, hF, Nat.le_refl _, Nat.le_refl _⟩ ⟨by omega, by omega, Nat.le_refl _, Nat.le_refl _⟩ ⟨lv_entry av hlen, hcat⟩ hH va_S.rf
  | cons h0 h1 =>
    refine vx_ofWH (cc := bytes) (maxL := maxL) (ret := ret) (hh := h0 :: h1) (ws' := ww_GW) hn rfl ?_
    intro p e s m args below meth c s₁ B hml hv
    obtain ⟨rfl, hF, hH⟩ := hv
    have hts := atoms_spec (ws := ww_hd (y, bytes, maxL, ret, h0 :: h1) :: ww_GW) B.pre
    rw [lg_entry_eq]
    exact k p l e _ s m _ below meth c s.heap [] 0 0 mc ms _ ⟨B.exec, B.bytes, hml, ⟨B.returns, B.notSynchronized, (name_of_methodNamed B.named B.method).1⟩, vx_table (x := y) B (hts _ List.mem_cons_self), findClass_of_methodNamed B.named, fun w hw => hts w (List.mem_cons_of_mem _ hw), hl, hF, Nat.le_refl _, Nat.le_refl _⟩ ⟨by omega, by omega, Nat.le_refl _, Nat.le_refl _⟩ ⟨lv_entry av hlen, hcat⟩ hH va_S.rf
end
section
/-! ===== the rules of the judgement, an instruction each ===== -/
def ww_at : List (Nat × Value) → Nat → Option Value
  | [], _ => none
  | q :: t, i => if q.1 = i then some q.2 else ww_at t i
theorem ww_at_mem {i : Nat} {v : Value} : ∀ {lv : List (Nat × Value)}, ww_at lv i = some v → (i, v) ∈ lv
  | [], h => by cases h
  | q :: t, h => by
    unfold ww_at at h
    by_cases hq : q.1 = i
    · rw [if_pos hq] at h
      cases h
      subst hq
      exact List.mem_cons_self
    · rw [if_neg hq] at h
      exact List.mem_cons_of_mem _ (ww_at_mem h)
def ww_put (i : Nat) (v : Value) : List (Nat × Value) → List (Nat × Value)
  | [] => [(i, v)]
  | q :: t => if q.1 = i then ww_put i v t else if q.1 < i then q :: ww_put i v t else (i, v) :: q :: t.filter (fun q => !(q.1 == i))
theorem ww_put_mem {i : Nat} {v : Value} {q : Nat × Value} : ∀ {lv : List (Nat × Value)}, q ∈ ww_put i v lv → q = (i, v) ∨ (q ∈ lv ∧ q.1 ≠ i)
  | [], h => by
    unfold ww_put at h
    exact Or.inl (List.mem_singleton.mp h)
  | r :: t, h => by
    unfold ww_put at h
    by_cases h1 : r.1 = i
    · rw [if_pos h1] at h
      rcases ww_put_mem h with h2 | ⟨h2, h3⟩
      · exact Or.inl h2
      · exact Or.inr ⟨List.mem_cons_of_mem _ h2, h3⟩
    · rw [if_neg h1] at h
      by_cases h4 : r.1 < i
      · rw [if_pos h4] at h
        rcases List.mem_cons.mp h with h2 | h2
        · subst h2; exact Or.inr ⟨List.mem_cons_self, h1⟩
        · rcases ww_put_mem h2 with h2 | ⟨h2, h3⟩
          · exact Or.inl h2
          · exact Or.inr ⟨List.mem_cons_of_mem _ h2, h3⟩
      · rw [if_neg h4] at h
        rcases List.mem_cons.mp h with h2 | h2
        · exact Or.inl h2
        · rcases List.mem_cons.mp h2 with h2 | h2
          · subst h2; exact Or.inr ⟨List.mem_cons_self, h1⟩
          · have h5 := List.mem_filter.mp h2
            exact Or.inr ⟨List.mem_cons_of_mem _ h5.1, by simpa using h5.2⟩
/-- the listed values stand in lv -/
def ww_le : List (Nat × Value) → List (Nat × Value) → Prop
  | [], _ => True
  | q :: t, lv => ww_at lv q.1 = some q.2 ∧ ww_le t lv
theorem ww_le_mem {lv : List (Nat × Value)} : ∀ {l2 : List (Nat × Value)}, ww_le l2 lv → ∀ q ∈ l2, q ∈ lv
  | [], _, q, hq => by cases hq
  | r :: t, h, q, hq => by
    rcases List.mem_cons.mp hq with h2 | h2
    · subst h2; exact ww_at_mem h.1
    · exact ww_le_mem h.2 q h2
theorem ww_lv_get {ls : Array Slot} {n i : Nat} {lv : List (Nat × Value)} {v : Value} (h : ww_lv ls n lv) (ha : ww_at lv i = some v) : ls[i]? = some (.val v) := h.1.2.2 (i, v) (ww_at_mem ha)
theorem ww_lv_put {ls : Array Slot} {n i : Nat} {lv : List (Nat × Value)} {v : Value} (h0 : ∀ q ∈ lv, q.2.category = 1) (hv : v.category = 1) (h : lv_has ls n ((i, v) :: lv.filter (fun q => !(q.1 == i) && !(q.1 + 1 == i && q.2.category == 2)))) : ww_lv ls n (ww_put i v lv) := by
  refine ⟨⟨h.1, h.2.1, fun q hq => ?_⟩, fun q hq => ?_⟩
  · rcases ww_put_mem hq with h2 | ⟨h2, h3⟩
    · subst h2; exact h.2.2 _ List.mem_cons_self
    · refine h.2.2 q (List.mem_cons_of_mem _ (List.mem_filter.mpr ⟨h2, ?_⟩))
      have h4 := h0 q h2
      simp [h3, h4]
  · rcases ww_put_mem hq with h2 | ⟨h2, -⟩
    · subst h2; exact hv
    · exact h0 q h2
theorem ww_rf_cat (r : Option Nat) : (va_rf r).category = 1 := by cases r <;> rfl
theorem ww_rf_ref (r : Option Nat) : va_rf r = .null ∨ ∃ a, va_rf r = .ref a := by
  cases r with
  | none => exact Or.inl rfl
  | some a => exact Or.inr ⟨a, rfl⟩
section WWR
variable {g : ww_G} {Y : ww_Yd} {d kc ks : Nat} {M : ww_M} {pc : Nat} {lv : List (Nat × Value)} {st : List Value} {Q : Option Value → ww_M → Prop} {X : String → ww_M → Prop}
theorem ww_iconst {n : Int} {v : Int32} (hd : decode Y.2.1 pc = .ok (.iconst n, 1)) (hv : Int32.ofInt n = v) (k : ww_A g Y d kc ks M (pc + 1) lv (.int v :: st) Q X) : ww_A g Y d kc ks M (pc) lv (st) Q X := fun p l e R s m args below meth c H locs cells slots mc ms ls C B hl hH hS => lv_iconst C.1 C.2.1 hd hv (k p l e R s m args below meth c H locs cells slots mc ms ls C B hl hH hS)
theorem ww_bipush {n : Int} {v : Int32} (hd : decode Y.2.1 pc = .ok (.bipush n, 2)) (hv : (Int8.ofInt n).toInt32 = v) (k : ww_A g Y d kc ks M (pc + 2) lv (.int v :: st) Q X) : ww_A g Y d kc ks M (pc) lv (st) Q X := fun p l e R s m args below meth c H locs cells slots mc ms ls C B hl hH hS => lv_bipush C.1 C.2.1 hd hv (k p l e R s m args below meth c H locs cells slots mc ms ls C B hl hH hS)
theorem ww_sipush {n : Int} {v : Int32} (hd : decode Y.2.1 pc = .ok (.sipush n, 3)) (hv : (Int16.ofInt n).toInt32 = v) (k : ww_A g Y d kc ks M (pc + 3) lv (.int v :: st) Q X) : ww_A g Y d kc ks M (pc) lv (st) Q X := fun p l e R s m args below meth c H locs cells slots mc ms ls C B hl hH hS => lv_sipush C.1 C.2.1 hd hv (k p l e R s m args below meth c H locs cells slots mc ms ls C B hl hH hS)
theorem ww_lconst {n : Fin 2} {v : Int64} (hd : decode Y.2.1 pc = .ok (.lconst n, 1)) (hv : Int64.ofNat (n : Nat) = v) (k : ww_A g Y d kc ks M (pc + 1) lv (.long v :: st) Q X) : ww_A g Y d kc ks M (pc) lv (st) Q X := fun p l e R s m args below meth c H locs cells slots mc ms ls C B hl hH hS => lv_lconst C.1 C.2.1 hd hv (k p l e R s m args below meth c H locs cells slots mc ms ls C B hl hH hS)
theorem ww_ldc {i : Nat} {v : Int32} (hd : decode Y.2.1 pc = .ok (.ldc i, 2)) (hw : Cond.constant Y.1.cls i v ∈ ww_GW) (k : ww_A g Y d kc ks M (pc + 2) lv (.int v :: st) Q X) : ww_A g Y d kc ks M (pc) lv (st) Q X := fun p l e R s m args below meth c H locs cells slots mc ms ls C B hl hH hS => lv_ldc C.1 C.2.1 C.2.2.2.2.2.1 (C.2.2.2.2.2.2.1 _ hw) hd (k p l e R s m args below meth c H locs cells slots mc ms ls C B hl hH hS)
theorem ww_ldc_w {i : Nat} {v : Int32} (hd : decode Y.2.1 pc = .ok (.ldc_w i, 3)) (hw : Cond.constant Y.1.cls i v ∈ ww_GW) (k : ww_A g Y d kc ks M (pc + 3) lv (.int v :: st) Q X) : ww_A g Y d kc ks M (pc) lv (st) Q X := fun p l e R s m args below meth c H locs cells slots mc ms ls C B hl hH hS => lv_ldcw C.1 C.2.1 C.2.2.2.2.2.1 (C.2.2.2.2.2.2.1 _ hw) hd (k p l e R s m args below meth c H locs cells slots mc ms ls C B hl hH hS)
theorem ww_null  (hd : decode Y.2.1 pc = .ok (.aconst_null, 1))  (k : ww_A g Y d kc ks M (pc + 1) lv (.null :: st) Q X) : ww_A g Y d kc ks M (pc) lv (st) Q X := fun p l e R s m args below meth c H locs cells slots mc ms ls C B hl hH hS => lv_null C.1 C.2.1 hd (k p l e R s m args below meth c H locs cells slots mc ms ls C B hl hH hS)
theorem ww_iload_n {j : Fin 4} {i : Nat} {x : Int32} (hd : decode Y.2.1 pc = .ok (.iload_n j, 1)) (hi : (j : Nat) = i) (ha : ww_at lv i = some (.int x)) (k : ww_A g Y d kc ks M (pc + 1) lv (.int x :: st) Q X) : ww_A g Y d kc ks M (pc) lv (st) Q X := fun p l e R s m args below meth c H locs cells slots mc ms ls C B hl hH hS => lv_iload_n C.1 C.2.1 hd hi (ww_lv_get hl ha) (k p l e R s m args below meth c H locs cells slots mc ms ls C B hl hH hS)
theorem ww_iload {i : Nat} {x : Int32} (hd : decode Y.2.1 pc = .ok (.iload i, 2)) (ha : ww_at lv i = some (.int x)) (k : ww_A g Y d kc ks M (pc + 2) lv (.int x :: st) Q X) : ww_A g Y d kc ks M (pc) lv (st) Q X := fun p l e R s m args below meth c H locs cells slots mc ms ls C B hl hH hS => lv_iload C.1 C.2.1 hd (ww_lv_get hl ha) (k p l e R s m args below meth c H locs cells slots mc ms ls C B hl hH hS)
theorem ww_aload_n {j : Fin 4} {i a : Nat} (hd : decode Y.2.1 pc = .ok (.aload_n j, 1)) (hi : (j : Nat) = i) (ha : ww_at lv i = some (.ref a)) (k : ww_A g Y d kc ks M (pc + 1) lv (.ref a :: st) Q X) : ww_A g Y d kc ks M (pc) lv (st) Q X := fun p l e R s m args below meth c H locs cells slots mc ms ls C B hl hH hS => lv_aload_n C.1 C.2.1 hd hi (ww_lv_get hl ha) (k p l e R s m args below meth c H locs cells slots mc ms ls C B hl hH hS)
theorem ww_aload {i a : Nat} (hd : decode Y.2.1 pc = .ok (.aload i, 2)) (ha : ww_at lv i = some (.ref a)) (k : ww_A g Y d kc ks M (pc + 2) lv (.ref a :: st) Q X) : ww_A g Y d kc ks M (pc) lv (st) Q X := fun p l e R s m args below meth c H locs cells slots mc ms ls C B hl hH hS => lv_aload C.1 C.2.1 hd (ww_lv_get hl ha) (k p l e R s m args below meth c H locs cells slots mc ms ls C B hl hH hS)
theorem ww_aload_nQ {j : Fin 4} {i : Nat} {r : Option Nat} (hd : decode Y.2.1 pc = .ok (.aload_n j, 1)) (hi : (j : Nat) = i) (ha : ww_at lv i = some (va_rf r)) (k : ww_A g Y d kc ks M (pc + 1) lv (va_rf r :: st) Q X) : ww_A g Y d kc ks M (pc) lv (st) Q X := by
  cases r with
  | none => exact fun p l e R s m args below meth c H locs cells slots mc ms ls C B hl hH hS => lv_aload_nN C.1 C.2.1 hd hi (ww_lv_get hl ha) (k p l e R s m args below meth c H locs cells slots mc ms ls C B hl hH hS)
  | some a => exact fun p l e R s m args below meth c H locs cells slots mc ms ls C B hl hH hS => lv_aload_n C.1 C.2.1 hd hi (ww_lv_get hl ha) (k p l e R s m args below meth c H locs cells slots mc ms ls C B hl hH hS)
theorem ww_aloadQ {i : Nat} {r : Option Nat} (hd : decode Y.2.1 pc = .ok (.aload i, 2)) (ha : ww_at lv i = some (va_rf r)) (k : ww_A g Y d kc ks M (pc + 2) lv (va_rf r :: st) Q X) : ww_A g Y d kc ks M (pc) lv (st) Q X := by
  cases r with
  | none => exact fun p l e R s m args below meth c H locs cells slots mc ms ls C B hl hH hS => lv_aloadN C.1 C.2.1 hd (ww_lv_get hl ha) (k p l e R s m args below meth c H locs cells slots mc ms ls C B hl hH hS)
  | some a => exact fun p l e R s m args below meth c H locs cells slots mc ms ls C B hl hH hS => lv_aload C.1 C.2.1 hd (ww_lv_get hl ha) (k p l e R s m args below meth c H locs cells slots mc ms ls C B hl hH hS)
theorem ww_istore_n {j : Fin 4} {i : Nat} {x : Int32} {lv2 : List (Nat × Value)} (hd : decode Y.2.1 pc = .ok (.istore_n j, 1)) (hi : (j : Nat) = i) (hn : i < Y.2.2.1) (hp : ww_put i (.int x) lv = lv2) (k : ww_A g Y d kc ks M (pc + 1) lv2 (st) Q X) : ww_A g Y d kc ks M (pc) lv (.int x :: st) Q X := fun p l e R s m args below meth c H locs cells slots mc ms ls C B hl hH hS => lv_istore_n C.1 C.2.1 hd hi hl.1 hn rfl (fun ls2 h2 => by subst hp; exact (fun hl2 => k p l e R s m args below meth c H locs cells slots mc ms ls2 C B hl2 hH hS) (ww_lv_put hl.2 rfl h2))
theorem ww_istore {i : Nat} {x : Int32} {lv2 : List (Nat × Value)} (hd : decode Y.2.1 pc = .ok (.istore i, 2)) (hn : i < Y.2.2.1) (hp : ww_put i (.int x) lv = lv2) (k : ww_A g Y d kc ks M (pc + 2) lv2 (st) Q X) : ww_A g Y d kc ks M (pc) lv (.int x :: st) Q X := fun p l e R s m args below meth c H locs cells slots mc ms ls C B hl hH hS => lv_istore C.1 C.2.1 hd hl.1 hn rfl (fun ls2 h2 => by subst hp; exact (fun hl2 => k p l e R s m args below meth c H locs cells slots mc ms ls2 C B hl2 hH hS) (ww_lv_put hl.2 rfl h2))
theorem ww_astore_n {j : Fin 4} {i a : Nat} {lv2 : List (Nat × Value)} (hd : decode Y.2.1 pc = .ok (.astore_n j, 1)) (hi : (j : Nat) = i) (hn : i < Y.2.2.1) (hp : ww_put i (.ref a) lv = lv2) (k : ww_A g Y d kc ks M (pc + 1) lv2 (st) Q X) : ww_A g Y d kc ks M (pc) lv (.ref a :: st) Q X := fun p l e R s m args below meth c H locs cells slots mc ms ls C B hl hH hS => lv_astore_n C.1 C.2.1 hd hi hl.1 hn rfl (fun ls2 h2 => by subst hp; exact (fun hl2 => k p l e R s m args below meth c H locs cells slots mc ms ls2 C B hl2 hH hS) (ww_lv_put hl.2 rfl h2))
theorem ww_astore {i a : Nat} {lv2 : List (Nat × Value)} (hd : decode Y.2.1 pc = .ok (.astore i, 2)) (hn : i < Y.2.2.1) (hp : ww_put i (.ref a) lv = lv2) (k : ww_A g Y d kc ks M (pc + 2) lv2 (st) Q X) : ww_A g Y d kc ks M (pc) lv (.ref a :: st) Q X := fun p l e R s m args below meth c H locs cells slots mc ms ls C B hl hH hS => lv_astore C.1 C.2.1 hd hl.1 hn rfl (fun ls2 h2 => by subst hp; exact (fun hl2 => k p l e R s m args below meth c H locs cells slots mc ms ls2 C B hl2 hH hS) (ww_lv_put hl.2 rfl h2))
theorem ww_astore_nQ {j : Fin 4} {i : Nat} {r : Option Nat} {lv2 : List (Nat × Value)} (hd : decode Y.2.1 pc = .ok (.astore_n j, 1)) (hi : (j : Nat) = i) (hn : i < Y.2.2.1) (hp : ww_put i (va_rf r) lv = lv2) (k : ww_A g Y d kc ks M (pc + 1) lv2 (st) Q X) : ww_A g Y d kc ks M (pc) lv (va_rf r :: st) Q X := by
  cases r with
  | none => exact fun p l e R s m args below meth c H locs cells slots mc ms ls C B hl hH hS => lv_astore_nN C.1 C.2.1 hd hi hl.1 hn rfl (fun ls2 h2 => by subst hp; exact (fun hl2 => k p l e R s m args below meth c H locs cells slots mc ms ls2 C B hl2 hH hS) (ww_lv_put hl.2 rfl h2))
  | some a => exact fun p l e R s m args below meth c H locs cells slots mc ms ls C B hl hH hS => lv_astore_n C.1 C.2.1 hd hi hl.1 hn rfl (fun ls2 h2 => by subst hp; exact (fun hl2 => k p l e R s m args below meth c H locs cells slots mc ms ls2 C B hl2 hH hS) (ww_lv_put hl.2 rfl h2))
theorem ww_astoreQ {i : Nat} {r : Option Nat} {lv2 : List (Nat × Value)} (hd : decode Y.2.1 pc = .ok (.astore i, 2)) (hn : i < Y.2.2.1) (hp : ww_put i (va_rf r) lv = lv2) (k : ww_A g Y d kc ks M (pc + 2) lv2 (st) Q X) : ww_A g Y d kc ks M (pc) lv (va_rf r :: st) Q X := by
  cases r with
  | none => exact fun p l e R s m args below meth c H locs cells slots mc ms ls C B hl hH hS => lv_astoreN C.1 C.2.1 hd hl.1 hn rfl (fun ls2 h2 => by subst hp; exact (fun hl2 => k p l e R s m args below meth c H locs cells slots mc ms ls2 C B hl2 hH hS) (ww_lv_put hl.2 rfl h2))
  | some a => exact fun p l e R s m args below meth c H locs cells slots mc ms ls C B hl hH hS => lv_astore C.1 C.2.1 hd hl.1 hn rfl (fun ls2 h2 => by subst hp; exact (fun hl2 => k p l e R s m args below meth c H locs cells slots mc ms ls2 C B hl2 hH hS) (ww_lv_put hl.2 rfl h2))
theorem ww_iinc {i : Nat} {n : Int} {x v : Int32} {lv2 : List (Nat × Value)} (hd : decode Y.2.1 pc = .ok (.iinc i n, 3)) (ha : ww_at lv i = some (.int x)) (hv : x + Int32.ofInt n = v) (hn : i < Y.2.2.1) (hp : ww_put i (.int v) lv = lv2) (k : ww_A g Y d kc ks M (pc + 3) lv2 (st) Q X) : ww_A g Y d kc ks M (pc) lv (st) Q X := fun p l e R s m args below meth c H locs cells slots mc ms ls C B hl hH hS =>  by
  obtain ⟨j, hj⟩ := List.getElem?_of_mem (ww_at_mem ha)
  exact lv_iinc C.1 C.2.1 hd hl.1 hj hv hn rfl (fun ls2 h2 => by subst hp; exact (fun hl2 => k p l e R s m args below meth c H locs cells slots mc ms ls2 C B hl2 hH hS) (ww_lv_put hl.2 rfl h2))
theorem ww_iadd {x y : Int32} (hd : decode Y.2.1 pc = .ok (.iadd, 1))  (k : ww_A g Y d kc ks M (pc + 1) lv (.int (x + y) :: st) Q X) : ww_A g Y d kc ks M (pc) lv (.int y :: .int x :: st) Q X := fun p l e R s m args below meth c H locs cells slots mc ms ls C B hl hH hS => lv_iadd C.1 C.2.1 hd (k p l e R s m args below meth c H locs cells slots mc ms ls C B hl hH hS)
theorem ww_isub {x y : Int32} (hd : decode Y.2.1 pc = .ok (.isub, 1))  (k : ww_A g Y d kc ks M (pc + 1) lv (.int (x - y) :: st) Q X) : ww_A g Y d kc ks M (pc) lv (.int y :: .int x :: st) Q X := fun p l e R s m args below meth c H locs cells slots mc ms ls C B hl hH hS => lv_isub C.1 C.2.1 hd (k p l e R s m args below meth c H locs cells slots mc ms ls C B hl hH hS)
theorem ww_imul {x y : Int32} (hd : decode Y.2.1 pc = .ok (.imul, 1))  (k : ww_A g Y d kc ks M (pc + 1) lv (.int (x * y) :: st) Q X) : ww_A g Y d kc ks M (pc) lv (.int y :: .int x :: st) Q X := fun p l e R s m args below meth c H locs cells slots mc ms ls C B hl hH hS => lv_imul C.1 C.2.1 hd (k p l e R s m args below meth c H locs cells slots mc ms ls C B hl hH hS)
theorem ww_iand {x y : Int32} (hd : decode Y.2.1 pc = .ok (.iand, 1))  (k : ww_A g Y d kc ks M (pc + 1) lv (.int (x &&& y) :: st) Q X) : ww_A g Y d kc ks M (pc) lv (.int y :: .int x :: st) Q X := fun p l e R s m args below meth c H locs cells slots mc ms ls C B hl hH hS => lv_iand C.1 C.2.1 hd (k p l e R s m args below meth c H locs cells slots mc ms ls C B hl hH hS)
theorem ww_ior {x y : Int32} (hd : decode Y.2.1 pc = .ok (.ior, 1))  (k : ww_A g Y d kc ks M (pc + 1) lv (.int (x ||| y) :: st) Q X) : ww_A g Y d kc ks M (pc) lv (.int y :: .int x :: st) Q X := fun p l e R s m args below meth c H locs cells slots mc ms ls C B hl hH hS => lv_ior C.1 C.2.1 hd (k p l e R s m args below meth c H locs cells slots mc ms ls C B hl hH hS)
theorem ww_ishl {x y : Int32} (hd : decode Y.2.1 pc = .ok (.ishl, 1))  (k : ww_A g Y d kc ks M (pc + 1) lv (.int (x <<< (y &&& 31)) :: st) Q X) : ww_A g Y d kc ks M (pc) lv (.int y :: .int x :: st) Q X := fun p l e R s m args below meth c H locs cells slots mc ms ls C B hl hH hS => lv_ishl C.1 C.2.1 hd (k p l e R s m args below meth c H locs cells slots mc ms ls C B hl hH hS)
theorem ww_ishr {x y : Int32} (hd : decode Y.2.1 pc = .ok (.ishr, 1))  (k : ww_A g Y d kc ks M (pc + 1) lv (.int (x >>> (y &&& 31)) :: st) Q X) : ww_A g Y d kc ks M (pc) lv (.int y :: .int x :: st) Q X := fun p l e R s m args below meth c H locs cells slots mc ms ls C B hl hH hS => lv_ishr C.1 C.2.1 hd (k p l e R s m args below meth c H locs cells slots mc ms ls C B hl hH hS)
theorem ww_iushr {x y v : Int32} (hd : decode Y.2.1 pc = .ok (.iushr, 1)) (hv : (x.toUInt32 >>> (y.toUInt32 &&& Int32.toUInt32 31)).toInt32 = v) (k : ww_A g Y d kc ks M (pc + 1) lv (.int v :: st) Q X) : ww_A g Y d kc ks M (pc) lv (.int y :: .int x :: st) Q X := fun p l e R s m args below meth c H locs cells slots mc ms ls C B hl hH hS => lv_iushr C.1 C.2.1 hd hv (k p l e R s m args below meth c H locs cells slots mc ms ls C B hl hH hS)
theorem ww_idiv {x y : Int32} (hd : decode Y.2.1 pc = .ok (.idiv, 1)) (hne : ¬ y = 0) (k : ww_A g Y d kc ks M (pc + 1) lv (.int (x / y) :: st) Q X) : ww_A g Y d kc ks M (pc) lv (.int y :: .int x :: st) Q X := fun p l e R s m args below meth c H locs cells slots mc ms ls C B hl hH hS => lv_idiv C.1 C.2.1 hd hne (k p l e R s m args below meth c H locs cells slots mc ms ls C B hl hH hS)
theorem ww_irem {x y : Int32} (hd : decode Y.2.1 pc = .ok (.irem, 1)) (hne : ¬ y = 0) (k : ww_A g Y d kc ks M (pc + 1) lv (.int (x - x / y * y) :: st) Q X) : ww_A g Y d kc ks M (pc) lv (.int y :: .int x :: st) Q X := fun p l e R s m args below meth c H locs cells slots mc ms ls C B hl hH hS => lv_irem C.1 C.2.1 hd hne (k p l e R s m args below meth c H locs cells slots mc ms ls C B hl hH hS)
theorem ww_ineg {x : Int32} (hd : decode Y.2.1 pc = .ok (.ineg, 1))  (k : ww_A g Y d kc ks M (pc + 1) lv (.int (-x) :: st) Q X) : ww_A g Y d kc ks M (pc) lv (.int x :: st) Q X := fun p l e R s m args below meth c H locs cells slots mc ms ls C B hl hH hS => lv_ineg C.1 C.2.1 hd (k p l e R s m args below meth c H locs cells slots mc ms ls C B hl hH hS)
theorem ww_i2l {x : Int32} (hd : decode Y.2.1 pc = .ok (.i2l, 1))  (k : ww_A g Y d kc ks M (pc + 1) lv (.long x.toInt64 :: st) Q X) : ww_A g Y d kc ks M (pc) lv (.int x :: st) Q X := fun p l e R s m args below meth c H locs cells slots mc ms ls C B hl hH hS => lv_i2l C.1 C.2.1 hd rfl (k p l e R s m args below meth c H locs cells slots mc ms ls C B hl hH hS)
theorem ww_lcmp {x y : Int64} (hd : decode Y.2.1 pc = .ok (.lcmp, 1))  (k : ww_A g Y d kc ks M (pc + 1) lv (.int (lg_cmp x y) :: st) Q X) : ww_A g Y d kc ks M (pc) lv (.long y :: .long x :: st) Q X := fun p l e R s m args below meth c H locs cells slots mc ms ls C B hl hH hS => W.lcmp C.1 C.2.1 hd (k p l e R s m args below meth c H locs cells slots mc ms ls C B hl hH hS)
theorem ww_dup {v : Value} (hd : decode Y.2.1 pc = .ok (.dup, 1)) (h1 : v.category = 1) (k : ww_A g Y d kc ks M (pc + 1) lv (v :: v :: st) Q X) : ww_A g Y d kc ks M (pc) lv (v :: st) Q X := fun p l e R s m args below meth c H locs cells slots mc ms ls C B hl hH hS => lv_dup C.1 C.2.1 hd h1 (k p l e R s m args below meth c H locs cells slots mc ms ls C B hl hH hS)
theorem ww_dup2 {v w : Value} (hd : decode Y.2.1 pc = .ok (.dup2, 1)) (h1 : v.category = 1) (h2 : w.category = 1) (k : ww_A g Y d kc ks M (pc + 1) lv (v :: w :: v :: w :: st) Q X) : ww_A g Y d kc ks M (pc) lv (v :: w :: st) Q X := fun p l e R s m args below meth c H locs cells slots mc ms ls C B hl hH hS => lv_dup2_11 C.1 C.2.1 hd h1 h2 (k p l e R s m args below meth c H locs cells slots mc ms ls C B hl hH hS)
theorem ww_dup_x1 {v w : Value} (hd : decode Y.2.1 pc = .ok (.dup_x1, 1)) (h1 : v.category = 1) (h2 : w.category = 1) (k : ww_A g Y d kc ks M (pc + 1) lv (v :: w :: v :: st) Q X) : ww_A g Y d kc ks M (pc) lv (v :: w :: st) Q X := fun p l e R s m args below meth c H locs cells slots mc ms ls C B hl hH hS => lv_dup_x1 C.1 C.2.1 hd h1 h2 (k p l e R s m args below meth c H locs cells slots mc ms ls C B hl hH hS)
theorem ww_pop {v : Value} (hd : decode Y.2.1 pc = .ok (.pop, 1)) (h1 : v.category = 1) (k : ww_A g Y d kc ks M (pc + 1) lv (st) Q X) : ww_A g Y d kc ks M (pc) lv (v :: st) Q X := fun p l e R s m args below meth c H locs cells slots mc ms ls C B hl hH hS => lv_pop C.1 C.2.1 hd h1 (k p l e R s m args below meth c H locs cells slots mc ms ls C B hl hH hS)
theorem ww_if_eq {x : Int32} {off : Int} {tgt : Nat} (hd : decode Y.2.1 pc = .ok (.ifCond .eq off, 3)) (ht : (pc : Int) + off = (tgt : Int)) (kt : x = 0 → ww_A g Y d kc ks M (tgt) lv (st) Q X) (kf : ¬ x = 0 → ww_A g Y d kc ks M (pc + 3) lv (st) Q X) : ww_A g Y d kc ks M (pc) lv (.int x :: st) Q X := fun p l e R s m args below meth c H locs cells slots mc ms ls C B hl hH hS => lv_if_eq C.1 C.2.1 hd ht (fun z => kt z p l e R s m args below meth c H locs cells slots mc ms ls C B hl hH hS) (fun z => kf z p l e R s m args below meth c H locs cells slots mc ms ls C B hl hH hS)
theorem ww_if_eq_t {x : Int32} {off : Int} {tgt : Nat} (hd : decode Y.2.1 pc = .ok (.ifCond .eq off, 3)) (ht : (pc : Int) + off = (tgt : Int)) (hc : x = 0) (kt : ww_A g Y d kc ks M (tgt) lv (st) Q X) : ww_A g Y d kc ks M (pc) lv (.int x :: st) Q X := ww_if_eq hd ht (fun _ => kt) (fun z => absurd hc z)
theorem ww_if_eq_f {x : Int32} {off : Int} {tgt : Nat} (hd : decode Y.2.1 pc = .ok (.ifCond .eq off, 3)) (ht : (pc : Int) + off = (tgt : Int)) (hc : ¬ x = 0) (kf : ww_A g Y d kc ks M (pc + 3) lv (st) Q X) : ww_A g Y d kc ks M (pc) lv (.int x :: st) Q X := ww_if_eq hd ht (fun z => absurd z hc) (fun _ => kf)
theorem ww_icmp_eq {x y : Int32} {off : Int} {tgt : Nat} (hd : decode Y.2.1 pc = .ok (.if_icmp .eq off, 3)) (ht : (pc : Int) + off = (tgt : Int)) (kt : x = y → ww_A g Y d kc ks M (tgt) lv (st) Q X) (kf : ¬ x = y → ww_A g Y d kc ks M (pc + 3) lv (st) Q X) : ww_A g Y d kc ks M (pc) lv (.int y :: .int x :: st) Q X := fun p l e R s m args below meth c H locs cells slots mc ms ls C B hl hH hS => lv_icmp_eq C.1 C.2.1 hd ht (fun z => kt z p l e R s m args below meth c H locs cells slots mc ms ls C B hl hH hS) (fun z => kf z p l e R s m args below meth c H locs cells slots mc ms ls C B hl hH hS)
theorem ww_icmp_eq_t {x y : Int32} {off : Int} {tgt : Nat} (hd : decode Y.2.1 pc = .ok (.if_icmp .eq off, 3)) (ht : (pc : Int) + off = (tgt : Int)) (hc : x = y) (kt : ww_A g Y d kc ks M (tgt) lv (st) Q X) : ww_A g Y d kc ks M (pc) lv (.int y :: .int x :: st) Q X := ww_icmp_eq hd ht (fun _ => kt) (fun z => absurd hc z)
theorem ww_icmp_eq_f {x y : Int32} {off : Int} {tgt : Nat} (hd : decode Y.2.1 pc = .ok (.if_icmp .eq off, 3)) (ht : (pc : Int) + off = (tgt : Int)) (hc : ¬ x = y) (kf : ww_A g Y d kc ks M (pc + 3) lv (st) Q X) : ww_A g Y d kc ks M (pc) lv (.int y :: .int x :: st) Q X := ww_icmp_eq hd ht (fun z => absurd z hc) (fun _ => kf)
theorem ww_if_ne {x : Int32} {off : Int} {tgt : Nat} (hd : decode Y.2.1 pc = .ok (.ifCond .ne off, 3)) (ht : (pc : Int) + off = (tgt : Int)) (kt : ¬ x = 0 → ww_A g Y d kc ks M (tgt) lv (st) Q X) (kf : x = 0 → ww_A g Y d kc ks M (pc + 3) lv (st) Q X) : ww_A g Y d kc ks M (pc) lv (.int x :: st) Q X := fun p l e R s m args below meth c H locs cells slots mc ms ls C B hl hH hS => lv_if_ne C.1 C.2.1 hd ht (fun z => kt z p l e R s m args below meth c H locs cells slots mc ms ls C B hl hH hS) (fun z => kf z p l e R s m args below meth c H locs cells slots mc ms ls C B hl hH hS)
theorem ww_if_ne_t {x : Int32} {off : Int} {tgt : Nat} (hd : decode Y.2.1 pc = .ok (.ifCond .ne off, 3)) (ht : (pc : Int) + off = (tgt : Int)) (hc : ¬ x = 0) (kt : ww_A g Y d kc ks M (tgt) lv (st) Q X) : ww_A g Y d kc ks M (pc) lv (.int x :: st) Q X := ww_if_ne hd ht (fun _ => kt) (fun z => absurd z hc)
theorem ww_if_ne_f {x : Int32} {off : Int} {tgt : Nat} (hd : decode Y.2.1 pc = .ok (.ifCond .ne off, 3)) (ht : (pc : Int) + off = (tgt : Int)) (hc : x = 0) (kf : ww_A g Y d kc ks M (pc + 3) lv (st) Q X) : ww_A g Y d kc ks M (pc) lv (.int x :: st) Q X := ww_if_ne hd ht (fun z => absurd hc z) (fun _ => kf)
theorem ww_icmp_ne {x y : Int32} {off : Int} {tgt : Nat} (hd : decode Y.2.1 pc = .ok (.if_icmp .ne off, 3)) (ht : (pc : Int) + off = (tgt : Int)) (kt : ¬ x = y → ww_A g Y d kc ks M (tgt) lv (st) Q X) (kf : x = y → ww_A g Y d kc ks M (pc + 3) lv (st) Q X) : ww_A g Y d kc ks M (pc) lv (.int y :: .int x :: st) Q X := fun p l e R s m args below meth c H locs cells slots mc ms ls C B hl hH hS => lv_icmp_ne C.1 C.2.1 hd ht (fun z => kt z p l e R s m args below meth c H locs cells slots mc ms ls C B hl hH hS) (fun z => kf z p l e R s m args below meth c H locs cells slots mc ms ls C B hl hH hS)
theorem ww_icmp_ne_t {x y : Int32} {off : Int} {tgt : Nat} (hd : decode Y.2.1 pc = .ok (.if_icmp .ne off, 3)) (ht : (pc : Int) + off = (tgt : Int)) (hc : ¬ x = y) (kt : ww_A g Y d kc ks M (tgt) lv (st) Q X) : ww_A g Y d kc ks M (pc) lv (.int y :: .int x :: st) Q X := ww_icmp_ne hd ht (fun _ => kt) (fun z => absurd z hc)
theorem ww_icmp_ne_f {x y : Int32} {off : Int} {tgt : Nat} (hd : decode Y.2.1 pc = .ok (.if_icmp .ne off, 3)) (ht : (pc : Int) + off = (tgt : Int)) (hc : x = y) (kf : ww_A g Y d kc ks M (pc + 3) lv (st) Q X) : ww_A g Y d kc ks M (pc) lv (.int y :: .int x :: st) Q X := ww_icmp_ne hd ht (fun z => absurd hc z) (fun _ => kf)
theorem ww_if_lt {x : Int32} {off : Int} {tgt : Nat} (hd : decode Y.2.1 pc = .ok (.ifCond .lt off, 3)) (ht : (pc : Int) + off = (tgt : Int)) (kt : x < 0 → ww_A g Y d kc ks M (tgt) lv (st) Q X) (kf : ¬ x < 0 → ww_A g Y d kc ks M (pc + 3) lv (st) Q X) : ww_A g Y d kc ks M (pc) lv (.int x :: st) Q X := fun p l e R s m args below meth c H locs cells slots mc ms ls C B hl hH hS => lv_if_lt C.1 C.2.1 hd ht (fun z => kt z p l e R s m args below meth c H locs cells slots mc ms ls C B hl hH hS) (fun z => kf z p l e R s m args below meth c H locs cells slots mc ms ls C B hl hH hS)
theorem ww_if_lt_t {x : Int32} {off : Int} {tgt : Nat} (hd : decode Y.2.1 pc = .ok (.ifCond .lt off, 3)) (ht : (pc : Int) + off = (tgt : Int)) (hc : x < 0) (kt : ww_A g Y d kc ks M (tgt) lv (st) Q X) : ww_A g Y d kc ks M (pc) lv (.int x :: st) Q X := ww_if_lt hd ht (fun _ => kt) (fun z => absurd hc z)
theorem ww_if_lt_f {x : Int32} {off : Int} {tgt : Nat} (hd : decode Y.2.1 pc = .ok (.ifCond .lt off, 3)) (ht : (pc : Int) + off = (tgt : Int)) (hc : ¬ x < 0) (kf : ww_A g Y d kc ks M (pc + 3) lv (st) Q X) : ww_A g Y d kc ks M (pc) lv (.int x :: st) Q X := ww_if_lt hd ht (fun z => absurd z hc) (fun _ => kf)
theorem ww_icmp_lt {x y : Int32} {off : Int} {tgt : Nat} (hd : decode Y.2.1 pc = .ok (.if_icmp .lt off, 3)) (ht : (pc : Int) + off = (tgt : Int)) (kt : x < y → ww_A g Y d kc ks M (tgt) lv (st) Q X) (kf : ¬ x < y → ww_A g Y d kc ks M (pc + 3) lv (st) Q X) : ww_A g Y d kc ks M (pc) lv (.int y :: .int x :: st) Q X := fun p l e R s m args below meth c H locs cells slots mc ms ls C B hl hH hS => lv_icmp_lt C.1 C.2.1 hd ht (fun z => kt z p l e R s m args below meth c H locs cells slots mc ms ls C B hl hH hS) (fun z => kf z p l e R s m args below meth c H locs cells slots mc ms ls C B hl hH hS)
theorem ww_icmp_lt_t {x y : Int32} {off : Int} {tgt : Nat} (hd : decode Y.2.1 pc = .ok (.if_icmp .lt off, 3)) (ht : (pc : Int) + off = (tgt : Int)) (hc : x < y) (kt : ww_A g Y d kc ks M (tgt) lv (st) Q X) : ww_A g Y d kc ks M (pc) lv (.int y :: .int x :: st) Q X := ww_icmp_lt hd ht (fun _ => kt) (fun z => absurd hc z)
theorem ww_icmp_lt_f {x y : Int32} {off : Int} {tgt : Nat} (hd : decode Y.2.1 pc = .ok (.if_icmp .lt off, 3)) (ht : (pc : Int) + off = (tgt : Int)) (hc : ¬ x < y) (kf : ww_A g Y d kc ks M (pc + 3) lv (st) Q X) : ww_A g Y d kc ks M (pc) lv (.int y :: .int x :: st) Q X := ww_icmp_lt hd ht (fun z => absurd z hc) (fun _ => kf)
theorem ww_if_ge {x : Int32} {off : Int} {tgt : Nat} (hd : decode Y.2.1 pc = .ok (.ifCond .ge off, 3)) (ht : (pc : Int) + off = (tgt : Int)) (kt : 0 ≤ x → ww_A g Y d kc ks M (tgt) lv (st) Q X) (kf : ¬ 0 ≤ x → ww_A g Y d kc ks M (pc + 3) lv (st) Q X) : ww_A g Y d kc ks M (pc) lv (.int x :: st) Q X := fun p l e R s m args below meth c H locs cells slots mc ms ls C B hl hH hS => lv_if_ge C.1 C.2.1 hd ht (fun z => kt z p l e R s m args below meth c H locs cells slots mc ms ls C B hl hH hS) (fun z => kf z p l e R s m args below meth c H locs cells slots mc ms ls C B hl hH hS)
theorem ww_if_ge_t {x : Int32} {off : Int} {tgt : Nat} (hd : decode Y.2.1 pc = .ok (.ifCond .ge off, 3)) (ht : (pc : Int) + off = (tgt : Int)) (hc : 0 ≤ x) (kt : ww_A g Y d kc ks M (tgt) lv (st) Q X) : ww_A g Y d kc ks M (pc) lv (.int x :: st) Q X := ww_if_ge hd ht (fun _ => kt) (fun z => absurd hc z)
theorem ww_if_ge_f {x : Int32} {off : Int} {tgt : Nat} (hd : decode Y.2.1 pc = .ok (.ifCond .ge off, 3)) (ht : (pc : Int) + off = (tgt : Int)) (hc : ¬ 0 ≤ x) (kf : ww_A g Y d kc ks M (pc + 3) lv (st) Q X) : ww_A g Y d kc ks M (pc) lv (.int x :: st) Q X := ww_if_ge hd ht (fun z => absurd z hc) (fun _ => kf)
theorem ww_icmp_ge {x y : Int32} {off : Int} {tgt : Nat} (hd : decode Y.2.1 pc = .ok (.if_icmp .ge off, 3)) (ht : (pc : Int) + off = (tgt : Int)) (kt : y ≤ x → ww_A g Y d kc ks M (tgt) lv (st) Q X) (kf : ¬ y ≤ x → ww_A g Y d kc ks M (pc + 3) lv (st) Q X) : ww_A g Y d kc ks M (pc) lv (.int y :: .int x :: st) Q X := fun p l e R s m args below meth c H locs cells slots mc ms ls C B hl hH hS => lv_icmp_ge C.1 C.2.1 hd ht (fun z => kt z p l e R s m args below meth c H locs cells slots mc ms ls C B hl hH hS) (fun z => kf z p l e R s m args below meth c H locs cells slots mc ms ls C B hl hH hS)
theorem ww_icmp_ge_t {x y : Int32} {off : Int} {tgt : Nat} (hd : decode Y.2.1 pc = .ok (.if_icmp .ge off, 3)) (ht : (pc : Int) + off = (tgt : Int)) (hc : y ≤ x) (kt : ww_A g Y d kc ks M (tgt) lv (st) Q X) : ww_A g Y d kc ks M (pc) lv (.int y :: .int x :: st) Q X := ww_icmp_ge hd ht (fun _ => kt) (fun z => absurd hc z)
theorem ww_icmp_ge_f {x y : Int32} {off : Int} {tgt : Nat} (hd : decode Y.2.1 pc = .ok (.if_icmp .ge off, 3)) (ht : (pc : Int) + off = (tgt : Int)) (hc : ¬ y ≤ x) (kf : ww_A g Y d kc ks M (pc + 3) lv (st) Q X) : ww_A g Y d kc ks M (pc) lv (.int y :: .int x :: st) Q X := ww_icmp_ge hd ht (fun z => absurd z hc) (fun _ => kf)
theorem ww_if_gt {x : Int32} {off : Int} {tgt : Nat} (hd : decode Y.2.1 pc = .ok (.ifCond .gt off, 3)) (ht : (pc : Int) + off = (tgt : Int)) (kt : 0 < x → ww_A g Y d kc ks M (tgt) lv (st) Q X) (kf : ¬ 0 < x → ww_A g Y d kc ks M (pc + 3) lv (st) Q X) : ww_A g Y d kc ks M (pc) lv (.int x :: st) Q X := fun p l e R s m args below meth c H locs cells slots mc ms ls C B hl hH hS => lv_if_gt C.1 C.2.1 hd ht (fun z => kt z p l e R s m args below meth c H locs cells slots mc ms ls C B hl hH hS) (fun z => kf z p l e R s m args below meth c H locs cells slots mc ms ls C B hl hH hS)
theorem ww_if_gt_t {x : Int32} {off : Int} {tgt : Nat} (hd : decode Y.2.1 pc = .ok (.ifCond .gt off, 3)) (ht : (pc : Int) + off = (tgt : Int)) (hc : 0 < x) (kt : ww_A g Y d kc ks M (tgt) lv (st) Q X) : ww_A g Y d kc ks M (pc) lv (.int x :: st) Q X := ww_if_gt hd ht (fun _ => kt) (fun z => absurd hc z)
theorem ww_if_gt_f {x : Int32} {off : Int} {tgt : Nat} (hd : decode Y.2.1 pc = .ok (.ifCond .gt off, 3)) (ht : (pc : Int) + off = (tgt : Int)) (hc : ¬ 0 < x) (kf : ww_A g Y d kc ks M (pc + 3) lv (st) Q X) : ww_A g Y d kc ks M (pc) lv (.int x :: st) Q X := ww_if_gt hd ht (fun z => absurd z hc) (fun _ => kf)
theorem ww_icmp_gt {x y : Int32} {off : Int} {tgt : Nat} (hd : decode Y.2.1 pc = .ok (.if_icmp .gt off, 3)) (ht : (pc : Int) + off = (tgt : Int)) (kt : y < x → ww_A g Y d kc ks M (tgt) lv (st) Q X) (kf : ¬ y < x → ww_A g Y d kc ks M (pc + 3) lv (st) Q X) : ww_A g Y d kc ks M (pc) lv (.int y :: .int x :: st) Q X := fun p l e R s m args below meth c H locs cells slots mc ms ls C B hl hH hS => lv_icmp_gt C.1 C.2.1 hd ht (fun z => kt z p l e R s m args below meth c H locs cells slots mc ms ls C B hl hH hS) (fun z => kf z p l e R s m args below meth c H locs cells slots mc ms ls C B hl hH hS)
theorem ww_icmp_gt_t {x y : Int32} {off : Int} {tgt : Nat} (hd : decode Y.2.1 pc = .ok (.if_icmp .gt off, 3)) (ht : (pc : Int) + off = (tgt : Int)) (hc : y < x) (kt : ww_A g Y d kc ks M (tgt) lv (st) Q X) : ww_A g Y d kc ks M (pc) lv (.int y :: .int x :: st) Q X := ww_icmp_gt hd ht (fun _ => kt) (fun z => absurd hc z)
theorem ww_icmp_gt_f {x y : Int32} {off : Int} {tgt : Nat} (hd : decode Y.2.1 pc = .ok (.if_icmp .gt off, 3)) (ht : (pc : Int) + off = (tgt : Int)) (hc : ¬ y < x) (kf : ww_A g Y d kc ks M (pc + 3) lv (st) Q X) : ww_A g Y d kc ks M (pc) lv (.int y :: .int x :: st) Q X := ww_icmp_gt hd ht (fun z => absurd z hc) (fun _ => kf)
theorem ww_if_le {x : Int32} {off : Int} {tgt : Nat} (hd : decode Y.2.1 pc = .ok (.ifCond .le off, 3)) (ht : (pc : Int) + off = (tgt : Int)) (kt : x ≤ 0 → ww_A g Y d kc ks M (tgt) lv (st) Q X) (kf : ¬ x ≤ 0 → ww_A g Y d kc ks M (pc + 3) lv (st) Q X) : ww_A g Y d kc ks M (pc) lv (.int x :: st) Q X := fun p l e R s m args below meth c H locs cells slots mc ms ls C B hl hH hS => lv_if_le C.1 C.2.1 hd ht (fun z => kt z p l e R s m args below meth c H locs cells slots mc ms ls C B hl hH hS) (fun z => kf z p l e R s m args below meth c H locs cells slots mc ms ls C B hl hH hS)
theorem ww_if_le_t {x : Int32} {off : Int} {tgt : Nat} (hd : decode Y.2.1 pc = .ok (.ifCond .le off, 3)) (ht : (pc : Int) + off = (tgt : Int)) (hc : x ≤ 0) (kt : ww_A g Y d kc ks M (tgt) lv (st) Q X) : ww_A g Y d kc ks M (pc) lv (.int x :: st) Q X := ww_if_le hd ht (fun _ => kt) (fun z => absurd hc z)
theorem ww_if_le_f {x : Int32} {off : Int} {tgt : Nat} (hd : decode Y.2.1 pc = .ok (.ifCond .le off, 3)) (ht : (pc : Int) + off = (tgt : Int)) (hc : ¬ x ≤ 0) (kf : ww_A g Y d kc ks M (pc + 3) lv (st) Q X) : ww_A g Y d kc ks M (pc) lv (.int x :: st) Q X := ww_if_le hd ht (fun z => absurd z hc) (fun _ => kf)
theorem ww_icmp_le {x y : Int32} {off : Int} {tgt : Nat} (hd : decode Y.2.1 pc = .ok (.if_icmp .le off, 3)) (ht : (pc : Int) + off = (tgt : Int)) (kt : x ≤ y → ww_A g Y d kc ks M (tgt) lv (st) Q X) (kf : ¬ x ≤ y → ww_A g Y d kc ks M (pc + 3) lv (st) Q X) : ww_A g Y d kc ks M (pc) lv (.int y :: .int x :: st) Q X := fun p l e R s m args below meth c H locs cells slots mc ms ls C B hl hH hS => lv_icmp_le C.1 C.2.1 hd ht (fun z => kt z p l e R s m args below meth c H locs cells slots mc ms ls C B hl hH hS) (fun z => kf z p l e R s m args below meth c H locs cells slots mc ms ls C B hl hH hS)
theorem ww_icmp_le_t {x y : Int32} {off : Int} {tgt : Nat} (hd : decode Y.2.1 pc = .ok (.if_icmp .le off, 3)) (ht : (pc : Int) + off = (tgt : Int)) (hc : x ≤ y) (kt : ww_A g Y d kc ks M (tgt) lv (st) Q X) : ww_A g Y d kc ks M (pc) lv (.int y :: .int x :: st) Q X := ww_icmp_le hd ht (fun _ => kt) (fun z => absurd hc z)
theorem ww_icmp_le_f {x y : Int32} {off : Int} {tgt : Nat} (hd : decode Y.2.1 pc = .ok (.if_icmp .le off, 3)) (ht : (pc : Int) + off = (tgt : Int)) (hc : ¬ x ≤ y) (kf : ww_A g Y d kc ks M (pc + 3) lv (st) Q X) : ww_A g Y d kc ks M (pc) lv (.int y :: .int x :: st) Q X := ww_icmp_le hd ht (fun z => absurd z hc) (fun _ => kf)
theorem ww_goto {off : Int} {tgt : Nat} (hd : decode Y.2.1 pc = .ok (.goto off, 3)) (ht : (pc : Int) + off = (tgt : Int)) (k : ww_A g Y d kc ks M (tgt) lv (st) Q X) : ww_A g Y d kc ks M (pc) lv (st) Q X := fun p l e R s m args below meth c H locs cells slots mc ms ls C B hl hH hS => lv_goto C.1 C.2.1 hd ht (k p l e R s m args below meth c H locs cells slots mc ms ls C B hl hH hS)
theorem ww_ifnull_f {a : Nat} {off : Int} (hd : decode Y.2.1 pc = .ok (.ifnull off, 3)) (k : ww_A g Y d kc ks M (pc + 3) lv (st) Q X) : ww_A g Y d kc ks M (pc) lv (.ref a :: st) Q X := fun p l e R s m args below meth c H locs cells slots mc ms ls C B hl hH hS => lv_ifnull C.1 C.2.1 hd (k p l e R s m args below meth c H locs cells slots mc ms ls C B hl hH hS)
theorem ww_ifnull_t {off : Int} {tgt : Nat} (hd : decode Y.2.1 pc = .ok (.ifnull off, 3)) (ht : (pc : Int) + off = (tgt : Int)) (k : ww_A g Y d kc ks M (tgt) lv (st) Q X) : ww_A g Y d kc ks M (pc) lv (.null :: st) Q X := fun p l e R s m args below meth c H locs cells slots mc ms ls C B hl hH hS => lv_ifnullN C.1 C.2.1 hd ht (k p l e R s m args below meth c H locs cells slots mc ms ls C B hl hH hS)
theorem ww_ifnonnull_t {a : Nat} {off : Int} {tgt : Nat} (hd : decode Y.2.1 pc = .ok (.ifnonnull off, 3)) (ht : (pc : Int) + off = (tgt : Int)) (k : ww_A g Y d kc ks M (tgt) lv (st) Q X) : ww_A g Y d kc ks M (pc) lv (.ref a :: st) Q X := fun p l e R s m args below meth c H locs cells slots mc ms ls C B hl hH hS => lv_ifnonnull C.1 C.2.1 hd ht (k p l e R s m args below meth c H locs cells slots mc ms ls C B hl hH hS)
theorem ww_ifnonnull_f {off : Int} (hd : decode Y.2.1 pc = .ok (.ifnonnull off, 3)) (k : ww_A g Y d kc ks M (pc + 3) lv (st) Q X) : ww_A g Y d kc ks M (pc) lv (.null :: st) Q X := fun p l e R s m args below meth c H locs cells slots mc ms ls C B hl hH hS => lv_ifnonnullN C.1 C.2.1 hd (k p l e R s m args below meth c H locs cells slots mc ms ls C B hl hH hS)
theorem ww_ifnull {r : Option Nat} {off : Int} {tgt : Nat} (hd : decode Y.2.1 pc = .ok (.ifnull off, 3)) (ht : (pc : Int) + off = (tgt : Int)) (kt : r = none → ww_A g Y d kc ks M (tgt) lv (st) Q X) (kf : ∀ a, r = some a → ww_A g Y d kc ks M (pc + 3) lv (st) Q X) : ww_A g Y d kc ks M (pc) lv (va_rf r :: st) Q X := by
  cases r with
  | none => exact ww_ifnull_t hd ht (kt rfl)
  | some a => exact ww_ifnull_f hd (kf a rfl)
theorem ww_ifnonnull {r : Option Nat} {off : Int} {tgt : Nat} (hd : decode Y.2.1 pc = .ok (.ifnonnull off, 3)) (ht : (pc : Int) + off = (tgt : Int)) (kt : ∀ a, r = some a → ww_A g Y d kc ks M (tgt) lv (st) Q X) (kf : r = none → ww_A g Y d kc ks M (pc + 3) lv (st) Q X) : ww_A g Y d kc ks M (pc) lv (va_rf r :: st) Q X := by
  cases r with
  | none => exact ww_ifnonnull_f hd (kf rfl)
  | some a => exact ww_ifnonnull_t hd ht (kt a rfl)
theorem ww_acmp_eq {rx ry : Option Nat} {vx vy : Value} {off : Int} {tgt : Nat} (hx : va_rf rx = vx) (hy : va_rf ry = vy) (hd : decode Y.2.1 pc = .ok (.if_acmp .eq off, 3)) (ht : (pc : Int) + off = (tgt : Int)) (kt : rx = ry → ww_A g Y d kc ks M (tgt) lv (st) Q X) (kf : ¬ rx = ry → ww_A g Y d kc ks M (pc + 3) lv (st) Q X) : ww_A g Y d kc ks M (pc) lv (vy :: vx :: st) Q X := by
  subst hx hy
  exact fun p l e R s m args below meth c H locs cells slots mc ms ls C B hl hH hS => lv_acmp_eq C.1 C.2.1 hd ht (fun z => kt z p l e R s m args below meth c H locs cells slots mc ms ls C B hl hH hS) (fun z => kf z p l e R s m args below meth c H locs cells slots mc ms ls C B hl hH hS)
theorem ww_acmp_ne {rx ry : Option Nat} {vx vy : Value} {off : Int} {tgt : Nat} (hx : va_rf rx = vx) (hy : va_rf ry = vy) (hd : decode Y.2.1 pc = .ok (.if_acmp .ne off, 3)) (ht : (pc : Int) + off = (tgt : Int)) (kt : ¬ rx = ry → ww_A g Y d kc ks M (tgt) lv (st) Q X) (kf : rx = ry → ww_A g Y d kc ks M (pc + 3) lv (st) Q X) : ww_A g Y d kc ks M (pc) lv (vy :: vx :: st) Q X := by
  subst hx hy
  exact fun p l e R s m args below meth c H locs cells slots mc ms ls C B hl hH hS => lv_acmp_ne C.1 C.2.1 hd ht (fun z => kt z p l e R s m args below meth c H locs cells slots mc ms ls C B hl hH hS) (fun z => kf z p l e R s m args below meth c H locs cells slots mc ms ls C B hl hH hS)
theorem ww_tableIn {dflt lo hi : Int} {offs : Array Int} {len : Nat} {x : Int32} {off : Int} {tgt : Nat} (hd : decode Y.2.1 pc = .ok (.tableswitch dflt lo hi offs, len)) (h1 : ¬ x.toInt < lo) (h2 : ¬ hi < x.toInt) (ho : offs[(x.toInt - lo).toNat]? = some off) (ht : (pc : Int) + off = (tgt : Int)) (k : ww_A g Y d kc ks M (tgt) lv (st) Q X) : ww_A g Y d kc ks M (pc) lv (.int x :: st) Q X := fun p l e R s m args below meth c H locs cells slots mc ms ls C B hl hH hS => lv_tableIn C.1 C.2.1 hd h1 h2 ho ht (k p l e R s m args below meth c H locs cells slots mc ms ls C B hl hH hS)
theorem ww_tableOut {dflt lo hi : Int} {offs : Array Int} {len : Nat} {x : Int32} {tgt : Nat} (hd : decode Y.2.1 pc = .ok (.tableswitch dflt lo hi offs, len)) (h : x.toInt < lo ∨ hi < x.toInt) (ht : (pc : Int) + dflt = (tgt : Int)) (k : ww_A g Y d kc ks M (tgt) lv (st) Q X) : ww_A g Y d kc ks M (pc) lv (.int x :: st) Q X := fun p l e R s m args below meth c H locs cells slots mc ms ls C B hl hH hS => lv_tableOut C.1 C.2.1 hd h ht (k p l e R s m args below meth c H locs cells slots mc ms ls C B hl hH hS)
theorem ww_lookup {dflt : Int} {ps : Array (Int × Int)} {len : Nat} {x : Int32} {off : Int} {tgt : Nat} (hd : decode Y.2.1 pc = .ok (.lookupswitch dflt ps, len)) (hp : (ps.toList.zip (ps.toList.drop 1)).all (fun (a, next) => a.1 < next.1) = true) (ho : Op.lookupswitch.offset ps.toList dflt x.toInt = off) (ht : (pc : Int) + off = (tgt : Int)) (k : ww_A g Y d kc ks M (tgt) lv (st) Q X) : ww_A g Y d kc ks M (pc) lv (.int x :: st) Q X := fun p l e R s m args below meth c H locs cells slots mc ms ls C B hl hH hS => lv_lookup C.1 C.2.1 hd hp ho ht (k p l e R s m args below meth c H locs cells slots mc ms ls C B hl hH hS)
theorem ww_sub {lv2 : List (Nat × Value)} (h : ww_le lv2 lv) (k : ww_A g Y d kc ks M (pc) lv2 (st) Q X) : ww_A g Y d kc ks M (pc) lv (st) Q X := fun p l e R s m args below meth c H locs cells slots mc ms ls C B hl hH hS => k p l e R s m args below meth c H locs cells slots mc ms ls C B ⟨⟨hl.1.1, hl.1.2.1, fun q hq => hl.1.2.2 q (ww_le_mem h q hq)⟩, fun q hq => hl.2 q (ww_le_mem h q hq)⟩ hH hS
theorem ww_less {kc2 ks2 : Nat} (h1 : kc2 ≤ kc) (h2 : ks2 ≤ ks) (k : ww_A g Y d kc2 ks2 M pc lv st Q X) : ww_A g Y d kc ks M pc lv st Q X := fun p l e R s m args below meth c H locs cells slots mc ms ls C B hl hH hS => k p l e R s m args below meth c H locs cells slots mc ms ls C ⟨by omega, by omega, B.2.2.1, B.2.2.2⟩ hl hH hS
end WWR
end
section
/-! ===== rules of the heap, of calls, throws and returns ===== -/
def ww_fld (own : String) (idx κ k : Nat) : Prop := ∃ (q : vw_C) (ref : String), vwCl[κ]? = some q ∧ k < q.2.2 ∧ q.2.2 = ww_nf κ ∧ Cond.fieldLink own idx ref (q.2.1 k).2.1 (q.2.1 k).2.2.1 ∈ ww_GW ∧ (∀ w ∈ u_ws q.1 q.2.1 q.2.2, w ∈ ww_GW) ∧ (ref = (q.2.1 k).1 ∨ Cond.sameField ref (q.2.1 k).1 (q.2.1 k).2.1 (q.2.1 k).2.2.1 ∈ ww_GW)
/-- what a store into a field asks besides -/
def ww_fst (y : MethodName) (κ k : Nat) (ty : FieldType) : Prop := ∃ (q : vw_C) (ty0 : Nat → FieldType), vwCl[κ]? = some q ∧ (∀ j, j < q.2.2 → parseFieldDescriptor (q.2.1 j).2.2.1 = some (ty0 j)) ∧ (∀ a, a < q.2.2 → ∀ b, b < q.2.2 → a ≠ b → (q.2.1 a).2.1 ≠ (q.2.1 b).2.1) ∧ ((q.2.1 k).2.2.2 = false ∨ ((q.2.1 k).2.2.2 = true ∧ y.name = "<init>" ∧ (q.2.1 k).1 = y.cls)) ∧ parseFieldDescriptor (q.2.1 k).2.2.1 = some ty
theorem ww_cl_len {κ : Nat} {q : vw_C} (h : vwCl[κ]? = some q) : κ < 9 := Nat.lt_of_lt_of_le (List.getElem?_eq_some_iff.mp h).1 (by decide)
theorem ww_E_congr {cy : Nat → ClassId} {M M' : ww_M} {b : Nat} (h0 : M'.1 = M.1) (hX : ww_X M' b = ww_X M b) (hY : ww_Y M' b = ww_Y M b) (hZ : ww_Z M' b = ww_Z M b) (hfs : ∀ κ, ww_fs M' κ b = ww_fs M κ b) : ww_E cy M' b = ww_E cy M b := by
  have hK : ww_K M' = ww_K M := by unfold ww_K; rw [h0]
  have hN : ww_N M' = ww_N M := by unfold ww_N; rw [h0]
  unfold ww_E
  rw [hK, hN, hX, hY, hZ, hfs]
theorem ww_fv_sI_s {M : ww_M} {f a : Nat} {x : Int32} (hr : ww_ir f = false) : ww_fv (ww_sI M f a x) f a = .int x := by
  unfold ww_fv
  rw [if_neg (by rw [hr]; decide)]
  exact congrArg Value.int ww_u2s
theorem ww_fv_sI_n {M : ww_M} {f a f' b : Nat} {x : Int32} (h : ¬ (f' = f ∧ b = a)) : ww_fv (ww_sI M f a x) f' b = ww_fv M f' b := by
  have e : ww_I (ww_sI M f a x) f' b = ww_I M f' b := ww_u2n h
  unfold ww_fv
  rw [e]; rfl
theorem ww_fv_sR_s {M : ww_M} {f a : Nat} {x : Option Nat} (hr : ww_ir f = true) : ww_fv (ww_sR M f a x) f a = va_rf x := by
  unfold ww_fv
  rw [if_pos hr]
  exact congrArg va_rf ww_u2s
theorem ww_fv_sR_n {M : ww_M} {f a f' b : Nat} {x : Option Nat} (h : ¬ (f' = f ∧ b = a)) : ww_fv (ww_sR M f a x) f' b = ww_fv M f' b := by
  have e : ww_R (ww_sR M f a x) f' b = ww_R M f' b := ww_u2n h
  unfold ww_fv
  rw [e]; rfl
section WWH
variable {g : ww_G} {Y : ww_Yd} {d kc ks : Nat} {M : ww_M} {pc : Nat} {lv : List (Nat × Value)} {st : List Value} {Q : Option Value → ww_M → Prop} {X : String → ww_M → Prop}
theorem ww_get {κ k idx f a : Nat} (h : ww_fld Y.1.cls idx κ k) (hd : decode Y.2.1 pc = .ok (.getfield idx, 3)) (hf : 40 * κ + k = f) (ha : a ∈ ww_L M) (hK : ww_K M a = κ) (kk : ww_A g Y d kc ks M (pc + 3) lv (ww_fv M f a :: st) Q X) : ww_A g Y d kc ks M pc lv (.ref a :: st) Q X := by
  intro p l e R s m args below meth c H locs cells slots mc ms ls C B hl hH hS
  obtain ⟨hx, hb, hml, hret, htb, hown, hts, htr, hF, hfr, hlo⟩ := id C
  obtain ⟨q, ref, h1, h2, h3, h4, h5, h6⟩ := h
  obtain ⟨j, hj⟩ := ww_W_get (cy := g.2.2.1) ha
  rw [ww_E_o hK (ww_cl_len h1)] at hj
  subst hf
  refine va_get (C := q.1) (T := q.2.1) (N := q.2.2) (ref := ref) hx hb hts h5 hown hF.1.2 hH.1 j hj h1 k h2 (hts _ h4) (fun x hx' => ?_) (ww_fs_get (by rw [← h3]; exact h2)) hd (kk p l e R s m args below meth c H locs cells slots mc ms ls C B hl hH hS)
  rcases h6 with h6 | h6
  · rw [h6]; exact hx'
  · exact u_same (hts _ h6) x hx'
theorem ww_getI {κ k idx f a : Nat} (h : ww_fld Y.1.cls idx κ k) (hd : decode Y.2.1 pc = .ok (.getfield idx, 3)) (hf : 40 * κ + k = f) (hr : ww_ir f = false) (ha : a ∈ ww_L M) (hK : ww_K M a = κ) (kk : ww_A g Y d kc ks M (pc + 3) lv (.int (ww_I M f a) :: st) Q X) : ww_A g Y d kc ks M pc lv (.ref a :: st) Q X := by
  have e : ww_fv M f a = .int (ww_I M f a) := if_neg (by rw [hr]; decide)
  exact ww_get h hd hf ha hK (by rw [e]; exact kk)
theorem ww_getQ {κ k idx f a : Nat} (h : ww_fld Y.1.cls idx κ k) (hd : decode Y.2.1 pc = .ok (.getfield idx, 3)) (hf : 40 * κ + k = f) (hr : ww_ir f = true) (ha : a ∈ ww_L M) (hK : ww_K M a = κ) (kk : ww_A g Y d kc ks M (pc + 3) lv (va_rf (ww_R M f a) :: st) Q X) : ww_A g Y d kc ks M pc lv (.ref a :: st) Q X := by
  have e : ww_fv M f a = va_rf (ww_R M f a) := if_pos hr
  exact ww_get h hd hf ha hK (by rw [e]; exact kk)
theorem ww_getR {κ k idx f a b : Nat} (h : ww_fld Y.1.cls idx κ k) (hd : decode Y.2.1 pc = .ok (.getfield idx, 3)) (hf : 40 * κ + k = f) (hr : ww_ir f = true) (ha : a ∈ ww_L M) (hK : ww_K M a = κ) (hb : ww_R M f a = some b) (kk : ww_A g Y d kc ks M (pc + 3) lv (.ref b :: st) Q X) : ww_A g Y d kc ks M pc lv (.ref a :: st) Q X :=
  ww_getQ h hd hf hr ha hK (by rw [hb]; exact kk)
theorem ww_put0 {κ k idx a : Nat} {ty : FieldType} {v : Value} {M' : ww_M} (h : ww_fld Y.1.cls idx κ k) (h' : ww_fst Y.1 κ k ty) (hd : decode Y.2.1 pc = .ok (.putfield idx, 3)) (ha : a ∈ ww_L M) (hK : ww_K M a = κ) (hn : narrow ty v = v) (hfit : fits ty v = true)
    (e0 : M'.1 = M.1) (e1 : ww_fv M' (40 * κ + k) a = v) (e2 : ∀ f b, ¬ (f = 40 * κ + k ∧ b = a) → ww_fv M' f b = ww_fv M f b) (e3 : ww_X M' = ww_X M ∧ ww_Y M' = ww_Y M ∧ ww_Z M' = ww_Z M)
    (kk : ww_A g Y d kc ks M' (pc + 3) lv st Q X) : ww_A g Y d kc ks M pc lv (v :: .ref a :: st) Q X := by
  intro p l e R s m args below meth c H locs cells slots mc ms ls C B hl hH hS
  obtain ⟨hx, hb, hml, ⟨hret, hlk, hnm⟩, htb, hown, hts, htr, hF, hfr, hlo⟩ := id C
  obtain ⟨q, ref, h1, h2, h3, h4, h5, h6⟩ := h
  obtain ⟨q', ty0, g1, g2, g3, g4, g5⟩ := h'
  cases h1.symm.trans g1
  have hκ := ww_cl_len h1
  obtain ⟨j, hj⟩ := ww_W_get (cy := g.2.2.1) ha
  have hj' := hj
  rw [ww_E_o hK hκ] at hj'
  have hsame : ∀ x, s.fieldFound? (q.2.1 k).1 (q.2.1 k).2.1 (q.2.1 k).2.2.1 = some x → s.fieldFound? ref (q.2.1 k).2.1 (q.2.1 k).2.2.1 = some x := by
    intro x hx'
    rcases h6 with h6 | h6
    · rw [h6]; exact hx'
    · exact u_same (hts _ h6) x hx'
  have hK' : ww_K M' a = κ := by unfold ww_K; rw [e0]; exact hK
  have hset : (ww_W g.2.2.1 M).set j (a, .inr (κ, (ww_fs M κ a).set k v)) = ww_W g.2.2.1 M' := by
    refine ww_W_set hH.2 ha hj e0 ?_ (fun b hb' => ?_)
    · rw [ww_E_o hK' hκ, ww_fs_set e1 (fun i hi => e2 _ _ (fun z => hi (by omega)))]
    · exact ww_E_congr e0 (by rw [e3.1]) (by rw [e3.2.1]) (by rw [e3.2.2]) (fun κ' => ww_fs_congr fun i => e2 _ _ (fun z => hb' z.2))
  have hlen : k < (ww_fs M κ a).length := by rw [ww_fs_len, ← h3]; exact h2
  have kk' : ∀ (H1 : Heap) (locs1 : List Loc), va_P g.2.1 vwCl ((ww_W g.2.2.1 M).set j (a, .inr (κ, (ww_fs M κ a).set k v))) H1 → va_D (ww_gA g) ((ww_W g.2.2.1 M).set j (a, .inr (κ, (ww_fs M κ a).set k v))) → va_S (ww_gA g) s.heap H1 locs1 → W p l e R s m args below meth c H1 locs1 cells slots (vx_MQ below (ww_Qc g Q) (ww_Xc g X) args s mc ms (ww_gA g)) (F0 m (pc + 3) ls st) := by
    intro H1 locs1 hP1 hD1 hS1
    rw [hset] at hP1 hD1
    exact kk p l e R s m args below meth c H1 locs1 cells slots mc ms ls C B hl ⟨hP1, hD1⟩ hS1
  rcases g4 with g4 | ⟨g4, g6, g7⟩
  · exact va_put (C := q.1) (T := q.2.1) (N := q.2.2) (ref := ref) hx hb hts h5 ty0 g2 g3 hown hF.1.2 hH.1 hH.2 hS j hj' h1 k h2 (hts _ h4) hsame g4 g5 hn hfit hlen hd kk'
  · exact va_putF (C := q.1) (T := q.2.1) (N := q.2.2) (ref := ref) hx hb hts h5 ty0 g2 g3 hown hF.1.2 hH.1 hH.2 hS j hj' h1 k h2 (hts _ h4) hsame g4 (hnm.trans g6) g7 g5 hn hfit hlen hd kk'
theorem ww_putI {κ k idx f a : Nat} {ty : FieldType} {x : Int32} (h : ww_fld Y.1.cls idx κ k) (h' : ww_fst Y.1 κ k ty) (hd : decode Y.2.1 pc = .ok (.putfield idx, 3)) (hf : 40 * κ + k = f) (hr : ww_ir f = false) (ha : a ∈ ww_L M) (hK : ww_K M a = κ) (hn : narrow ty (.int x) = .int x) (hfit : fits ty (.int x) = true)
    (kk : ww_A g Y d kc ks (ww_sI M f a x) (pc + 3) lv st Q X) : ww_A g Y d kc ks M pc lv (.int x :: .ref a :: st) Q X := by
  subst hf
  exact ww_put0 (M' := ww_sI M _ a x) h h' hd ha hK hn hfit rfl (ww_fv_sI_s hr) (fun f b hfb => ww_fv_sI_n hfb) ⟨rfl, rfl, rfl⟩ kk
theorem ww_putQ {κ k idx f a : Nat} {ty : FieldType} {r : Option Nat} {v : Value} (h : ww_fld Y.1.cls idx κ k) (h' : ww_fst Y.1 κ k ty) (hd : decode Y.2.1 pc = .ok (.putfield idx, 3)) (hf : 40 * κ + k = f) (hr : ww_ir f = true) (ha : a ∈ ww_L M) (hK : ww_K M a = κ) (hv : va_rf r = v) (hn : narrow ty v = v) (hfit : fits ty v = true)
    (kk : ww_A g Y d kc ks (ww_sR M f a r) (pc + 3) lv st Q X) : ww_A g Y d kc ks M pc lv (v :: .ref a :: st) Q X := by
  subst hf hv
  exact ww_put0 (M' := ww_sR M _ a r) h h' hd ha hK hn hfit rfl (ww_fv_sR_s hr) (fun f b hfb => ww_fv_sR_n hfb) ⟨rfl, rfl, rfl⟩ kk
/-! arrays -/
theorem ww_iald {a j : Nat} {i : Int32} (hd : decode Y.2.1 pc = .ok (.iaload, 1)) (ha : a ∈ ww_L M) (hK : ww_K M a = 9) (hi : i = nI j) (hj : j < ww_N M a) (hN : ww_N M a < 2 ^ 31) (kk : ww_A g Y d kc ks M (pc + 1) lv (.int (ww_X M a j) :: st) Q X) : ww_A g Y d kc ks M pc lv (.int i :: .ref a :: st) Q X := by
  intro p l e R s m args below meth c H locs cells slots mc ms ls C B hl hH hS
  obtain ⟨hx, hb, hml, hret, htb, hown, hts, htr, hF, hfr, hlo⟩ := id C
  obtain ⟨q, hq⟩ := ww_W_get (cy := g.2.2.1) ha
  rw [ww_E_i hK (by omega) (by omega)] at hq
  subst hi
  have hk := kk p l e R s m args below meth c H locs cells slots mc ms ls C B hl hH hS
  have e1 : (nI j).toNatClampNeg = j := nI_clamp (by omega)
  exact va_iald hx hb hF.1.2 hH.1 q 0 hq rfl (vp_in_nI hj (by omega)) hd (by rw [e1]; exact hk)
theorem ww_aald {a j : Nat} {i : Int32} (hd : decode Y.2.1 pc = .ok (.aaload, 1)) (ha : a ∈ ww_L M) (hK : ww_K M a = 11 ∨ ww_K M a = 12) (hi : i = nI j) (hj : j < ww_N M a) (hN : ww_N M a < 2 ^ 31) (kk : ww_A g Y d kc ks M (pc + 1) lv (va_rf (ww_Y M a j) :: st) Q X) : ww_A g Y d kc ks M pc lv (.int i :: .ref a :: st) Q X := by
  intro p l e R s m args below meth c H locs cells slots mc ms ls C B hl hH hS
  obtain ⟨hx, hb, hml, hret, htb, hown, hts, htr, hF, hfr, hlo⟩ := id C
  obtain ⟨q, hq⟩ := ww_W_get (cy := g.2.2.1) ha
  subst hi
  have hk := kk p l e R s m args below meth c H locs cells slots mc ms ls C B hl hH hS
  have e1 : (nI j).toNatClampNeg = j := nI_clamp (by omega)
  rcases hK with hK | hK
  · rw [ww_E_r hK (by omega) (by omega)] at hq
    exact va_aldq hx hb hF.1.2 hH.1 q 2 hq rfl (vp_in_nI hj (by omega)) hd (by rw [e1]; exact hk)
  · rw [ww_E_r hK (by omega) (by omega)] at hq
    exact va_aldq hx hb hF.1.2 hH.1 q 3 hq rfl (vp_in_nI hj (by omega)) hd (by rw [e1]; exact hk)
theorem ww_upd_X {M : ww_M} {a j : Nat} {x : Int32} : ww_X (ww_sX M a j x) a = upd (ww_X M a) j x := by
  funext i
  show ww_u2 (ww_X M) a j x a i = upd (ww_X M a) j x i
  unfold ww_u2 upd
  by_cases h : i = j
  · rw [if_pos ⟨rfl, h⟩, if_pos h]
  · rw [if_neg (fun z => h z.2), if_neg h]
theorem ww_upd_Xn {M : ww_M} {a j b : Nat} {x : Int32} (h : b ≠ a) : ww_X (ww_sX M a j x) b = ww_X M b := funext fun i => if_neg (fun z => h z.1)
theorem ww_set_X {cy : Nat → ClassId} {A : Nat → Prop} {a j q κ : Nat} {x : Int32} (hD : va_D A (ww_W cy M)) (ha : a ∈ ww_L M) (hK : ww_K M a = κ) (h9 : 9 ≤ κ) (h11 : κ < 11) (hq : (ww_W cy M)[q]? = some (a, ww_E cy M a)) : (ww_W cy M).set q (a, .inl (cy κ, ww_N M a, .inl (upd (ww_X M a) j x))) = ww_W cy (ww_sX M a j x) := by
  refine ww_W_set hD ha hq rfl ?_ (fun b hb => ww_E_congr rfl (ww_upd_Xn hb) rfl rfl (fun _ => rfl))
  rw [ww_E_i (M := ww_sX M a j x) (κ := κ) hK h9 h11, ww_upd_X]
  rfl
theorem ww_iast {a j : Nat} {i x : Int32} (hd : decode Y.2.1 pc = .ok (.iastore, 1)) (ha : a ∈ ww_L M) (hK : ww_K M a = 9) (hi : i = nI j) (hj : j < ww_N M a) (hN : ww_N M a < 2 ^ 31) (kk : ww_A g Y d kc ks (ww_sX M a j x) (pc + 1) lv st Q X) : ww_A g Y d kc ks M pc lv (.int x :: .int i :: .ref a :: st) Q X := by
  intro p l e R s m args below meth c H locs cells slots mc ms ls C B hl hH hS
  obtain ⟨hx, hb, hml, hret, htb, hown, hts, htr, hF, hfr, hlo⟩ := id C
  obtain ⟨q, hq⟩ := ww_W_get (cy := g.2.2.1) ha
  have hq' := hq
  rw [ww_E_i hK (by omega) (by omega)] at hq'
  subst hi
  have e1 : (nI j).toNatClampNeg = j := nI_clamp (by omega)
  refine va_iast hx hb hF.1.2 hH.1 hH.2 hS q 0 hq' rfl (vp_in_nI hj (by omega)) hd (fun H1 locs1 hP1 hD1 hS1 => ?_)
  rw [e1, ww_set_X hH.2 ha hK (by omega) (by omega) hq] at hP1 hD1
  exact kk p l e R s m args below meth c H1 locs1 cells slots mc ms ls C B hl ⟨hP1, hD1⟩ hS1
theorem ww_set_Y {cy : Nat → ClassId} {A : Nat → Prop} {a j q κ : Nat} {x : Option Nat} (hD : va_D A (ww_W cy M)) (ha : a ∈ ww_L M) (hK : ww_K M a = κ) (h9 : 11 ≤ κ) (h11 : κ < 13) (hq : (ww_W cy M)[q]? = some (a, ww_E cy M a)) : (ww_W cy M).set q (a, .inl (cy κ, ww_N M a, .inr (.inr (.inr (.inr (va_up (ww_Y M a) j x)))))) = ww_W cy (ww_sY M a j x) := by
  have eY : ww_Y (ww_sY M a j x) a = va_up (ww_Y M a) j x := by
    funext i
    show ww_u2 (ww_Y M) a j x a i = va_up (ww_Y M a) j x i
    unfold ww_u2 va_up
    by_cases h : i = j
    · rw [if_pos ⟨rfl, h⟩, if_pos h]
    · rw [if_neg (fun z => h z.2), if_neg h]
  refine ww_W_set hD ha hq rfl ?_ (fun b hb => ww_E_congr rfl rfl (funext fun i => if_neg (fun z => hb z.1)) rfl (fun _ => rfl))
  rw [ww_E_r (M := ww_sY M a j x) (κ := κ) hK h9 h11, eY]
  rfl
/-- an object into an Object[] -/
theorem ww_aast {a b j κ : Nat} {i : Int32} {r : vw_C} (hd : decode Y.2.1 pc = .ok (.aastore, 1)) (ha : a ∈ ww_L M) (hK : ww_K M a = 12) (hb2 : b ∈ ww_L M) (hKb : ww_K M b = κ) (hr : vwCl[κ]? = some r) (hca : (r.1, "java/lang/Object") ∈ ww_ca) (hi : i = nI j) (hj : j < ww_N M a) (hN : ww_N M a < 2 ^ 31) (kk : ww_A g Y d kc ks (ww_sY M a j (some b)) (pc + 1) lv st Q X) : ww_A g Y d kc ks M pc lv (.ref b :: .int i :: .ref a :: st) Q X := by
  intro p l e R s m args below meth c H locs cells slots mc ms ls C B hl hH hS
  obtain ⟨hx, hb, hml, hret, htb, hown, hts, htr, hF, hfr, hlo⟩ := id C
  obtain ⟨q, hq⟩ := ww_W_get (cy := g.2.2.1) ha
  obtain ⟨q2, hq2⟩ := ww_W_get (cy := g.2.2.1) hb2
  have hq' := hq
  rw [ww_E_r hK (by omega) (by omega)] at hq'
  rw [ww_E_o hKb (ww_cl_len hr)] at hq2
  subst hi
  have e1 : (nI j).toNatClampNeg = j := nI_clamp (by omega)
  refine va_astqO hx hb hF.1.2 hH.1 hH.2 hS q 3 q2 κ hq' rfl (hF.2.2.2.2.2.1.1 _ hca) hq2 hr (vp_in_nI hj (by omega)) hd (fun H1 locs1 hP1 hD1 hS1 => ?_)
  rw [e1, ww_set_Y hH.2 ha hK (by omega) (by omega) hq] at hP1 hD1
  exact kk p l e R s m args below meth c H1 locs1 cells slots mc ms ls C B hl ⟨hP1, hD1⟩ hS1
/-- a KindLimits into a KindLimits[] -/
theorem ww_aastK {a b j : Nat} {i : Int32} (hd : decode Y.2.1 pc = .ok (.aastore, 1)) (ha : a ∈ ww_L M) (hK : ww_K M a = 11) (hb2 : b ∈ ww_L M) (hKb : ww_K M b = 2) (hi : i = nI j) (hj : j < ww_N M a) (hN : ww_N M a < 2 ^ 31) (kk : ww_A g Y d kc ks (ww_sY M a j (some b)) (pc + 1) lv st Q X) : ww_A g Y d kc ks M pc lv (.ref b :: .int i :: .ref a :: st) Q X := by
  intro p l e R s m args below meth c H locs cells slots mc ms ls C B hl hH hS
  obtain ⟨hx, hb, hml, hret, htb, hown, hts, htr, hF, hfr, hlo⟩ := id C
  obtain ⟨q, hq⟩ := ww_W_get (cy := g.2.2.1) ha
  obtain ⟨q2, hq2⟩ := ww_W_get (cy := g.2.2.1) hb2
  have hq' := hq
  rw [ww_E_r hK (by omega) (by omega)] at hq'
  rw [ww_E_o hKb (by omega)] at hq2
  subst hi
  have e1 : (nI j).toNatClampNeg = j := nI_clamp (by omega)
  refine va_astq (r := (RX1, TX1, 3)) hx hb hF.1.2 hH.1 hH.2 hS q 2 q2 2 hq' rfl hq2 rfl (vp_in_nI hj (by omega)) hd (fun H1 locs1 hP1 hD1 hS1 => ?_)
  rw [e1, ww_set_Y hH.2 ha hK (by omega) (by omega) hq] at hP1 hD1
  exact kk p l e R s m args below meth c H1 locs1 cells slots mc ms ls C B hl ⟨hP1, hD1⟩ hS1
/-- null into an Object[] -/
theorem ww_aastN {a j : Nat} {i : Int32} (hd : decode Y.2.1 pc = .ok (.aastore, 1)) (ha : a ∈ ww_L M) (hK : ww_K M a = 12) (hi : i = nI j) (hj : j < ww_N M a) (hN : ww_N M a < 2 ^ 31) (kk : ww_A g Y d kc ks (ww_sY M a j none) (pc + 1) lv st Q X) : ww_A g Y d kc ks M pc lv (.null :: .int i :: .ref a :: st) Q X := by
  intro p l e R s m args below meth c H locs cells slots mc ms ls C B hl hH hS
  obtain ⟨hx, hb, hml, hret, htb, hown, hts, htr, hF, hfr, hlo⟩ := id C
  obtain ⟨q, hq⟩ := ww_W_get (cy := g.2.2.1) ha
  have hq' := hq
  rw [ww_E_r hK (by omega) (by omega)] at hq'
  subst hi
  have e1 : (nI j).toNatClampNeg = j := nI_clamp (by omega)
  refine va_astqN hx hb hF.1.2 hH.1 hH.2 hS q 3 hq' rfl (vp_in_nI hj (by omega)) hd (fun H1 locs1 hP1 hD1 hS1 => ?_)
  rw [e1, ww_set_Y hH.2 ha hK (by omega) (by omega) hq] at hP1 hD1
  exact kk p l e R s m args below meth c H1 locs1 cells slots mc ms ls C B hl ⟨hP1, hD1⟩ hS1
theorem ww_alen {a : Nat} (hd : decode Y.2.1 pc = .ok (.arraylength, 1)) (ha : a ∈ ww_L M) (hK : 9 ≤ ww_K M a) (hK2 : ww_K M a < 14) (kk : ww_A g Y d kc ks M (pc + 1) lv (.int (nI (ww_N M a)) :: st) Q X) : ww_A g Y d kc ks M pc lv (.ref a :: st) Q X := by
  intro p l e R s m args below meth c H locs cells slots mc ms ls C B hl hH hS
  obtain ⟨hx, hb, hml, hret, htb, hown, hts, htr, hF, hfr, hlo⟩ := id C
  obtain ⟨q, hq⟩ := ww_W_get (cy := g.2.2.1) ha
  have hk := kk p l e R s m args below meth c H locs cells slots mc ms ls C B hl hH hS
  generalize hKa : ww_K M a = κ at hK hK2
  by_cases h1 : κ < 11
  · rw [ww_E_i hKa hK h1] at hq
    have h3 : κ = 9 ∨ κ = 10 := by omega
    rcases h3 with rfl | rfl
    · exact va_alen hx hb hF.1.2 hH.1 q 0 hq rfl rfl hd hk
    · exact va_alen hx hb hF.1.2 hH.1 q 1 hq rfl rfl hd hk
  · by_cases h2 : κ < 13
    · rw [ww_E_r hKa (by omega) h2] at hq
      have h3 : κ = 11 ∨ κ = 12 := by omega
      rcases h3 with rfl | rfl
      · exact va_alen hx hb hF.1.2 hH.1 q 2 hq rfl rfl hd hk
      · exact va_alen hx hb hF.1.2 hH.1 q 3 hq rfl rfl hd hk
    · have h3 : κ = 13 := by omega
      subst h3
      rw [ww_E_l hKa] at hq
      exact va_alen hx hb hF.1.2 hH.1 q 4 hq rfl rfl hd hk
/-- the length of ArrayList's empty array -/
theorem ww_alenE (hd : decode Y.2.1 pc = .ok (.arraylength, 1)) (kk : ww_A g Y d kc ks M (pc + 1) lv (.int 0 :: st) Q X) : ww_A g Y d kc ks M pc lv (.ref (ww_ge g) :: st) Q X := by
  intro p l e R s m args below meth c H locs cells slots mc ms ls C B hl hH hS
  obtain ⟨hx, hb, hml, hret, htb, hown, hts, htr, hF, hfr, hlo⟩ := id C
  have hk := kk p l e R s m args below meth c H locs cells slots mc ms ls C B hl hH hS
  obtain ⟨cell, c1, c2, -, -, c3, -, -⟩ := hF.2.1.2.kept (fun q h1 h2 => hS.2.1 q h1 h2)
  exact W.alen hx hb c1 c2 (c3.trans (by decide)) rfl rfl hd hk
/-- the law's script -/
theorem ww_sld {j : Nat} {i : Int32} (hd : decode Y.2.1 pc = .ok (.iaload, 1)) (hi : i = nI j) (hj : j < ww_gl g) (hN : ww_gl g < 2 ^ 31) (kk : ww_A g Y d kc ks M (pc + 1) lv (.int (ww_gx g j) :: st) Q X) : ww_A g Y d kc ks M pc lv (.int i :: .ref (ww_gb g) :: st) Q X := by
  intro p l e R s m args below meth c H locs cells slots mc ms ls C B hl hH hS
  obtain ⟨hx, hb, hml, hret, htb, hown, hts, htr, hF, hfr, hlo⟩ := id C
  subst hi
  have hk := kk p l e R s m args below meth c H locs cells slots mc ms ls C B hl hH hS
  have e1 : (nI j).toNatClampNeg = j := nI_clamp (by omega)
  exact va_sld hx hb hF.2.2.2.1.1 hF.2.2.2.1.2.2 hF.2.2.2.1.2.1 hS (vp_in_nI hj (by omega)) hd (by rw [e1]; exact hk)
theorem ww_slen (hd : decode Y.2.1 pc = .ok (.arraylength, 1)) (kk : ww_A g Y d kc ks M (pc + 1) lv (.int (nI (ww_gl g)) :: st) Q X) : ww_A g Y d kc ks M pc lv (.ref (ww_gb g) :: st) Q X := by
  intro p l e R s m args below meth c H locs cells slots mc ms ls C B hl hH hS
  obtain ⟨hx, hb, hml, hret, htb, hown, hts, htr, hF, hfr, hlo⟩ := id C
  have hk := kk p l e R s m args below meth c H locs cells slots mc ms ls C B hl hH hS
  exact va_slen hx hb hF.2.2.2.1.1 hF.2.2.2.1.2.2 hF.2.2.2.1.2.1 hS hd hk
end WWH
end
section
section WWC
variable {g : ww_G} {Y : ww_Yd} {d kc ks : Nat} {M : ww_M} {pc : Nat} {lv : List (Nat × Value)} {st : List Value} {Q : Option Value → ww_M → Prop} {X : String → ww_M → Prop}
/-! new things -/
def ww_new (own : String) (idx κ : Nat) : Prop := ∃ (q : vw_C) (ty : Nat → FieldType), vwCl[κ]? = some q ∧ q.2.2 = ww_nf κ ∧ (∀ j, j < q.2.2 → parseFieldDescriptor (q.2.1 j).2.2.1 = some (ty j)) ∧ (∀ j, j < q.2.2 → defaultValue (ty j) = (if ww_ir (40 * κ + j) = true then .null else .int 0)) ∧ (∀ w ∈ u_ws q.1 q.2.1 q.2.2, w ∈ ww_GW) ∧ Cond.classLink own idx q.1 ∈ ww_GW ∧ Cond.instantiable q.1 q.2.2 ∈ ww_GW ∧ Cond.initialized q.1 ∈ ww_GW
theorem ww_fv_nw {q κ n f : Nat} : ww_fv (ww_nw M q κ n) f q = (if ww_ir f = true then .null else .int 0) := by
  have e1 : ww_I (ww_nw M q κ n) f q = 0 := if_pos rfl
  have e2 : ww_R (ww_nw M q κ n) f q = none := if_pos rfl
  unfold ww_fv
  rw [e1, e2]
  rfl
theorem ww_K_nw {q κ n : Nat} : ww_K (ww_nw M q κ n) q = κ := if_pos rfl
theorem ww_N_nw {q κ n : Nat} : ww_N (ww_nw M q κ n) q = n := if_pos rfl
theorem ww_fresh {A : Nat → Prop} {cy : Nat → ClassId} {q : Nat} {e : va_E} (hD : va_D A (ww_W cy M ++ [(q, e)])) : q ∉ ww_L M := by
  intro hq
  obtain ⟨j, hj⟩ := ww_W_get (cy := cy) hq
  have hl := (List.getElem?_eq_some_iff.mp hj).1
  have h1 : (ww_W cy M ++ [(q, e)])[j]? = some (q, ww_E cy M q) := by rw [List.getElem?_append_left hl]; exact hj
  have h2 : (ww_W cy M ++ [(q, e)])[(ww_W cy M).length]? = some (q, e) := by
    rw [List.getElem?_append_right (Nat.le_refl _), Nat.sub_self]; rfl
  have := hD.1 _ _ _ _ h1 h2 rfl
  omega
theorem ww_gA_up {g : ww_G} {n : Nat} (h : g.1 ≤ n) : ∀ q, n ≤ q → ww_gA g q := fun q hq => Nat.le_trans h hq
theorem ww_newO {κ idx : Nat} (h : ww_new Y.1.cls idx κ) (hd : decode Y.2.1 pc = .ok (.new idx, 3)) (hc : 1 ≤ kc) (hs : ww_nf κ ≤ ks)
    (kk : ∀ q, q ∉ ww_L M → ww_A g Y d (kc - 1) (ks - ww_nf κ) (ww_nw M q κ 0) (pc + 3) lv (.ref q :: st) Q X) : ww_A g Y d kc ks M pc lv st Q X := by
  intro p l e R s m args below meth c H locs cells slots mc ms ls C B hl hH hS
  obtain ⟨hx, hb, hml, hret, htb, hown, hts, htr, hF, hfr, hlo⟩ := id C
  obtain ⟨r, ty, h1, h2, h3, h4, h5, h6, h7, h8⟩ := h
  have hκ := ww_cl_len h1
  refine va_new (C := r.1) (T := r.2.1) (N := r.2.2) (fs := (List.range (ww_nf κ)).map (fun j => if ww_ir (40 * κ + j) = true then Value.null else .int 0)) hx hb hts h5 ty h3 hown (hts _ h6) (hts _ h7) (hts _ h8) hF.1.2 hH.1 hH.2 hS (ww_gA_up hF.1.1) h1 (fun j hj => ?_) (by omega) (by omega) hd (fun q H1 hP1 hD1 hS1 => ?_)
  · rw [h4 j hj]
    unfold vp_V
    rw [List.getD_eq_getElem?_getD, List.getElem?_map, List.getElem?_range (by rw [← h2]; exact hj)]
    rfl
  · have hq := ww_fresh hD1
    have e1 : ww_E g.2.2.1 (ww_nw M q κ 0) q = .inr (κ, (List.range (ww_nf κ)).map (fun j => if ww_ir (40 * κ + j) = true then Value.null else .int 0)) := by
      rw [ww_E_o ww_K_nw hκ]
      unfold ww_fs
      congr 2
      exact List.map_congr_left (fun j _ => ww_fv_nw)
    rw [ww_W_push hq e1] at hP1 hD1
    rw [h2]
    exact kk q hq p l e R s m args below meth c H1 locs (cells + 1) (slots + ww_nf κ) mc ms ls C ⟨by omega, by omega, B.2.2.1, B.2.2.2⟩ hl ⟨hP1, hD1⟩ hS1
theorem ww_newA {at' : ArrayType} {ty : FieldType} {κ n : Nat} {i : Int32} (hd : decode Y.2.1 pc = .ok (.newarray at', 2)) (hty : newarray.typeOf at' = ty) (hw : Cond.arrayClass ty ∈ ww_GW) (hκ : (κ = 9 ∧ ty = .int)) (hi : i = nI n) (hn : n < 65536) (hc : 1 ≤ kc) (hs : n ≤ ks)
    (kk : ∀ q, q ∉ ww_L M → ww_A g Y d (kc - 1) (ks - n) (ww_nw M q κ n) (pc + 2) lv (.ref q :: st) Q X) : ww_A g Y d kc ks M pc lv (.int i :: st) Q X := by
  intro p l e R s m args below meth c H locs cells slots mc ms ls C B hl hH hS
  obtain ⟨hx, hb, hml, hret, htb, hown, hts, htr, hF, hfr, hlo⟩ := id C
  subst hi
  have key : ∀ (t0 : Nat), (ww_ty g)[t0]? = some (g.2.2.1 κ, ty) → va_RA s (g.2.2.1 κ) ty := fun t0 h => (hF.1.2.2 t0 _ h).2
  have e9 : ∀ (q : Nat) (cA : ClassId) (H1 : Heap), g.2.2.1 κ = cA → 9 ≤ κ → κ < 11 → va_P g.2.1 vwCl (ww_W g.2.2.1 M ++ [(q, .inl (cA, (n, .inl (fun _ => (0 : Int32)))))]) H1 → va_D (ww_gA g) (ww_W g.2.2.1 M ++ [(q, .inl (cA, (n, .inl (fun _ => (0 : Int32)))))]) → va_S (ww_gA g) s.heap H1 locs →
      W p l e R s m args below meth c H1 locs (cells + 1) (slots + n) (vx_MQ below (ww_Qc g Q) (ww_Xc g X) args s mc ms (ww_gA g)) (F0 m (pc + 2) ls (.ref q :: st)) := by
    intro q cA H1 hcy h9 h11 hP1 hD1 hS1
    have hq := ww_fresh hD1
    have e1 : ww_E g.2.2.1 (ww_nw M q κ n) q = .inl (cA, (n, .inl (fun _ => (0 : Int32)))) := by
      rw [ww_E_i ww_K_nw h9 h11, ww_N_nw, hcy]
      have eX : ww_X (ww_nw M q κ n) q = fun _ => (0 : Int32) := funext fun i => if_pos rfl
      rw [eX]
    rw [ww_W_push hq e1] at hP1 hD1
    exact kk q hq p l e R s m args below meth c H1 locs (cells + 1) (slots + n) mc ms ls C ⟨by omega, by omega, B.2.2.1, B.2.2.2⟩ hl ⟨hP1, hD1⟩ hS1
  obtain ⟨rfl, rfl⟩ := hκ
  · refine va_newa (ty := .int) (a0 := (n, .inl (fun _ => (0 : Int32)))) hx hb (by rw [hty]; exact hts _ hw) hty hF.1.2 hH.1 hH.2 hS (ww_gA_up hF.1.1) (fun _ => rfl) (nI_pos (by omega)) (nI_clamp (by omega)) (by show n * 4 ≤ 536870912; omega) (by omega) (by omega) hd (fun q cA H1 hK1 hP1 hD1 hS1 => ?_)
    have h1 : s.vm.findClass ("[" ++ (FieldType.int).toString) = some (g.2.2.1 9) := key 0 rfl
    have h2 : s.vm.findClass ("[" ++ (FieldType.int).toString) = some cA := (hK1.2 5 (cA, .int) rfl).2
    exact e9 q cA H1 (Option.some.inj (h1.symm.trans h2)) (by omega) (by omega) hP1 hD1 hS1
theorem ww_newQ {κ idx n : Nat} {C0 : String} {i : Int32} (hd : decode Y.2.1 pc = .ok (.anewarray idx, 3)) (hκ : (κ = 11 ∧ C0 = "WheelWorks$KindLimits") ∨ (κ = 12 ∧ C0 = "java/lang/Object")) (hw : Cond.classLink Y.1.cls idx C0 ∈ ww_GW) (hi : i = nI n) (hn : n < 65536) (hc : 1 ≤ kc) (hs : n ≤ ks)
    (kk : ∀ q, q ∉ ww_L M → ww_A g Y d (kc - 1) (ks - n) (ww_nw M q κ n) (pc + 3) lv (.ref q :: st) Q X) : ww_A g Y d kc ks M pc lv (.int i :: st) Q X := by
  intro p l e R s m args below meth c H locs cells slots mc ms ls C B hl hH hS
  obtain ⟨hx, hb, hml, hret, htb, hown, hts, htr, hF, hfr, hlo⟩ := id C
  subst hi
  have hAO : va_AO C0 s := by
    rcases hκ with ⟨-, rfl⟩ | ⟨-, rfl⟩
    · exact hF.2.2.2.2.2.2.2.2
    · exact hF.2.2.2.2.2.2.2.1
  refine va_newq hx hb hown (hts _ hw) hAO hF.1.2 hH.1 hH.2 hS (ww_gA_up hF.1.1) (nI_pos (by omega)) (nI_clamp (by omega)) (by omega) (by omega) (by omega) hd (fun q cA H1 hK1 hP1 hD1 hS1 => ?_)
  have h2 : s.vm.findClass ("[" ++ (FieldType.object C0).toString) = some cA := by
    obtain ⟨-, -, -, -, -, h⟩ := (hK1.2 5 (cA, .object C0) rfl).2
    exact h
  have hcy : g.2.2.1 κ = cA := by
    rcases hκ with ⟨rfl, rfl⟩ | ⟨rfl, rfl⟩
    · obtain ⟨-, -, -, -, -, h⟩ := (hF.1.2.2 2 (g.2.2.1 11, .object "WheelWorks$KindLimits") rfl).2
      exact Option.some.inj (h.symm.trans h2)
    · obtain ⟨-, -, -, -, -, h⟩ := (hF.1.2.2 3 (g.2.2.1 12, .object "java/lang/Object") rfl).2
      exact Option.some.inj (h.symm.trans h2)
  have h11 : 11 ≤ κ ∧ κ < 13 := by omega
  have hq := ww_fresh hD1
  have e1 : ww_E g.2.2.1 (ww_nw M q κ n) q = .inl (cA, (n, .inr (.inr (.inr (.inr (fun _ => none)))))) := by
    rw [ww_E_r ww_K_nw h11.1 h11.2, ww_N_nw, hcy]
    have eX : ww_Y (ww_nw M q κ n) q = fun _ => none := funext fun i => if_pos rfl
    rw [eX]
  rw [ww_W_push hq e1] at hP1 hD1
  exact kk q hq p l e R s m args below meth c H1 locs (cells + 1) (slots + n) mc ms ls C ⟨by omega, by omega, B.2.2.1, B.2.2.2⟩ hl ⟨hP1, hD1⟩ hS1
/-! returns -/
theorem ww_ireturn {ty : FieldType} {v : Int32} (hd : decode Y.2.1 pc = .ok (.ireturn, 1)) (hr : Y.2.2.2.1 = some ty) (hn : narrow ty (.int v) = .int v) (hQ : Q (some (.int v)) M) : ww_A g Y d kc ks M pc lv [.int v] Q X := by
  intro p l e R s m args below meth c H locs cells slots mc ms ls C B hl hH hS
  obtain ⟨hx, hb, hml, ⟨hret, hlk, hnm⟩, htb, hown, hts, htr, hF, hfr, hlo⟩ := id C
  exact vx_ret (W.widen (k := mc) (n := ms) (by omega) (by omega) (W.zret hx hb (hret.trans hr) hn (fun t ht _ => ⟨⟨_, M, rfl, hQ, by rw [ht]; exact hH⟩, hS.F ht⟩) hS.2.2 hd hlk))
theorem ww_vreturn (hd : decode Y.2.1 pc = .ok (.return_, 1)) (hr : Y.2.2.2.1 = none) (hQ : Q none M) : ww_A g Y d kc ks M pc lv [] Q X := by
  intro p l e R s m args below meth c H locs cells slots mc ms ls C B hl hH hS
  obtain ⟨hx, hb, hml, ⟨hret, hlk, hnm⟩, htb, hown, hts, htr, hF, hfr, hlo⟩ := id C
  exact vx_ret (W.widen (k := mc) (n := ms) (by omega) (by omega) (W.vret hx hb (hret.trans hr) (fun t ht _ => ⟨⟨_, M, rfl, hQ, by rw [ht]; exact hH⟩, hS.F ht⟩) hS.2.2 hd hlk))
theorem ww_areturn {ty : FieldType} {v : Value} {r : Option Nat} (hd : decode Y.2.1 pc = .ok (.areturn, 1)) (hr : Y.2.2.2.1 = some ty) (hrt : (∃ n, ty = .object n) ∨ ∃ t, ty = .array t) (hv : va_rf r = v) (hQ : Q (some v) M) : ww_A g Y d kc ks M pc lv [v] Q X := by
  intro p l e R s m args below meth c H locs cells slots mc ms ls C B hl hH hS
  obtain ⟨hx, hb, hml, ⟨hret, hlk, hnm⟩, htb, hown, hts, htr, hF, hfr, hlo⟩ := id C
  exact vx_ret (W.widen (k := mc) (n := ms) (by omega) (by omega) (W.aret hx hb (hret.trans hr) hrt (by rw [← hv]; exact ww_rf_ref r) (fun t ht _ => ⟨⟨_, M, rfl, hQ, by rw [ht]; exact hH⟩, hS.F ht⟩) hS.2.2 hd hlk))
/-! throws -/
def ww_thr (own : String) (ik is ic : Nat) (cls text : String) (names : List String) : Prop := Bundle.fit cls = true ∧ (∀ n ∈ names, Bundle.fit n = true) ∧ Cond.classLink own ik cls ∈ ww_GW ∧ Cond.initialized cls ∈ ww_GW ∧ (own, is, text) ∈ ww_str ∧ (∀ w ∈ vx_atS own ic cls names, w ∈ ww_GW ∨ (∃ q ∈ ww_ca, w = .castable q.1 q.2) ∨ (∃ x ∈ ww_de, w = .declares x)) ∧ names.length = 2
theorem ww_thr_ot {own : String} {ik is ic : Nat} {cls text : String} {names : List String} (h : ww_thr own ik is ic cls text names) : ∀ w ∈ Cond.classLink own ik cls :: Cond.initialized cls :: vx_atS own ic cls names, vx_ot w = true := by
  obtain ⟨-, -, h1, h2, -, h3, -⟩ := h
  have gw : ∀ w, w ∈ ww_GW → vx_ot w = true := fun w hw => by unfold vx_ot; rw [(List.mem_filter.mp hw).2, Bool.or_true]
  intro w hw
  rcases List.mem_cons.mp hw with rfl | hw
  · exact gw _ h1
  · rcases List.mem_cons.mp hw with rfl | hw
    · exact gw _ h2
    · rcases h3 w hw with h | ⟨q, -, rfl⟩ | ⟨x, -, rfl⟩
      · exact gw _ h
      · rfl
      · rfl
theorem ww_thr_at {own : String} {ik is ic : Nat} {cls text : String} {names : List String} {s : State} {args : Array Value} {H : Heap} (h : ww_thr own ik is ic cls text names) (hts : ∀ w ∈ ww_GW, w.before args s = true) (hF : ww_F g s H) : ∀ w ∈ vx_atS own ic cls names, w.before args s = true := by
  intro w hw
  rcases h.2.2.2.2.2.1 w hw with h | ⟨q, hq, rfl⟩ | ⟨x, hx, rfl⟩
  · exact hts _ h
  · exact va_Nw.use rfl (hF.2.2.2.2.2.1.1 q hq)
  · exact va_Nw.use rfl (hF.2.2.2.2.2.1.2.1 x hx)
theorem ww_throw {ik is ic : Nat} {cls text : String} {names : List String} (h : ww_thr Y.1.cls ik is ic cls text names) (d0 : decode Y.2.1 pc = .ok (.new ik, 3)) (d3 : decode Y.2.1 (pc + 3) = .ok (.dup, 1)) (d4 : decode Y.2.1 (pc + 4) = .ok (.ldc is, 2)) (d6 : decode Y.2.1 (pc + 6) = .ok (.invokespecial ic, 3)) (d9 : decode Y.2.1 (pc + 9) = .ok (.athrow, 1))
    (h0 : Y.2.2.2.2 = []) (hd : 6 ≤ d) (hc : 1 ≤ kc) (hs : 6 ≤ ks) (hw : (st.map fun v => v.category).sum ≤ 8) (hX : X cls M) : ww_A g Y d kc ks M pc lv st Q X := by
  intro p l e R s m args below meth c H locs cells slots mc ms ls C B hl hH hS
  obtain ⟨hx, hb, hml, ⟨hret, hlk, hnm⟩, htb, hown, hts, htr, hF, hfr, hlo⟩ := id C
  obtain ⟨a1, a2, a3, a4, a5, a6, a7⟩ := id h
  obtain ⟨sa, hsa⟩ := hF.2.2.2.2.1 _ a5
  refine vx_throwS hx hb htr hown a1 a2 (hts _ a3) (hts _ a4) hsa (ww_thr_at h hts hF) (ww_thr_ot h) hF.2.2.1.1 hF.2.2.1.2 hS (hl.1.1.trans hml.symm) d0 d3 d4 d6 d9 (fun z hz => ?_) (by omega) (by omega) (by omega) (by omega) hlk (fun t ht h1 h2 => ?_) hS.2.2 (by omega) (by omega)
  · rw [htb, h0] at hz
    cases hz
  · refine ⟨⟨M, hX, hH.1.kept (fun k q hk => h2 q.1 (hH.1 k q hk).lt), hH.2⟩, Nat.le_trans hS.1 h1, fun q hq hA => ?_⟩
    rw [h2 q (Nat.lt_of_lt_of_le hq hS.1)]
    exact hS.2.1 q hq hA
theorem ww_throwW {ik is ic : Nat} {cls text : String} {names : List String} (h : ww_thr Y.1.cls ik is ic cls text names) (d0 : decode Y.2.1 pc = .ok (.new ik, 3)) (d3 : decode Y.2.1 (pc + 3) = .ok (.dup, 1)) (d4 : decode Y.2.1 (pc + 4) = .ok (.ldc_w is, 3)) (d6 : decode Y.2.1 (pc + 7) = .ok (.invokespecial ic, 3)) (d9 : decode Y.2.1 (pc + 10) = .ok (.athrow, 1))
    (h0 : Y.2.2.2.2 = []) (hd : 6 ≤ d) (hc : 1 ≤ kc) (hs : 6 ≤ ks) (hw : (st.map fun v => v.category).sum ≤ 8) (hX : X cls M) : ww_A g Y d kc ks M pc lv st Q X := by
  intro p l e R s m args below meth c H locs cells slots mc ms ls C B hl hH hS
  obtain ⟨hx, hb, hml, ⟨hret, hlk, hnm⟩, htb, hown, hts, htr, hF, hfr, hlo⟩ := id C
  obtain ⟨a1, a2, a3, a4, a5, a6, a7⟩ := id h
  obtain ⟨sa, hsa⟩ := hF.2.2.2.2.1 _ a5
  refine vx_throwSW hx hb htr hown a1 a2 (hts _ a3) (hts _ a4) hsa (ww_thr_at h hts hF) (ww_thr_ot h) hF.2.2.1.1 hF.2.2.1.2 hS (hl.1.1.trans hml.symm) d0 d3 d4 d6 d9 (fun z hz => ?_) (by omega) (by omega) (by omega) (by omega) hlk (fun t ht h1 h2 => ?_) hS.2.2 (by omega) (by omega)
  · rw [htb, h0] at hz
    cases hz
  · refine ⟨⟨M, hX, hH.1.kept (fun k q hk => h2 q.1 (hH.1 k q hk).lt), hH.2⟩, Nat.le_trans hS.1 h1, fun q hq hA => ?_⟩
    rw [h2 q (Nat.lt_of_lt_of_le hq hS.1)]
    exact hS.2.1 q hq hA
/-! casts, statics, Object's constructor, class objects, arraycopy -/
theorem ww_cast {κ idx a : Nat} {r : vw_C} {nm : String} (hd : decode Y.2.1 pc = .ok (.checkcast idx, 3)) (ha : a ∈ ww_L M) (hK : ww_K M a = κ) (hr : vwCl[κ]? = some r) (hw : Cond.classLink Y.1.cls idx r.1 ∈ ww_GW) (kk : ww_A g Y d kc ks M (pc + 3) lv (.ref a :: st) Q X) : ww_A g Y d kc ks M pc lv (.ref a :: st) Q X := by
  intro p l e R s m args below meth c H locs cells slots mc ms ls C B hl hH hS
  obtain ⟨hx, hb, hml, hret, htb, hown, hts, htr, hF, hfr, hlo⟩ := id C
  obtain ⟨q, hq⟩ := ww_W_get (cy := g.2.2.1) ha
  rw [ww_E_o hK (ww_cl_len hr)] at hq
  exact va_castS (nm := r.1) (cC := g.2.1.1 κ) hx hb hown (hts _ hw) (hF.1.2.1 κ r hr).2 (va_recv hF.1.2 hH.1 hr hq) hd (kk p l e R s m args below meth c H locs cells slots mc ms ls C B hl hH hS)
theorem ww_castN {idx : Nat} (hd : decode Y.2.1 pc = .ok (.checkcast idx, 3)) (kk : ww_A g Y d kc ks M (pc + 3) lv (.null :: st) Q X) : ww_A g Y d kc ks M pc lv (.null :: st) Q X := by
  intro p l e R s m args below meth c H locs cells slots mc ms ls C B hl hH hS
  exact lv_castN C.1 C.2.1 hd (kk p l e R s m args below meth c H locs cells slots mc ms ls C B hl hH hS)
theorem ww_getE {idx : Nat} (hd : decode Y.2.1 pc = .ok (.getstatic idx, 3)) (hw : Cond.fieldLink Y.1.cls idx RJx4a65c "DEFAULTCAPACITY_EMPTY_ELEMENTDATA" "[Ljava/lang/Object;" ∈ ww_GW) (kk : ww_A g Y d kc ks M (pc + 3) lv (.ref (ww_ge g) :: st) Q X) : ww_A g Y d kc ks M pc lv st Q X := by
  intro p l e R s m args below meth c H locs cells slots mc ms ls C B hl hH hS
  obtain ⟨hx, hb, hml, hret, htb, hown, hts, htr, hF, hfr, hlo⟩ := id C
  exact va_gets hx hb hF.2.1.1 hS hown (hts _ hw) (fun _ h => h) hd (kk p l e R s m args below meth c H locs cells slots mc ms ls C B hl hH hS)
theorem ww_objInit {idx a : Nat} (hd : decode Y.2.1 pc = .ok (.invokespecial idx, 3)) (hw : Cond.methodLink Y.1.cls idx Lib.objectInit ∈ ww_GW) (hw2 : Cond.instanceMethod Lib.objectInit ∈ ww_GW) (hw3 : Cond.code Lib.objectInit ⟨#[0xb1]⟩ 1 none ∈ ww_GW) (hd1 : 1 ≤ d) (hst : (st.map fun v => v.category).sum ≤ 8) (kk : ww_A g Y d kc ks M (pc + 3) lv st Q X) : ww_A g Y d kc ks M pc lv (.ref a :: st) Q X := by
  intro p l e R s m args below meth c H locs cells slots mc ms ls C B hl hH hS
  obtain ⟨hx, hb, hml, hret, htb, hown, hts, htr, hF, hfr, hlo⟩ := id C
  have h0 : 2 * (F0 m pc ls (.ref a :: st)).monitorRoom + (st.map fun v => v.category).sum ≤ 8 := lv_room hst
  exact W.objInit hx hb hown (hts _ hw) (hts _ hw2) (hts _ hw3) (g := F0 m pc ls (.ref a :: st)) rfl (hl.1.1.trans hml.symm) rfl hd (by omega) (by omega) (kk p l e R s m args below meth c H locs cells slots mc ms ls C B hl hH hS)
theorem ww_ldcM {idx : Nat} (hd : decode Y.2.1 pc = .ok (.ldc idx, 2)) (hw : Cond.classLink Y.1.cls idx "[Ljava/lang/Object;" ∈ ww_GW) (kk : ww_A g Y d kc ks M (pc + 2) lv (.ref (ww_gm g) :: st) Q X) : ww_A g Y d kc ks M pc lv st Q X := by
  intro p l e R s m args below meth c H locs cells slots mc ms ls C B hl hH hS
  obtain ⟨hx, hb, hml, hret, htb, hown, hts, htr, hF, hfr, hlo⟩ := id C
  exact va_ldcM hx hb hown (hts _ hw) hF.2.2.2.2.2.2.1 hd (kk p l e R s m args below meth c H locs cells slots mc ms ls C B hl hH hS)
theorem ww_arr_cell {κ a : Nat} {C0 : String} {s : State} {H : Heap} (hF : va_K g.2.1 vwCl (ww_ty g) s) (hH : ww_H g M H) (ha : a ∈ ww_L M) (hK : ww_K M a = 12) : ∃ cell : Cell, H[a]? = some cell ∧ cell.vm.isStatics = false ∧ s.vm.findClass "[Ljava/lang/Object;" = some cell.cls := by
  obtain ⟨q, hq⟩ := ww_W_get (cy := g.2.2.1) ha
  rw [ww_E_r hK (by omega) (by omega)] at hq
  have h := hH.1 _ _ hq
  obtain ⟨-, -, -, -, -, h4⟩ := (hF.2 3 (g.2.2.1 12, .object "java/lang/Object") rfl).2
  exact ⟨_, h, rfl, h4⟩
theorem ww_getC {idx a : Nat} (hd : decode Y.2.1 pc = .ok (.invokevirtual idx, 3)) (ha : a ∈ ww_L M) (hK : ww_K M a = 12) (hw : Cond.methodLink Y.1.cls idx ⟨"java/lang/Object", "getClass", "()Ljava/lang/Class;"⟩ ∈ ww_GW) (hw1 : (⟨"java/lang/Object", "getClass", "()Ljava/lang/Class;"⟩ : MethodName) ∈ ww_de) (hw2 : Cond.selects "[Ljava/lang/Object;" ⟨"java/lang/Object", "getClass", "()Ljava/lang/Class;"⟩ ⟨"java/lang/Object", "getClass", "()Ljava/lang/Class;"⟩ ∈ ww_GW) (hw3 : Cond.instanceMethod ⟨"java/lang/Object", "getClass", "()Ljava/lang/Class;"⟩ ∈ ww_GW) (hw4 : Cond.native ⟨"java/lang/Object", "getClass", "()Ljava/lang/Class;"⟩ ∈ ww_GW) (hd1 : 1 ≤ d) (hst : (st.map fun v => v.category).sum ≤ 8)
    (kk : ww_A g Y d kc ks M (pc + 3) lv (.ref (ww_gm g) :: st) Q X) : ww_A g Y d kc ks M pc lv (.ref a :: st) Q X := by
  intro p l e R s m args below meth c H locs cells slots mc ms ls C B hl hH hS
  obtain ⟨hx, hb, hml, hret, htb, hown, hts, htr, hF, hfr, hlo⟩ := id C
  exact va_getC hx hb (hml.trans hl.1.1.symm) hown (hts _ hw) (va_Nw.use rfl (hF.2.2.2.2.2.1.2.1 _ hw1)) (hts _ hw2) (hts _ hw3) (hts _ hw4) hF.2.2.2.2.2.2.1 (ww_arr_cell (κ := 12) (C0 := "") hF.1.2 hH ha hK) (by omega) (by omega) hd (kk p l e R s m args below meth c H locs cells slots mc ms ls C B hl hH hS)
theorem ww_copy {idx a b κ n0 n1 n2 : Nat} {r : vw_C} {sp dp n : Int32} (hd : decode Y.2.1 pc = .ok (.invokestatic idx, 3)) (hw : Cond.methodLink Y.1.cls idx arraycopyName ∈ ww_GW) (hw1 : Cond.native arraycopyName ∈ ww_GW) (hw2 : Cond.static arraycopyName ∈ ww_GW) (hw3 : Cond.initialized "java/lang/System" ∈ ww_GW)
    (ha : a ∈ ww_L M) (hK : ww_K M a = 12) (hb2 : b ∈ ww_L M) (hKb : ww_K M b = 12) (e0 : sp = nI n0) (e1 : dp = nI n1) (e2 : n = nI n2) (l0 : n0 + n2 ≤ ww_N M a) (l1 : n1 + n2 ≤ ww_N M b) (l2 : ww_N M a < 2 ^ 31) (l3 : ww_N M b < 2 ^ 31)
    (hr : vwCl[κ]? = some r) (hca : (r.1, "java/lang/Object") ∈ ww_ca) (hel : ∀ i, i < n2 → ∀ y, ww_Y M a (n0 + i) = some y → y ∈ ww_L M ∧ ww_K M y = κ) (hd1 : 1 ≤ d) (hst : (st.map fun v => v.category).sum ≤ 8)
    (kk : ww_A g Y d kc ks (ww_cY M b (va_cpy (ww_Y M a) (ww_Y M b) n0 n1 n2)) (pc + 3) lv st Q X) : ww_A g Y d kc ks M pc lv (.int n :: .int dp :: .ref b :: .int sp :: .ref a :: st) Q X := by
  intro p l e R s m args below meth c H locs cells slots mc ms ls C B hl hH hS
  obtain ⟨hx, hb, hml, hret, htb, hown, hts, htr, hF, hfr, hlo⟩ := id C
  obtain ⟨q, hq⟩ := ww_W_get (cy := g.2.2.1) ha
  obtain ⟨q2, hq2⟩ := ww_W_get (cy := g.2.2.1) hb2
  have hq2' := hq2
  rw [ww_E_r hK (by omega) (by omega)] at hq
  rw [ww_E_r hKb (by omega) (by omega)] at hq2'
  subst e0 e1 e2
  have c0 : (nI n0).toNatClampNeg = n0 := nI_clamp (by omega)
  have c1 : (nI n1).toNatClampNeg = n1 := nI_clamp (by omega)
  have c2 : (nI n2).toNatClampNeg = n2 := nI_clamp (by omega)
  have hnw : nativeFrameWords "java/lang/System" "arraycopy" 5 ≤ 60 := by decide +kernel
  refine va_copyM hx hb (hml.trans hl.1.1.symm) hown (hts _ hw) (hts _ hw1) (hts _ hw2) (hts _ hw3) hF.1.2 hH.1 hH.2 hS q q2 3 3 hq hq2' rfl rfl (nI_pos (by omega)) (nI_pos (by omega)) (nI_pos (by omega)) (by rw [c0, c2]; exact l0) (by rw [c1, c2]; exact l1) (fun i hi y hy => ?_) (by omega) (by omega) hd (fun H1 locs1 hP1 hD1 hS1 => ?_)
  · rw [c2] at hi
    rw [c0] at hy
    obtain ⟨hyL, hyK⟩ := hel i hi y hy
    obtain ⟨q3, hq3⟩ := ww_W_get (cy := g.2.2.1) hyL
    rw [ww_E_o hyK (ww_cl_len hr)] at hq3
    refine va_rAny hF.1.2 hH.1 hq3 hr (fun comp c0 h1 h2 => ?_)
    obtain ⟨c3, c4, h3, h4, h5⟩ := Cond.castable_spec (va_Nw.use (A := #[]) rfl (hF.2.2.2.2.2.1.1 _ hca))
    cases h3.symm.trans h2
    cases h4.symm.trans h1
    exact h5
  · rw [c0, c1, c2] at hP1 hD1
    have hset : (ww_W g.2.2.1 M).set q2 (b, .inl (g.2.2.1 12, ww_N M b, .inr (.inr (.inr (.inr (va_cpy (ww_Y M a) (ww_Y M b) n0 n1 n2)))))) = ww_W g.2.2.1 (ww_cY M b (va_cpy (ww_Y M a) (ww_Y M b) n0 n1 n2)) := by
      refine ww_W_set hH.2 hb2 hq2 rfl ?_ (fun z hz => ww_E_congr rfl rfl (if_neg hz) rfl (fun _ => rfl))
      rw [ww_E_r (M := ww_cY M b _) (κ := 12) hKb (by omega) (by omega)]
      have eY : ww_Y (ww_cY M b (va_cpy (ww_Y M a) (ww_Y M b) n0 n1 n2)) b = va_cpy (ww_Y M a) (ww_Y M b) n0 n1 n2 := if_pos rfl
      rw [eY]
      rfl
    rw [hset] at hP1 hD1
    exact kk p l e R s m args below meth c H1 locs1 cells slots mc ms ls C B hl ⟨hP1, hD1⟩ hS1
end WWC
end
section
section WWI
variable {g : ww_G} {Y : ww_Yd} {d kc ks : Nat} {M : ww_M} {pc : Nat} {lv : List (Nat × Value)} {st : List Value} {Q : Option Value → ww_M → Prop} {X : String → ww_M → Prop}
/-- the words of a callee's own -/
def ww_cal (Y' : ww_Yd) (n : Nat) : Prop := ww_hd Y' ∈ ww_GW ∧ Cond.initialized Y'.1.cls ∈ ww_GW ∧ (Y'.1.cls ≠ "java/lang/invoke/MethodHandle" ∧ Y'.1.cls ≠ "java/lang/invoke/VarHandle") ∧ (parseMethodDescriptor Y'.1.desc).map (fun d => d.parameters.length) = some n ∧ Y'.2.2.1 ≤ 60
def ww_vir (own : String) (idx : Nat) (Y' : ww_Yd) (n : Nat) : Prop := ww_cal Y' n ∧ Y'.2.2.2.2 = [] ∧ Cond.methodLink own idx Y'.1 ∈ ww_GW ∧ Cond.instanceMethod Y'.1 ∈ ww_GW ∧ Cond.selects Y'.1.cls Y'.1 Y'.1 ∈ ww_GW
def ww_sta (own : String) (idx : Nat) (Y' : ww_Yd) (n : Nat) : Prop := ww_cal Y' n ∧ Cond.methodLink own idx Y'.1 ∈ ww_GW ∧ Cond.static Y'.1 ∈ ww_GW
def ww_ini (own : String) (idx : Nat) (Y' : ww_Yd) (n : Nat) : Prop := ww_cal Y' n ∧ Y'.2.2.2.2 = [] ∧ Cond.methodLink own idx Y'.1 ∈ ww_GW ∧ Cond.instanceMethod Y'.1 ∈ ww_GW ∧ Y'.1.name = "<init>"
def ww_inn (own : String) (idx : Nat) (Y' : ww_Yd) (n : Nat) : Prop := ww_cal Y' n ∧ Y'.2.2.2.2 = [] ∧ (∃ h, (own, idx, Y'.1, h) ∈ ww_ne) ∧ Cond.instanceMethod Y'.1 ∈ ww_GW ∧ Y'.1.name = "<init>"
theorem ww_hd0 {Y' : ww_Yd} (h : Y'.2.2.2.2 = []) : ww_hd Y' = .code Y'.1 Y'.2.1 Y'.2.2.1 Y'.2.2.2.1 := by unfold ww_hd; rw [h]
theorem ww_hd1 {Y' : ww_Yd} {z : Nat × Nat × Nat × Nat} {t : List (Nat × Nat × Nat × Nat)} (h : Y'.2.2.2.2 = z :: t) : ww_hd Y' = .codeWith Y'.1 Y'.2.1 Y'.2.2.1 Y'.2.2.2.1 (z :: t) := by unfold ww_hd; rw [h]
theorem ww_pay {Y' : ww_Yd} {n : Nat} {s : State} {args : Array Value} (h : ww_cal Y' n) (hts : ∀ w ∈ ww_GW, w.before args s = true) : ∀ w ∈ ww_hd Y' :: ww_GW, ∀ (a' : Array Value) (U : State), s.WarmedH U.vm → w.before a' U = true := by
  intro w hw a' U hW
  have hw' : w ∈ ww_GW := by
    rcases List.mem_cons.mp hw with rfl | hw
    · exact h.1
    · exact hw
  exact ww_word hW hw' (hts _ hw')
theorem ww_desc {Y' : ww_Yd} {n : Nat} (h : (parseMethodDescriptor Y'.1.desc).map (fun d => d.parameters.length) = some n) : ∀ sig, parseMethodDescriptor Y'.1.desc = some sig → n = sig.parameters.length := by
  intro sig h2
  rw [h2] at h
  exact (Option.some.inj h).symm
/-- what a thing of the pool's is, as a call's receiver -/
theorem ww_recv {g : ww_G} {M : ww_M} {κ a : Nat} {r : vw_C} {s : State} {H : Heap} (hF : va_K g.2.1 vwCl (ww_ty g) s) (hH : ww_H g M H) (ha : a ∈ ww_L M) (hK : ww_K M a = κ) (hr : vwCl[κ]? = some r) : ∃ cell : Cell, H[a]? = some cell ∧ cell.vm.isStatics = false ∧ s.vm.findClass r.1 = some cell.cls := by
  obtain ⟨q, hq⟩ := ww_W_get (cy := g.2.2.1) ha
  rw [ww_E_o hK (ww_cl_len hr)] at hq
  exact va_recv hF hH.1 hr hq
theorem ww_blindP {g : ww_G} {s : State} {H : Heap} {locs : List Loc} {M : ww_M} {av : List Value} (hF : ww_F g s s.heap) (hH : ww_H g M H) (hS : va_S (ww_gA g) s.heap H locs) : ∀ U : State, U.heap = H → s.WarmedH U.vm → ww_Pc g av M av.toArray U := by
  intro U hU hW
  subst hU
  exact ⟨rfl, ww_F_to hW hF hS.1 hS.2.1, hH⟩
/-- behind a call: it returned, or threw what isn't caught here -/
theorem ww_behind {p : Program} {l : Launch} {e : Env} {R : Room} {s : State} {m : MethodId} {args : Array Value} {below : List Frame} {meth : Method} {c : Code} {H : Heap} {locs : List Loc} {cells slots mc ms mc' ms' : Nat} {ls : Array Slot} {a : Array Value} {st0 rest : List Value} {Q' : Option Value → ww_M → Prop} {X' : String → ww_M → Prop}
    (C : ww_Cx g Y d p l R s m args meth c) (B : cells + kc ≤ mc ∧ slots + ks ≤ ms ∧ mc ≤ R.cells ∧ ms ≤ R.slots) (hl : ww_lv ls Y.2.2.1 lv) (hS : va_S (ww_gA g) s.heap H locs) (h0 : Y.2.2.2.2 = []) (hkc : mc' ≤ kc) (hks : ms' ≤ ks)
    (hr : vx_Run p l e R s m args below meth c H locs cells slots mc' ms' (F0 m pc ls st0) rest (ww_Qc g Q' a) (ww_Xc g X') (ww_gA g))
    (hx : ∀ E M', X' E M' → X E M') (hk : ∀ v M', Q' v M' → ww_A g Y d (kc - mc') (ks - ms') M' (pc + 3) lv (v.toList ++ rest) Q X) :
    W p l e R s m args below meth c H locs cells slots (vx_MQ below (ww_Qc g Q) (ww_Xc g X) args s mc ms (ww_gA g)) (F0 m pc ls st0) := by
  intro T hT X0
  rcases hr T hT X0 with ⟨v, st₀, t, T', L, hh, X1, hL, e1, e2, ⟨⟨v', M', hv, hQ, hH'⟩, hF'⟩, st⟩ | ⟨q, st₀, t, T', L, E, ce, hh, X1, hL, e1, e2, ⟨⟨M', hX, hH'⟩, hF'⟩, hce, hcv, hcl, st⟩
  · cases hv
    obtain ⟨k1, k2, k3⟩ := vx_keep hh e1 hS (fun _ _ h => h) (fun _ h => h) hL hF'
    obtain ⟨t2, a1, b1⟩ := hk v M' hQ p l e R s m args below meth c T'.heap (locs ++ L) (cells + mc') (slots + ms') mc ms ls C ⟨by omega, by omega, B.2.2.1, B.2.2.2⟩ hl (by rw [e1]; exact hH') k3 T' rfl X1
    exact ⟨t2, st t2 a1, b1⟩
  · obtain ⟨k1, k2, k3⟩ := vx_keep hh e1 hS (fun _ _ h => h) (fun _ h => h) hL hF'
    obtain ⟨hxx, hb, hml, ⟨hret, hlk, hnm⟩, htb, hown, hts, htr, hF, hfr, hlo⟩ := id C
    have hout : ∀ x ∈ c.exceptionTable.toList, covers x pc = false := fun z hz => by rw [htb, h0] at hz; cases hz
    obtain ⟨t2, a1, b1⟩ := vx_out (Qc := ww_Qc g Q) (XC := ww_Xc g X) (H := T'.heap) (locs := locs ++ L) (cells := cells + mc') (slots := slots + ms') (free := ww_gA g) (mc := mc) (ms := ms) (ls := ls) (rest := rest) hout hlk (by rw [e1]; exact hce) hcv hcl (fun t' ht' _ => ⟨⟨M', hx E M' hX, by rw [ht', e1]; exact hH'⟩, k3.F ht'⟩) k3.2.2 (by omega) (by omega) T' rfl X1
    exact ⟨t2, st.trans a1, b1⟩
theorem ww_callV {Y' : ww_Yd} {idx n b κ d' mc' ms' : Nat} {As rest : List Value} {r : vw_C} {Q' : Option Value → ww_M → Prop} {X' : String → ww_M → Prop} (hw : ww_vir Y.1.cls idx Y' n) (hd : decode Y.2.1 pc = .ok (.invokevirtual idx, 3)) (hM : ww_C g Y' d' mc' ms' (.ref b :: As) M Q' X') (hn : As.length = n) (hst : st = As.reverse ++ .ref b :: rest)
    (hb2 : b ∈ ww_L M) (hK : ww_K M b = κ) (hr : vwCl[κ]? = some r) (hrc : r.1 = Y'.1.cls) (hdd : d' + 1 ≤ d) (hkc : mc' ≤ kc) (hks : ms' ≤ ks) (hW : (rest.map fun v => v.category).sum ≤ 8) (h0 : Y.2.2.2.2 = [])
    (hx : ∀ E M', X' E M' → X E M') (hk : ∀ v M', Q' v M' → ww_A g Y d (kc - mc') (ks - ms') M' (pc + 3) lv (v.toList ++ rest) Q X) : ww_A g Y d kc ks M pc lv st Q X := by
  intro p l e R s m args below meth c H locs cells slots mc ms ls C B hl hH hS
  obtain ⟨hxx, hb, hml, ⟨hret, hlk, hnm⟩, htb, hown, hts, htr, hF, hfr, hlo⟩ := id C
  obtain ⟨hc, hh0, w1, w2, w3⟩ := hw
  obtain ⟨c1, c2, c3, c4, c5⟩ := id hc
  have hcw : Cond.code Y'.1 Y'.2.1 Y'.2.2.1 Y'.2.2.2.1 ∈ ww_hd Y' :: ww_GW := by rw [← ww_hd0 hh0]; exact List.mem_cons_self
  have hcc : (Cond.code Y'.1 Y'.2.1 Y'.2.2.1 Y'.2.2.2.1).before args s = true := by rw [← ww_hd0 hh0]; exact hts _ c1
  have hrecv := ww_recv hF.1.2 hH hb2 hK hr
  rw [hrc] at hrecv
  subst hst
  exact ww_behind C B hl hS h0 hkc hks (vx_runV (As := As) (rest := rest) (own := Y.1.cls) (Ts := ww_GW) ⟨hxx, hb, hml, hown, hts⟩ (hM l htr)
    ⟨⟨rfl, rfl, Nat.le_trans hdd hfr, by show 8 + (Y'.2.2.1 + 11) + 100 * d' ≤ R.locals; omega, ww_pay hc hts, hcw, hcc, hts _ c2, c3, ww_desc c4, hts _ w1⟩, hts _ w2, hts _ w3⟩
    ⟨ww_blind, hrecv, ww_blindP hF hH hS⟩ rfl hn hl.1.1 rfl (lv_room hW) hd ⟨by omega, by omega⟩) hx hk
theorem ww_callS {Y' : ww_Yd} {idx n d' mc' ms' : Nat} {As rest : List Value} {Q' : Option Value → ww_M → Prop} {X' : String → ww_M → Prop} (hw : ww_sta Y.1.cls idx Y' n) (hh0 : Y'.2.2.2.2 = []) (hd : decode Y.2.1 pc = .ok (.invokestatic idx, 3)) (hM : ww_C g Y' d' mc' ms' As M Q' X') (hn : As.length = n) (hst : st = As.reverse ++ rest)
    (hdd : d' + 1 ≤ d) (hkc : mc' ≤ kc) (hks : ms' ≤ ks) (hW : (rest.map fun v => v.category).sum ≤ 8) (h0 : Y.2.2.2.2 = [])
    (hx : ∀ E M', X' E M' → X E M') (hk : ∀ v M', Q' v M' → ww_A g Y d (kc - mc') (ks - ms') M' (pc + 3) lv (v.toList ++ rest) Q X) : ww_A g Y d kc ks M pc lv st Q X := by
  intro p l e R s m args below meth c H locs cells slots mc ms ls C B hl hH hS
  obtain ⟨hxx, hb, hml, ⟨hret, hlk, hnm⟩, htb, hown, hts, htr, hF, hfr, hlo⟩ := id C
  obtain ⟨hc, w1, w2⟩ := hw
  obtain ⟨c1, c2, c3, c4, c5⟩ := id hc
  have hcw : Cond.code Y'.1 Y'.2.1 Y'.2.2.1 Y'.2.2.2.1 ∈ ww_hd Y' :: ww_GW := by rw [← ww_hd0 hh0]; exact List.mem_cons_self
  have hcc : (Cond.code Y'.1 Y'.2.1 Y'.2.2.1 Y'.2.2.2.1).before args s = true := by rw [← ww_hd0 hh0]; exact hts _ c1
  subst hst
  exact ww_behind C B hl hS h0 hkc hks (vx_runS (As := As) (rest := rest) (own := Y.1.cls) (Ts := ww_GW) ⟨hxx, hb, hml, hown, hts⟩ (hM l htr)
    ⟨⟨rfl, rfl, Nat.le_trans hdd hfr, by show 8 + (Y'.2.2.1 + 11) + 100 * d' ≤ R.locals; omega, ww_pay hc hts, hcw, hcc, hts _ c2, c3, ww_desc c4, hts _ w1⟩, hts _ w2⟩
    ⟨ww_blind, ww_blindP hF hH hS⟩ rfl hn hl.1.1 rfl (lv_room hW) hd ⟨by omega, by omega⟩) hx hk
/-- a static method with handlers of its own -/
theorem ww_callSH {Y' : ww_Yd} {idx n d' mc' ms' : Nat} {As rest : List Value} {z : Nat × Nat × Nat × Nat} {t : List (Nat × Nat × Nat × Nat)} {Q' : Option Value → ww_M → Prop} {X' : String → ww_M → Prop} (hw : ww_sta Y.1.cls idx Y' n) (hh0 : Y'.2.2.2.2 = z :: t) (hd : decode Y.2.1 pc = .ok (.invokestatic idx, 3)) (hM : ww_C g Y' d' mc' ms' As M Q' X') (hn : As.length = n) (hst : st = As.reverse ++ rest)
    (hdd : d' + 1 ≤ d) (hkc : mc' ≤ kc) (hks : ms' ≤ ks) (hW : (rest.map fun v => v.category).sum ≤ 8) (h0 : Y.2.2.2.2 = [])
    (hx : ∀ E M', X' E M' → X E M') (hk : ∀ v M', Q' v M' → ww_A g Y d (kc - mc') (ks - ms') M' (pc + 3) lv (v.toList ++ rest) Q X) : ww_A g Y d kc ks M pc lv st Q X := by
  intro p l e R s m args below meth c H locs cells slots mc ms ls C B hl hH hS
  obtain ⟨hxx, hb, hml, ⟨hret, hlk, hnm⟩, htb, hown, hts, htr, hF, hfr, hlo⟩ := id C
  obtain ⟨hc, w1, w2⟩ := hw
  obtain ⟨c1, c2, c3, c4, c5⟩ := id hc
  have hcw : Cond.codeWith Y'.1 Y'.2.1 Y'.2.2.1 Y'.2.2.2.1 (z :: t) ∈ ww_hd Y' :: ww_GW := by rw [← ww_hd1 hh0]; exact List.mem_cons_self
  have hcc : (Cond.codeWith Y'.1 Y'.2.1 Y'.2.2.1 Y'.2.2.2.1 (z :: t)).before args s = true := by rw [← ww_hd1 hh0]; exact hts _ c1
  subst hst
  exact ww_behind C B hl hS h0 hkc hks (vx_runSX (hh := z :: t) (As := As) (rest := rest) (own := Y.1.cls) (Ts := ww_GW) ⟨hxx, hb, hml, hown, hts⟩ (hM l htr)
    ⟨⟨rfl, rfl, Nat.le_trans hdd hfr, by show 8 + (Y'.2.2.1 + 11) + 100 * d' ≤ R.locals; omega, ww_pay hc hts, hcw⟩, hcc, hts _ c2, c3, ww_desc c4, hts _ w1, hts _ w2⟩
    ⟨ww_blind, ww_blindP hF hH hS⟩ rfl hn hl.1.1 rfl (lv_room hW) hd ⟨by omega, by omega⟩) hx hk
theorem ww_metV {l : Launch} {y : MethodName} {ws : List Cond} {rm : Room} {Pc : Array Value → State → Prop} {Q' : Option Value → ww_M → Prop} {mc' ms' : Nat} (h : vx_Met l y ws rm Pc (ww_Qc g Q') (ww_Xc g (fun _ _ => False)) mc' ms' (ww_gA g)) : Met l y ws rm Pc (ww_Qc g Q') mc' ms' (ww_gA g) := by
  intro p e h1 h2 h3 s m args below h4 h5 h6 h7
  obtain ⟨n, o, a1, a2, a3, a4⟩ := h p e h1 h2 h3 s m args below h4 h5 h6 h7
  refine ⟨n, o, a1, a2, a3, ?_⟩
  rcases a4 with a4 | ⟨q, -, E, ce, L, ⟨⟨M', hf, -⟩, -⟩, -⟩
  · exact a4
  · exact hf.elim
/-- behind a constructor that can't throw -/
theorem ww_behindI {p : Program} {l : Launch} {e : Env} {R : Room} {s : State} {m : MethodId} {args : Array Value} {below : List Frame} {meth : Method} {c : Code} {H : Heap} {locs : List Loc} {cells slots mc ms mc' ms' : Nat} {ls : Array Slot} {a : Array Value} {st0 rest : List Value} {Q' : Option Value → ww_M → Prop}
    (C : ww_Cx g Y d p l R s m args meth c) (B : cells + kc ≤ mc ∧ slots + ks ≤ ms ∧ mc ≤ R.cells ∧ ms ≤ R.slots) (hl : ww_lv ls Y.2.2.1 lv) (hS : va_S (ww_gA g) s.heap H locs) (hkc : mc' ≤ kc) (hks : ms' ≤ ks)
    (hr : va_Run p l e R s m args below meth c H locs cells slots mc' ms' (F0 m pc ls st0) rest (ww_Qc g Q' a) (ww_gA g))
    (hk : ∀ v M', Q' v M' → ww_A g Y d (kc - mc') (ks - ms') M' (pc + 3) lv (v.toList ++ rest) Q X) :
    W p l e R s m args below meth c H locs cells slots (vx_MQ below (ww_Qc g Q) (ww_Xc g X) args s mc ms (ww_gA g)) (F0 m pc ls st0) := by
  intro T hT X0
  obtain ⟨v, st₀, t, T', L, hh, X1, hL, e1, e2, ⟨⟨v', M', hv, hQ, hH'⟩, hF'⟩, st⟩ := hr T hT X0
  cases hv
  obtain ⟨k1, k2, k3⟩ := vx_keep hh e1 hS (fun _ _ h => h) (fun _ h => h) hL hF'
  obtain ⟨t2, a1, b1⟩ := hk v M' hQ p l e R s m args below meth c T'.heap (locs ++ L) (cells + mc') (slots + ms') mc ms ls C ⟨by omega, by omega, B.2.2.1, B.2.2.2⟩ hl (by rw [e1]; exact hH') k3 T' rfl X1
  exact ⟨t2, st t2 a1, b1⟩
theorem ww_callI {Y' : ww_Yd} {idx n b d' mc' ms' : Nat} {As rest : List Value} {Q' : Option Value → ww_M → Prop} (hw : ww_ini Y.1.cls idx Y' n) (hv : Y'.2.2.2.1 = none) (hd : decode Y.2.1 pc = .ok (.invokespecial idx, 3)) (hM : ww_C g Y' d' mc' ms' (.ref b :: As) M Q' (fun _ _ => False)) (hn : As.length = n) (hst : st = As.reverse ++ .ref b :: rest)
    (hdd : d' + 1 ≤ d) (hkc : mc' ≤ kc) (hks : ms' ≤ ks) (hW : (rest.map fun v => v.category).sum ≤ 8)
    (hk : ∀ v M', Q' v M' → ww_A g Y d (kc - mc') (ks - ms') M' (pc + 3) lv (v.toList ++ rest) Q X) : ww_A g Y d kc ks M pc lv st Q X := by
  intro p l e R s m args below meth c H locs cells slots mc ms ls C B hl hH hS
  obtain ⟨hxx, hb, hml, ⟨hret, hlk, hnm⟩, htb, hown, hts, htr, hF, hfr, hlo⟩ := id C
  obtain ⟨hc, hh0, w1, w2, w3⟩ := hw
  obtain ⟨c1, c2, c3, c4, c5⟩ := id hc
  have hcw : Cond.code Y'.1 Y'.2.1 Y'.2.2.1 none ∈ ww_hd Y' :: ww_GW := by rw [← hv, ← ww_hd0 hh0]; exact List.mem_cons_self
  have hcc : (Cond.code Y'.1 Y'.2.1 Y'.2.2.1 none).before args s = true := by rw [← hv, ← ww_hd0 hh0]; exact hts _ c1
  subst hst
  exact ww_behindI C B hl hS hkc hks (va_runI (As := As) (rest := rest) (own := Y.1.cls) (Ts := ww_GW) ⟨hxx, hb, hml, hown, hts⟩ (ww_metV (hM l htr))
    ⟨⟨rfl, rfl, Nat.le_trans hdd hfr, by show 8 + (Y'.2.2.1 + 11) + 100 * d' ≤ R.locals; omega, ww_pay hc hts, hcw, hcc, hts _ c2, c3, ww_desc c4, hts _ w1⟩, w3, hts _ w2⟩
    ⟨ww_blind, ww_blindP hF hH hS⟩ rfl hn hl.1.1 rfl (lv_room hW) hd ⟨by omega, by omega⟩) hk
end WWI
end
section
section WWX
variable {g : ww_G} {Y : ww_Yd} {d kc ks : Nat} {M : ww_M} {pc : Nat} {lv : List (Nat × Value)} {st : List Value} {Q : Option Value → ww_M → Prop} {X : String → ww_M → Prop}
theorem ww_callIN {Y' : ww_Yd} {idx n b d' mc' ms' : Nat} {As rest : List Value} {Q' : Option Value → ww_M → Prop} (hw : ww_inn Y.1.cls idx Y' n) (hv : Y'.2.2.2.1 = none) (hd : decode Y.2.1 pc = .ok (.invokespecial idx, 3)) (hM : ww_C g Y' d' mc' ms' (.ref b :: As) M Q' (fun _ _ => False)) (hn : As.length = n) (hst : st = As.reverse ++ .ref b :: rest)
    (hdd : d' + 1 ≤ d) (hkc : mc' ≤ kc) (hks : ms' ≤ ks) (hW : (rest.map fun v => v.category).sum ≤ 8)
    (hk : ∀ v M', Q' v M' → ww_A g Y d (kc - mc') (ks - ms') M' (pc + 3) lv (v.toList ++ rest) Q X) : ww_A g Y d kc ks M pc lv st Q X := by
  intro p l e R s m args below meth c H locs cells slots mc ms ls C B hl hH hS
  obtain ⟨hxx, hb, hml, ⟨hret, hlk, hnm⟩, htb, hown, hts, htr, hF, hfr, hlo⟩ := id C
  obtain ⟨hc, hh0, ⟨host, w1⟩, w2, w3⟩ := hw
  obtain ⟨c1, c2, c3, c4, c5⟩ := id hc
  have hcw : Cond.code Y'.1 Y'.2.1 Y'.2.2.1 none ∈ ww_hd Y' :: ww_GW := by rw [← hv, ← ww_hd0 hh0]; exact List.mem_cons_self
  have hcc : (Cond.code Y'.1 Y'.2.1 Y'.2.2.1 none).before args s = true := by rw [← hv, ← ww_hd0 hh0]; exact hts _ c1
  subst hst
  exact ww_behindI C B hl hS hkc hks (va_runIN (As := As) (rest := rest) (own := Y.1.cls) (Ts := ww_GW) ⟨hxx, hb, hml, hown, hts⟩ (ww_metV (hM l htr))
    ⟨⟨⟨rfl, rfl, Nat.le_trans hdd hfr, by show 8 + (Y'.2.2.1 + 11) + 100 * d' ≤ R.locals; omega, ww_pay hc hts, hcw⟩, hcc, hts _ c2, c3, ww_desc c4, va_Nw.use rfl (hF.2.2.2.2.2.1.2.2.1 _ w1)⟩, w3, hts _ w2⟩
    ⟨ww_blind, ww_blindP hF hH hS⟩ rfl hn hl.1.1 rfl (lv_room hW) hd ⟨by omega, by omega⟩) hk
/-- which handler takes E at pc -/
def ww_han (Y : ww_Yd) (pc : Nat) (E : String) (tgt : Nat) : Prop := ∃ (pre : List (Nat × Nat × Nat × Nat)) (x : Nat × Nat × Nat × Nat) (suf : List (Nat × Nat × Nat × Nat)) (name : String), Y.2.2.2.2 = pre ++ x :: suf ∧ (∀ z ∈ pre, z.2.2.2 ≠ 0 ∧ ∃ nm, Cond.classLink Y.1.cls z.2.2.2 nm ∈ ww_GW ∧ (E, nm) ∈ ww_nc) ∧ (x.1 ≤ pc ∧ pc < x.2.1) ∧ x.2.2.2 ≠ 0 ∧ Cond.classLink Y.1.cls x.2.2.2 name ∈ ww_GW ∧ (E, name) ∈ ww_ca ∧ x.2.2.1 = tgt
theorem ww_callVX {Y' : ww_Yd} {idx n b κ d' mc' ms' : Nat} {As rest : List Value} {r : vw_C} {Q' : Option Value → ww_M → Prop} {X' : String → ww_M → Prop} (hw : ww_vir Y.1.cls idx Y' n) (hd : decode Y.2.1 pc = .ok (.invokevirtual idx, 3)) (hM : ww_C g Y' d' mc' ms' (.ref b :: As) M Q' X') (hn : As.length = n) (hst : st = As.reverse ++ .ref b :: rest)
    (hb2 : b ∈ ww_L M) (hK : ww_K M b = κ) (hr : vwCl[κ]? = some r) (hrc : r.1 = Y'.1.cls) (hdd : d' + 1 ≤ d) (hkc : mc' ≤ kc) (hks : ms' ≤ ks) (hW : (rest.map fun v => v.category).sum ≤ 8)
    (hx : ∀ E M', X' E M' → ∃ tgt, ww_han Y pc E tgt ∧ ∀ q, ww_A g Y d (kc - mc') (ks - ms') M' tgt lv [.ref q] Q X) (hk : ∀ v M', Q' v M' → ww_A g Y d (kc - mc') (ks - ms') M' (pc + 3) lv (v.toList ++ rest) Q X) : ww_A g Y d kc ks M pc lv st Q X := by
  intro p l e R s m args below meth c H locs cells slots mc ms ls C B hl hH hS
  obtain ⟨hxx, hb, hml, ⟨hret, hlk, hnm⟩, htb, hown, hts, htr, hF, hfr, hlo⟩ := id C
  obtain ⟨hc, hh0, w1, w2, w3⟩ := hw
  obtain ⟨c1, c2, c3, c4, c5⟩ := id hc
  have hcw : Cond.code Y'.1 Y'.2.1 Y'.2.2.1 Y'.2.2.2.1 ∈ ww_hd Y' :: ww_GW := by rw [← ww_hd0 hh0]; exact List.mem_cons_self
  have hcc : (Cond.code Y'.1 Y'.2.1 Y'.2.2.1 Y'.2.2.2.1).before args s = true := by rw [← ww_hd0 hh0]; exact hts _ c1
  have hrecv := ww_recv hF.1.2 hH hb2 hK hr
  rw [hrc] at hrecv
  subst hst
  have hr1 := vx_runV (As := As) (rest := rest) (own := Y.1.cls) (Ts := ww_GW) (p := p) (e := e) (below := below) (meth := meth) (locs := locs) (cells := cells) (slots := slots) (g := F0 m pc ls (As.reverse ++ .ref b :: rest)) ⟨hxx, hb, hml, hown, hts⟩ (hM l htr)
    ⟨⟨rfl, rfl, Nat.le_trans hdd hfr, by show 8 + (Y'.2.2.1 + 11) + 100 * d' ≤ R.locals; omega, ww_pay hc hts, hcw, hcc, hts _ c2, c3, ww_desc c4, hts _ w1⟩, hts _ w2, hts _ w3⟩
    ⟨ww_blind, hrecv, ww_blindP hF hH hS⟩ rfl hn hl.1.1 rfl (lv_room hW) hd ⟨by omega, by omega⟩
  intro T hT X0
  rcases hr1 T hT X0 with ⟨v, st₀, t, T', L, hh, X1, hL, e1, e2, ⟨⟨v', M', hv, hQ, hH'⟩, hF'⟩, st⟩ | ⟨q, st₀, t, T', L, E, ce, hh, X1, hL, e1, e2, ⟨⟨M', hX, hH'⟩, hF'⟩, hce, hcv, hcl, st⟩
  · cases hv
    obtain ⟨k1, k2, k3⟩ := vx_keep hh e1 hS (fun _ _ h => h) (fun _ h => h) hL hF'
    obtain ⟨t2, a1, b1⟩ := hk v M' hQ p l e R s m args below meth c T'.heap (locs ++ L) (cells + mc') (slots + ms') mc ms ls C ⟨by omega, by omega, B.2.2.1, B.2.2.2⟩ hl (by rw [e1]; exact hH') k3 T' rfl X1
    exact ⟨t2, st t2 a1, b1⟩
  · obtain ⟨k1, k2, k3⟩ := vx_keep hh e1 hS (fun _ _ h => h) (fun _ h => h) hL hF'
    obtain ⟨tgt, ⟨pre, x, suf, name, f1, f2, f3, f4, f5, f6, rfl⟩, f7⟩ := hx E M' hX
    have hsplit : c.exceptionTable.toList = tableOf pre ++ tableOf [x] ++ tableOf suf := by
      rw [htb, f1]
      simp [tableOf]
    have hk2 := f7 q p l e R s m args below meth c T'.heap (locs ++ L) (cells + mc') (slots + ms') mc ms ls C ⟨by omega, by omega, B.2.2.1, B.2.2.2⟩ hl (by rw [e1]; exact hH') k3
    have hcatch := vx_catch (p := p) (l := l) (e := e) (R := R) (below := below) (meth := meth) (H := T'.heap) (locs := locs ++ L) (cells := cells + mc') (slots := slots + ms') (Q := vx_MQ below (ww_Qc g Q) (ww_Xc g X) args s mc ms (ww_gA g)) (own := Y.1.cls) (name := name) (E := E) (ce := ce) (q := q) (pc := pc) (ls := ls) (rest := rest) hown (tableOf pre) { startPc := x.1, endPc := x.2.1, handlerPc := x.2.2.1, catchType := x.2.2.2 } (tableOf suf) (by rw [hsplit]; simp [tableOf]) (fun z hz => ?_) ?_ f4 (hts _ f5) (va_Nw.use rfl (hF.2.2.2.2.2.1.1 _ f6)) (by rw [e1]; exact hce) hcv hcl hk2
    · obtain ⟨t2, a1, b1⟩ := hcatch T' rfl X1
      exact ⟨t2, st.trans a1, b1⟩
    · obtain ⟨z0, hz0, hz1⟩ := List.mem_map.mp hz
      obtain ⟨g1, nm, g2, g3⟩ := f2 z0 hz0
      subst hz1
      exact Or.inr ⟨g1, nm, hts _ g2, hF.2.2.2.2.2.1.2.2.2 _ g3⟩
    · simp [covers, f3.1, f3.2]
end WWX
end
section
abbrev wy_X6_init : ww_Yd := (yX6_init, cX6_init, 2, none, [])
abbrev wy_Jx4a65c_init_da8c8 : ww_Yd := (yJx4a65c_init_da8c8, cJx4a65c_init_da8c8, 1, none, [])
abbrev wy_Jxc12de_init_da8c8 : ww_Yd := (yJxc12de_init_da8c8, cJxc12de_init_da8c8, 1, none, [])
abbrev wy_Jxa1e45_init_da8c8 : ww_Yd := (yJxa1e45_init_da8c8, cJxa1e45_init_da8c8, 1, none, [])
abbrev wy_X2_init : ww_Yd := (yX2_init, cX2_init, 1, none, [])
abbrev wy_X5_init : ww_Yd := (yX5_init, cX5_init, 1, none, [])
abbrev wy_X1_init : ww_Yd := (yX1_init, cX1_init, 1, none, [])
abbrev wy_X6_part : ww_Yd := (yX6_part, cX6_part, 6, (some .int), [])
abbrev wy_X6_limitsOf : ww_Yd := (yX6_limitsOf, cX6_limitsOf, 2, (some (.object "WheelWorks$KindLimits")), [])
abbrev wy_X6_isOutside : ww_Yd := (yX6_isOutside, cX6_isOutside, 3, (some .boolean), [])
abbrev wy_Jx4a65c_size_8abf5 : ww_Yd := (yJx4a65c_size_8abf5, cJx4a65c_size_8abf5, 1, (some .int), [])
abbrev wy_X3_init : ww_Yd := (yX3_init, cX3_init, 6, none, [])
abbrev wy_X4_init : ww_Yd := (yX4_init, cX4_init, 1, none, [])
abbrev wy_Jx4a65c_add_9ea2d : ww_Yd := (yJx4a65c_add_9ea2d, cJx4a65c_add_9ea2d, 2, (some .boolean), [])
abbrev wy_Jx4a65c_add_72be8 : ww_Yd := (yJx4a65c_add_72be8, cJx4a65c_add_72be8, 4, none, [])
abbrev wy_Jx4a65c_grow_d5877 : ww_Yd := (yJx4a65c_grow_d5877, cJx4a65c_grow_d5877, 1, (some (.array (.object "java/lang/Object"))), [])
abbrev wy_Jx4a65c_grow_92f84 : ww_Yd := (yJx4a65c_grow_92f84, cJx4a65c_grow_92f84, 4, (some (.array (.object "java/lang/Object"))), [])
abbrev wy_J8_newLength_cabcc : ww_Yd := (yJ8_newLength_cabcc, cJ8_newLength_cabcc, 4, (some .int), [])
abbrev wy_J9_max_7cf53 : ww_Yd := (yJ9_max_7cf53, cJ9_max_7cf53, 2, (some .int), [])
abbrev wy_J8_hugeLength_7cf53 : ww_Yd := (yJ8_hugeLength_7cf53, cJ8_hugeLength_7cf53, 3, (some .int), [])
abbrev wy_J7_copyOf_1904c : ww_Yd := (yJ7_copyOf_1904c, cJ7_copyOf_1904c, 2, (some (.array (.object "java/lang/Object"))), [])
abbrev wy_J7_copyOf_6403c : ww_Yd := (yJ7_copyOf_6403c, cJ7_copyOf_6403c, 4, (some (.array (.object "java/lang/Object"))), [])
abbrev wy_J9_min_7cf53 : ww_Yd := (yJ9_min_7cf53, cJ9_min_7cf53, 2, (some .int), [])
abbrev wy_X6_limits : ww_Yd := (yX6_limits, cX6_limits, 7, (some .int), [])
abbrev wy_X6_fit : ww_Yd := (yX6_fit, cX6_fit, 6, (some .int), [])
abbrev wy_X6_existing : ww_Yd := (yX6_existing, cX6_existing, 2, (some (.object "WheelWorks$Part")), [])
abbrev wy_Jx4a65c_get_915e3 : ww_Yd := (yJx4a65c_get_915e3, cJx4a65c_get_915e3, 2, (some (.object "java/lang/Object")), [])
abbrev wy_J15_checkIndex_7cf53 : ww_Yd := (yJ15_checkIndex_7cf53, cJ15_checkIndex_7cf53, 2, (some .int), [])
abbrev wy_J3_checkIndex_8e157 : ww_Yd := (yJ3_checkIndex_8e157, cJ3_checkIndex_8e157, 3, (some .int), [])
abbrev wy_Jx4a65c_elementData_915e3 : ww_Yd := (yJx4a65c_elementData_915e3, cJx4a65c_elementData_915e3, 2, (some (.object "java/lang/Object")), [])
abbrev wy_X6_placesFor : ww_Yd := (yX6_placesFor, cX6_placesFor, 2, (some .int), [])
abbrev wy_X3_isInStore : ww_Yd := (yX3_isInStore, cX3_isInStore, 1, (some .boolean), [])
abbrev wy_X3_isBound : ww_Yd := (yX3_isBound, cX3_isBound, 1, (some .boolean), [])
abbrev wy_X3_top : ww_Yd := (yX3_top, cX3_top, 3, (some (.object "WheelWorks$Part")), [])
abbrev wy_X6_inside : ww_Yd := (yX6_inside, cX6_inside, 6, (some .int), [])
abbrev wy_J9_abs_0f7a4 : ww_Yd := (yJ9_abs_0f7a4, cJ9_abs_0f7a4, 1, (some .int), [])
abbrev wy_X2_addMove : ww_Yd := (yX2_addMove, cX2_addMove, 3, none, [])
abbrev wy_X0_init : ww_Yd := (yX0_init, cX0_init, 4, none, [])
abbrev wy_X2_add : ww_Yd := (yX2_add, cX2_add, 2, none, [])
abbrev wy_X6_inside_ : ww_Yd := (yX6_inside_, cX6_inside_, 4, (some .int), [])
abbrev wy_X6_take : ww_Yd := (yX6_take, cX6_take, 4, (some .int), [])
abbrev wy_X6_scrap : ww_Yd := (yX6_scrap, cX6_scrap, 3, none, [])
abbrev wy_X5_isWaiting : ww_Yd := (yX5_isWaiting, cX5_isWaiting, 3, (some .boolean), [])
abbrev wy_X6_run : ww_Yd := (yX6_run, cX6_run, 8, (some .int), [])
abbrev wy_X6_existingTrain : ww_Yd := (yX6_existingTrain, cX6_existingTrain, 3, (some (.object "WheelWorks$Part")), [])
abbrev wy_X6_checkRun : ww_Yd := (yX6_checkRun, cX6_checkRun, 2, none, [])
abbrev wy_X2_addRun : ww_Yd := (yX2_addRun, cX2_addRun, 3, none, [])
abbrev wy_X6_rubbing : ww_Yd := (yX6_rubbing, cX6_rubbing, 1, (some .int), [])
abbrev wy_X3_runs : ww_Yd := (yX3_runs, cX3_runs, 4, none, [])
abbrev wy_X4_wear : ww_Yd := (yX4_wear, cX4_wear, 3, none, [])
abbrev wy_X3_growFlaw : ww_Yd := (yX3_growFlaw, cX3_growFlaw, 3, none, [])
abbrev wy_X6_quarantineTree : ww_Yd := (yX6_quarantineTree, cX6_quarantineTree, 4, none, [])
abbrev wy_X6_turn : ww_Yd := (yX6_turn, cX6_turn, 7, (some .int), [])
abbrev wy_X6_wheelIn : ww_Yd := (yX6_wheelIn, cX6_wheelIn, 6, (some (.object "WheelWorks$Wheel")), [])
abbrev wy_X4_renewFlange : ww_Yd := (yX4_renewFlange, cX4_renewFlange, 1, none, [])
abbrev wy_X6_gate : ww_Yd := (yX6_gate, cX6_gate, 4, (some .int), [])
abbrev wy_X6_existingWheel : ww_Yd := (yX6_existingWheel, cX6_existingWheel, 3, (some (.object "WheelWorks$Wheel")), [])
abbrev wy_X6_examine : ww_Yd := (yX6_examine, cX6_examine, 4, (some .int), [])
abbrev wy_X3_mayBeExamined : ww_Yd := (yX3_mayBeExamined, cX3_mayBeExamined, 1, (some .boolean), [])
abbrev wy_X6_waive : ww_Yd := (yX6_waive, cX6_waive, 4, none, [])
abbrev wy_X6_flaw : ww_Yd := (yX6_flaw, cX6_flaw, 5, (some .int), [])
abbrev wy_X6_look : ww_Yd := (yX6_look, cX6_look, 4, (some .int), [])
abbrev wy_X6_clear : ww_Yd := (yX6_clear, cX6_clear, 4, (some .int), [])
abbrev wy_X6_recall : ww_Yd := (yX6_recall, cX6_recall, 5, (some .int), [])
abbrev wy_X6_release : ww_Yd := (yX6_release, cX6_release, 4, (some .int), [])
abbrev wy_X6_firstBar : ww_Yd := (yX6_firstBar, cX6_firstBar, 3, (some .int), [])
abbrev wy_X6_lowestBarring : ww_Yd := (yX6_lowestBarring, cX6_lowestBarring, 5, (some .int), [])
abbrev wy_X6_isSo : ww_Yd := (yX6_isSo, cX6_isSo, 3, (some .boolean), [])
abbrev wy_X6_hasEmptyPlace : ww_Yd := (yX6_hasEmptyPlace, cX6_hasEmptyPlace, 3, (some .boolean), [])
abbrev wy_X4_isWorn : ww_Yd := (yX4_isWorn, cX4_isWorn, 1, (some .boolean), [])
abbrev wy_X6_isApart : ww_Yd := (yX6_isApart, cX6_isApart, 2, (some .boolean), [])
abbrev wy_X6_spreadIn : ww_Yd := (yX6_spreadIn, cX6_spreadIn, 6, (some .int), [])
abbrev wy_X3_isWithin : ww_Yd := (yX3_isWithin, cX3_isWithin, 4, (some .boolean), [])
abbrev wy_X3_isExaminationDue : ww_Yd := (yX3_isExaminationDue, cX3_isExaminationDue, 1, (some .boolean), [])
abbrev wy_X6_comes : ww_Yd := (yX6_comes, cX6_comes, 4, (some .int), [])
abbrev wy_X5_isTaken : ww_Yd := (yX5_isTaken, cX5_isTaken, 3, (some .boolean), [])
abbrev wy_X6_night : ww_Yd := (yX6_night, cX6_night, 1, (some .int), [])
abbrev wy_Jx4a65c_isEmpty_aae02 : ww_Yd := (yJx4a65c_isEmpty_aae02, cJx4a65c_isEmpty_aae02, 1, (some .boolean), [])
abbrev wy_X5_park : ww_Yd := (yX5_park, cX5_park, 4, (some .int), [])
abbrev wy_X5_makePlan : ww_Yd := (yX5_makePlan, cX5_makePlan, 1, (some .int), [])
abbrev wy_X5_markBlocked : ww_Yd := (yX5_markBlocked, cX5_markBlocked, 3, none, [])
abbrev wy_X5_searchPlan : ww_Yd := (yX5_searchPlan, cX5_searchPlan, 6, none, [])
abbrev wy_X5_trainsIn : ww_Yd := (yX5_trainsIn, cX5_trainsIn, 2, (some .int), [])
abbrev wy_J6_bitCount_0f7a4 : ww_Yd := (yJ6_bitCount_0f7a4, cJ6_bitCount_0f7a4, 1, (some .int), [])
abbrev wy_X5_bitOf : ww_Yd := (yX5_bitOf, cX5_bitOf, 2, (some .int), [])
abbrev wy_X5_roadIn : ww_Yd := (yX5_roadIn, cX5_roadIn, 3, (some .int), [])
abbrev wy_Jx4a65c_clear_da8c8 : ww_Yd := (yJx4a65c_clear_da8c8, cJx4a65c_clear_da8c8, 4, none, [])
abbrev wy_X6_out : ww_Yd := (yX6_out, cX6_out, 1, (some .int), [])
abbrev wy_X5_sendFirst : ww_Yd := (yX5_sendFirst, cX5_sendFirst, 5, (some .int), [])
abbrev wy_Jx4a65c_remove_915e3 : ww_Yd := (yJx4a65c_remove_915e3, cJx4a65c_remove_915e3, 4, (some (.object "java/lang/Object")), [])
abbrev wy_Jx4a65c_fastRemove_b59b0 : ww_Yd := (yJx4a65c_fastRemove_b59b0, cJx4a65c_fastRemove_b59b0, 4, none, [])
abbrev wy_X6_host : ww_Yd := (yX6_host, cX6_host, 2, (some .int), [])
abbrev wy_X3_whereabouts : ww_Yd := (yX3_whereabouts, cX3_whereabouts, 1, (some .int), [])
abbrev wy_X6_head : ww_Yd := (yX6_head, cX6_head, 2, (some .int), [])
abbrev wy_X6_ofPart : ww_Yd := (yX6_ofPart, cX6_ofPart, 4, (some .int), [])
abbrev wy_X2_movesOf : ww_Yd := (yX2_movesOf, cX2_movesOf, 4, (some .int), [])
abbrev wy_X2_isMoveOf : ww_Yd := (yX2_isMoveOf, cX2_isMoveOf, 2, (some .boolean), [])
abbrev wy_X6_trace : ww_Yd := (yX6_trace, cX6_trace, 5, (some .int), [])
abbrev wy_X2_moveOf : ww_Yd := (yX2_moveOf, cX2_moveOf, 6, (some (.object "WheelWorks$Event")), [])
abbrev wy_X6_lifeAnew : ww_Yd := (yX6_lifeAnew, cX6_lifeAnew, 2, (some .int), [])
abbrev wy_X2_lifeOf : ww_Yd := (yX2_lifeOf, cX2_lifeOf, 5, (some .int), [])
abbrev wy_X2_topThen : ww_Yd := (yX2_topThen, cX2_topThen, 4, (some .int), [])
abbrev wy_X2_isPart : ww_Yd := (yX2_isPart, cX2_isPart, 2, (some .boolean), [])
abbrev wy_X6_wheel : ww_Yd := (yX6_wheel, cX6_wheel, 4, (some .int), [])
abbrev wy_X6_foretell : ww_Yd := (yX6_foretell, cX6_foretell, 6, (some .int), [])
abbrev wy_X6_bars : ww_Yd := (yX6_bars, cX6_bars, 2, (some .int), [])
abbrev wy_X6_barredBy : ww_Yd := (yX6_barredBy, cX6_barredBy, 3, (some .int), [])
abbrev wy_X6_isReleased : ww_Yd := (yX6_isReleased, cX6_isReleased, 2, (some .boolean), [])
abbrev wy_X6_plan : ww_Yd := (yX6_plan, cX6_plan, 1, (some .int), [])
abbrev wy_X6_planAnew : ww_Yd := (yX6_planAnew, cX6_planAnew, 1, (some .int), [])
abbrev wy_X5_makePlanAnew : ww_Yd := (yX5_makePlanAnew, cX5_makePlanAnew, 1, (some .int), [])
abbrev wy_X5_fewestMoves : ww_Yd := (yX5_fewestMoves, cX5_fewestMoves, 7, (some .int), [])
abbrev wy_X6_road : ww_Yd := (yX6_road, cX6_road, 3, (some .int), [])
abbrev wy_X5_trainOn : ww_Yd := (yX5_trainOn, cX5_trainOn, 6, (some .int), [])
abbrev wy_L_cell : ww_Yd := (yL_cell, cL_cell, 2, (some .int), [])
abbrev wy_L_low : ww_Yd := (yL_low, cL_low, 2, (some .int), [])
abbrev wy_L_build : ww_Yd := (yL_build, cL_build, 4, (some .boolean), [])
abbrev wy_L_inside : ww_Yd := (yL_inside, cL_inside, 5, (some .int), [])
abbrev wy_L_room : ww_Yd := (yL_room, cL_room, 2, (some .int), [])
abbrev wy_L_stands : ww_Yd := (yL_stands, cL_stands, 5, (some .boolean), [])
abbrev wy_L_law : ww_Yd := (yL_law, cL_law, maxLocals, ret, [])
theorem wu_0 : ∀ w ∈ u_ws RJx4a65c TJx4a65c 3, w ∈ ww_GW := by
  intro w hw
  obtain ⟨k, hk, rfl⟩ := List.mem_map.mp hw
  have hk := List.mem_range.mp hk
  have h1 : ∀ k, k < 3 → lw_tbl[([79, 75, 77] : List Nat).getD k 0]? = some (u_lay RJx4a65c TJx4a65c k) := by decide +kernel
  have h2 : ∀ k, k < 3 → goodWord (u_lay RJx4a65c TJx4a65c k) = true := by decide +kernel
  exact ww_gw (List.mem_of_getElem? (h1 k hk)) (h2 k hk)
theorem wt_0_0 {y : MethodName} : ww_fst y 0 0 (tyJx4a65c 0) := ⟨(RJx4a65c, TJx4a65c, 3), tyJx4a65c, rfl, tyJx4a65c_ok, nmJx4a65c, Or.inl rfl, tyJx4a65c_ok 0 (by decide)⟩
theorem wt_0_1 {y : MethodName} : ww_fst y 0 1 (tyJx4a65c 1) := ⟨(RJx4a65c, TJx4a65c, 3), tyJx4a65c, rfl, tyJx4a65c_ok, nmJx4a65c, Or.inl rfl, tyJx4a65c_ok 1 (by decide)⟩
theorem wt_0_2 {y : MethodName} : ww_fst y 0 2 (tyJx4a65c 2) := ⟨(RJx4a65c, TJx4a65c, 3), tyJx4a65c, rfl, tyJx4a65c_ok, nmJx4a65c, Or.inl rfl, tyJx4a65c_ok 2 (by decide)⟩
theorem wu_1 : ∀ w ∈ u_ws RX0 TX0 3, w ∈ ww_GW := by
  intro w hw
  obtain ⟨k, hk, rfl⟩ := List.mem_map.mp hw
  have hk := List.mem_range.mp hk
  have h1 : ∀ k, k < 3 → lw_tbl[([500, 502, 504] : List Nat).getD k 0]? = some (u_lay RX0 TX0 k) := by decide +kernel
  have h2 : ∀ k, k < 3 → goodWord (u_lay RX0 TX0 k) = true := by decide +kernel
  exact ww_gw (List.mem_of_getElem? (h1 k hk)) (h2 k hk)
theorem wt_1_0 : ww_fst yX0_init 1 0 (tyX0 0) := ⟨(RX0, TX0, 3), tyX0, rfl, tyX0_ok, nmX0, Or.inr ⟨rfl, rfl, rfl⟩, tyX0_ok 0 (by decide)⟩
theorem wt_1_1 : ww_fst yX0_init 1 1 (tyX0 1) := ⟨(RX0, TX0, 3), tyX0, rfl, tyX0_ok, nmX0, Or.inr ⟨rfl, rfl, rfl⟩, tyX0_ok 1 (by decide)⟩
theorem wt_1_2 : ww_fst yX0_init 1 2 (tyX0 2) := ⟨(RX0, TX0, 3), tyX0, rfl, tyX0_ok, nmX0, Or.inr ⟨rfl, rfl, rfl⟩, tyX0_ok 2 (by decide)⟩
theorem wu_2 : ∀ w ∈ u_ws RX1 TX1 3, w ∈ ww_GW := by
  intro w hw
  obtain ⟨k, hk, rfl⟩ := List.mem_map.mp hw
  have hk := List.mem_range.mp hk
  have h1 : ∀ k, k < 3 → lw_tbl[([136, 138, 140] : List Nat).getD k 0]? = some (u_lay RX1 TX1 k) := by decide +kernel
  have h2 : ∀ k, k < 3 → goodWord (u_lay RX1 TX1 k) = true := by decide +kernel
  exact ww_gw (List.mem_of_getElem? (h1 k hk)) (h2 k hk)
theorem wt_2_0 {y : MethodName} : ww_fst y 2 0 (tyX1 0) := ⟨(RX1, TX1, 3), tyX1, rfl, tyX1_ok, nmX1, Or.inl rfl, tyX1_ok 0 (by decide)⟩
theorem wt_2_1 {y : MethodName} : ww_fst y 2 1 (tyX1 1) := ⟨(RX1, TX1, 3), tyX1, rfl, tyX1_ok, nmX1, Or.inl rfl, tyX1_ok 1 (by decide)⟩
theorem wt_2_2 {y : MethodName} : ww_fst y 2 2 (tyX1 2) := ⟨(RX1, TX1, 3), tyX1, rfl, tyX1_ok, nmX1, Or.inl rfl, tyX1_ok 2 (by decide)⟩
theorem wu_3 : ∀ w ∈ u_ws RX2 TX2 2, w ∈ ww_GW := by
  intro w hw
  obtain ⟨k, hk, rfl⟩ := List.mem_map.mp hw
  have hk := List.mem_range.mp hk
  have h1 : ∀ k, k < 2 → lw_tbl[([94, 96] : List Nat).getD k 0]? = some (u_lay RX2 TX2 k) := by decide +kernel
  have h2 : ∀ k, k < 2 → goodWord (u_lay RX2 TX2 k) = true := by decide +kernel
  exact ww_gw (List.mem_of_getElem? (h1 k hk)) (h2 k hk)
theorem wt_3_0 : ww_fst yX2_init 3 0 (tyX2 0) := ⟨(RX2, TX2, 2), tyX2, rfl, tyX2_ok, nmX2, Or.inr ⟨rfl, rfl, rfl⟩, tyX2_ok 0 (by decide)⟩
theorem wt_3_1 : ww_fst yX2_init 3 1 (tyX2 1) := ⟨(RX2, TX2, 2), tyX2, rfl, tyX2_ok, nmX2, Or.inr ⟨rfl, rfl, rfl⟩, tyX2_ok 1 (by decide)⟩
theorem wu_4 : ∀ w ∈ u_ws RX3 TX3 18, w ∈ ww_GW := by
  intro w hw
  obtain ⟨k, hk, rfl⟩ := List.mem_map.mp hw
  have hk := List.mem_range.mp hk
  have h1 : ∀ k, k < 18 → lw_tbl[([318, 320, 322, 324, 326, 328, 330, 332, 334, 336, 338, 340, 342, 344, 346, 348, 350, 352] : List Nat).getD k 0]? = some (u_lay RX3 TX3 k) := by decide +kernel
  have h2 : ∀ k, k < 18 → goodWord (u_lay RX3 TX3 k) = true := by decide +kernel
  exact ww_gw (List.mem_of_getElem? (h1 k hk)) (h2 k hk)
theorem wt_4_0 : ww_fst yX3_init 4 0 (tyX3 0) := ⟨(RX3, TX3, 18), tyX3, rfl, tyX3_ok, nmX3, Or.inr ⟨rfl, rfl, rfl⟩, tyX3_ok 0 (by decide)⟩
theorem wt_4_1 : ww_fst yX3_init 4 1 (tyX3 1) := ⟨(RX3, TX3, 18), tyX3, rfl, tyX3_ok, nmX3, Or.inr ⟨rfl, rfl, rfl⟩, tyX3_ok 1 (by decide)⟩
theorem wt_4_2 : ww_fst yX3_init 4 2 (tyX3 2) := ⟨(RX3, TX3, 18), tyX3, rfl, tyX3_ok, nmX3, Or.inr ⟨rfl, rfl, rfl⟩, tyX3_ok 2 (by decide)⟩
theorem wt_4_3 : ww_fst yX3_init 4 3 (tyX3 3) := ⟨(RX3, TX3, 18), tyX3, rfl, tyX3_ok, nmX3, Or.inr ⟨rfl, rfl, rfl⟩, tyX3_ok 3 (by decide)⟩
theorem wt_4_4 : ww_fst yX3_init 4 4 (tyX3 4) := ⟨(RX3, TX3, 18), tyX3, rfl, tyX3_ok, nmX3, Or.inr ⟨rfl, rfl, rfl⟩, tyX3_ok 4 (by decide)⟩
theorem wt_4_5 : ww_fst yX3_init 4 5 (tyX3 5) := ⟨(RX3, TX3, 18), tyX3, rfl, tyX3_ok, nmX3, Or.inr ⟨rfl, rfl, rfl⟩, tyX3_ok 5 (by decide)⟩
theorem wt_4_6 {y : MethodName} : ww_fst y 4 6 (tyX3 6) := ⟨(RX3, TX3, 18), tyX3, rfl, tyX3_ok, nmX3, Or.inl rfl, tyX3_ok 6 (by decide)⟩
theorem wt_4_7 {y : MethodName} : ww_fst y 4 7 (tyX3 7) := ⟨(RX3, TX3, 18), tyX3, rfl, tyX3_ok, nmX3, Or.inl rfl, tyX3_ok 7 (by decide)⟩
theorem wt_4_8 {y : MethodName} : ww_fst y 4 8 (tyX3 8) := ⟨(RX3, TX3, 18), tyX3, rfl, tyX3_ok, nmX3, Or.inl rfl, tyX3_ok 8 (by decide)⟩
theorem wt_4_9 {y : MethodName} : ww_fst y 4 9 (tyX3 9) := ⟨(RX3, TX3, 18), tyX3, rfl, tyX3_ok, nmX3, Or.inl rfl, tyX3_ok 9 (by decide)⟩
theorem wt_4_10 {y : MethodName} : ww_fst y 4 10 (tyX3 10) := ⟨(RX3, TX3, 18), tyX3, rfl, tyX3_ok, nmX3, Or.inl rfl, tyX3_ok 10 (by decide)⟩
theorem wt_4_11 {y : MethodName} : ww_fst y 4 11 (tyX3 11) := ⟨(RX3, TX3, 18), tyX3, rfl, tyX3_ok, nmX3, Or.inl rfl, tyX3_ok 11 (by decide)⟩
theorem wt_4_12 {y : MethodName} : ww_fst y 4 12 (tyX3 12) := ⟨(RX3, TX3, 18), tyX3, rfl, tyX3_ok, nmX3, Or.inl rfl, tyX3_ok 12 (by decide)⟩
theorem wt_4_13 {y : MethodName} : ww_fst y 4 13 (tyX3 13) := ⟨(RX3, TX3, 18), tyX3, rfl, tyX3_ok, nmX3, Or.inl rfl, tyX3_ok 13 (by decide)⟩
theorem wt_4_14 {y : MethodName} : ww_fst y 4 14 (tyX3 14) := ⟨(RX3, TX3, 18), tyX3, rfl, tyX3_ok, nmX3, Or.inl rfl, tyX3_ok 14 (by decide)⟩
theorem wt_4_15 {y : MethodName} : ww_fst y 4 15 (tyX3 15) := ⟨(RX3, TX3, 18), tyX3, rfl, tyX3_ok, nmX3, Or.inl rfl, tyX3_ok 15 (by decide)⟩
theorem wt_4_16 {y : MethodName} : ww_fst y 4 16 (tyX3 16) := ⟨(RX3, TX3, 18), tyX3, rfl, tyX3_ok, nmX3, Or.inl rfl, tyX3_ok 16 (by decide)⟩
theorem wt_4_17 {y : MethodName} : ww_fst y 4 17 (tyX3 17) := ⟨(RX3, TX3, 18), tyX3, rfl, tyX3_ok, nmX3, Or.inl rfl, tyX3_ok 17 (by decide)⟩
theorem wu_5 : ∀ w ∈ u_ws RX4 TX4 4, w ∈ ww_GW := by
  intro w hw
  obtain ⟨k, hk, rfl⟩ := List.mem_map.mp hw
  have hk := List.mem_range.mp hk
  have h1 : ∀ k, k < 4 → lw_tbl[([275, 277, 279, 281] : List Nat).getD k 0]? = some (u_lay RX4 TX4 k) := by decide +kernel
  have h2 : ∀ k, k < 4 → goodWord (u_lay RX4 TX4 k) = true := by decide +kernel
  exact ww_gw (List.mem_of_getElem? (h1 k hk)) (h2 k hk)
theorem wt_5_0 {y : MethodName} : ww_fst y 5 0 (tyX4 0) := ⟨(RX4, TX4, 4), tyX4, rfl, tyX4_ok, nmX4, Or.inl rfl, tyX4_ok 0 (by decide)⟩
theorem wt_5_1 {y : MethodName} : ww_fst y 5 1 (tyX4 1) := ⟨(RX4, TX4, 4), tyX4, rfl, tyX4_ok, nmX4, Or.inl rfl, tyX4_ok 1 (by decide)⟩
theorem wt_5_2 {y : MethodName} : ww_fst y 5 2 (tyX4 2) := ⟨(RX4, TX4, 4), tyX4, rfl, tyX4_ok, nmX4, Or.inl rfl, tyX4_ok 2 (by decide)⟩
theorem wt_5_3 {y : MethodName} : ww_fst y 5 3 (tyX4 3) := ⟨(RX4, TX4, 4), tyX4, rfl, tyX4_ok, nmX4, Or.inl rfl, tyX4_ok 3 (by decide)⟩
theorem wu_6 : ∀ w ∈ u_ws RX5 TX5 5, w ∈ ww_GW := by
  intro w hw
  obtain ⟨k, hk, rfl⟩ := List.mem_map.mp hw
  have hk := List.mem_range.mp hk
  have h1 : ∀ k, k < 5 → lw_tbl[([115, 117, 119, 121, 123] : List Nat).getD k 0]? = some (u_lay RX5 TX5 k) := by decide +kernel
  have h2 : ∀ k, k < 5 → goodWord (u_lay RX5 TX5 k) = true := by decide +kernel
  exact ww_gw (List.mem_of_getElem? (h1 k hk)) (h2 k hk)
theorem wt_6_0 : ww_fst yX5_init 6 0 (tyX5 0) := ⟨(RX5, TX5, 5), tyX5, rfl, tyX5_ok, nmX5, Or.inr ⟨rfl, rfl, rfl⟩, tyX5_ok 0 (by decide)⟩
theorem wt_6_1 : ww_fst yX5_init 6 1 (tyX5 1) := ⟨(RX5, TX5, 5), tyX5, rfl, tyX5_ok, nmX5, Or.inr ⟨rfl, rfl, rfl⟩, tyX5_ok 1 (by decide)⟩
theorem wt_6_2 : ww_fst yX5_init 6 2 (tyX5 2) := ⟨(RX5, TX5, 5), tyX5, rfl, tyX5_ok, nmX5, Or.inr ⟨rfl, rfl, rfl⟩, tyX5_ok 2 (by decide)⟩
theorem wt_6_3 {y : MethodName} : ww_fst y 6 3 (tyX5 3) := ⟨(RX5, TX5, 5), tyX5, rfl, tyX5_ok, nmX5, Or.inl rfl, tyX5_ok 3 (by decide)⟩
theorem wt_6_4 {y : MethodName} : ww_fst y 6 4 (tyX5 4) := ⟨(RX5, TX5, 5), tyX5, rfl, tyX5_ok, nmX5, Or.inl rfl, tyX5_ok 4 (by decide)⟩
theorem wu_7 : ∀ w ∈ u_ws RX6 TX6 4, w ∈ ww_GW := by
  intro w hw
  obtain ⟨k, hk, rfl⟩ := List.mem_map.mp hw
  have hk := List.mem_range.mp hk
  have h1 : ∀ k, k < 4 → lw_tbl[([147, 149, 151, 153] : List Nat).getD k 0]? = some (u_lay RX6 TX6 k) := by decide +kernel
  have h2 : ∀ k, k < 4 → goodWord (u_lay RX6 TX6 k) = true := by decide +kernel
  exact ww_gw (List.mem_of_getElem? (h1 k hk)) (h2 k hk)
theorem wt_7_0 : ww_fst yX6_init 7 0 (tyX6 0) := ⟨(RX6, TX6, 4), tyX6, rfl, tyX6_ok, nmX6, Or.inr ⟨rfl, rfl, rfl⟩, tyX6_ok 0 (by decide)⟩
theorem wt_7_1 : ww_fst yX6_init 7 1 (tyX6 1) := ⟨(RX6, TX6, 4), tyX6, rfl, tyX6_ok, nmX6, Or.inr ⟨rfl, rfl, rfl⟩, tyX6_ok 1 (by decide)⟩
theorem wt_7_2 : ww_fst yX6_init 7 2 (tyX6 2) := ⟨(RX6, TX6, 4), tyX6, rfl, tyX6_ok, nmX6, Or.inr ⟨rfl, rfl, rfl⟩, tyX6_ok 2 (by decide)⟩
theorem wt_7_3 : ww_fst yX6_init 7 3 (tyX6 3) := ⟨(RX6, TX6, 4), tyX6, rfl, tyX6_ok, nmX6, Or.inr ⟨rfl, rfl, rfl⟩, tyX6_ok 3 (by decide)⟩
theorem wm_70 : Cond.fieldLink RJx4a65c 9 "java/util/ArrayList" "elementData" "[Ljava/lang/Object;" ∈ ww_GW := ww_gw (List.mem_of_getElem? (i := 70) (by decide +kernel)) rfl
theorem wf_Jx4a65c_9 : ww_fld RJx4a65c 9 0 1 := ⟨(RJx4a65c, TJx4a65c, 3), "java/util/ArrayList", rfl, by decide, rfl, wm_70, wu_0, Or.inl rfl⟩
theorem wm_71 : Cond.fieldLink RJx4a65c 48 "java/util/ArrayList" "size" "I" ∈ ww_GW := ww_gw (List.mem_of_getElem? (i := 71) (by decide +kernel)) rfl
theorem wf_Jx4a65c_48 : ww_fld RJx4a65c 48 0 2 := ⟨(RJx4a65c, TJx4a65c, 3), "java/util/ArrayList", rfl, by decide, rfl, wm_71, wu_0, Or.inl rfl⟩
theorem wm_72 : Cond.fieldLink RJxc12de 7 "java/util/AbstractList" "modCount" "I" ∈ ww_GW := ww_gw (List.mem_of_getElem? (i := 72) (by decide +kernel)) rfl
theorem wf_Jxc12de_7 : ww_fld RJxc12de 7 0 0 := ⟨(RJx4a65c, TJx4a65c, 3), "java/util/AbstractList", rfl, by decide, rfl, wm_72, wu_0, Or.inl rfl⟩
theorem wm_73 : Cond.fieldLink RJx4a65c 63 "java/util/ArrayList" "modCount" "I" ∈ ww_GW := ww_gw (List.mem_of_getElem? (i := 73) (by decide +kernel)) rfl
theorem wm_74 : Cond.sameField "java/util/ArrayList" "java/util/AbstractList" "modCount" "I" ∈ ww_GW := ww_gw (List.mem_of_getElem? (i := 74) (by decide +kernel)) rfl
theorem wf_Jx4a65c_63 : ww_fld RJx4a65c 63 0 0 := ⟨(RJx4a65c, TJx4a65c, 3), "java/util/ArrayList", rfl, by decide, rfl, wm_73, wu_0, Or.inr wm_74⟩
theorem wm_92 : Cond.fieldLink RX2 12 "WheelWorks$Log" "events" "Ljava/util/ArrayList;" ∈ ww_GW := ww_gw (List.mem_of_getElem? (i := 92) (by decide +kernel)) rfl
theorem wf_X2_12 : ww_fld RX2 12 3 0 := ⟨(RX2, TX2, 2), "WheelWorks$Log", rfl, by decide, rfl, wm_92, wu_3, Or.inl rfl⟩
theorem wm_93 : Cond.fieldLink RX2 18 "WheelWorks$Log" "hosts" "[I" ∈ ww_GW := ww_gw (List.mem_of_getElem? (i := 93) (by decide +kernel)) rfl
theorem wf_X2_18 : ww_fld RX2 18 3 1 := ⟨(RX2, TX2, 2), "WheelWorks$Log", rfl, by decide, rfl, wm_93, wu_3, Or.inl rfl⟩
theorem wm_108 : Cond.fieldLink RX5 12 "WheelWorks$Yard" "waiting" "Ljava/util/ArrayList;" ∈ ww_GW := ww_gw (List.mem_of_getElem? (i := 108) (by decide +kernel)) rfl
theorem wf_X5_12 : ww_fld RX5 12 6 0 := ⟨(RX5, TX5, 5), "WheelWorks$Yard", rfl, by decide, rfl, wm_108, wu_6, Or.inl rfl⟩
theorem wm_109 : Cond.fieldLink RX6 263 "WheelWorks$Yard" "waiting" "Ljava/util/ArrayList;" ∈ ww_GW := ww_gw (List.mem_of_getElem? (i := 109) (by decide +kernel)) rfl
theorem wf_X6_263 : ww_fld RX6 263 6 0 := ⟨(RX5, TX5, 5), "WheelWorks$Yard", rfl, by decide, rfl, wm_109, wu_6, Or.inl rfl⟩
theorem wm_110 : Cond.fieldLink RX5 18 "WheelWorks$Yard" "standing" "Ljava/util/ArrayList;" ∈ ww_GW := ww_gw (List.mem_of_getElem? (i := 110) (by decide +kernel)) rfl
theorem wf_X5_18 : ww_fld RX5 18 6 1 := ⟨(RX5, TX5, 5), "WheelWorks$Yard", rfl, by decide, rfl, wm_110, wu_6, Or.inl rfl⟩
theorem wm_111 : Cond.fieldLink RX6 280 "WheelWorks$Yard" "standing" "Ljava/util/ArrayList;" ∈ ww_GW := ww_gw (List.mem_of_getElem? (i := 111) (by decide +kernel)) rfl
theorem wf_X6_280 : ww_fld RX6 280 6 1 := ⟨(RX5, TX5, 5), "WheelWorks$Yard", rfl, by decide, rfl, wm_111, wu_6, Or.inl rfl⟩
theorem wm_112 : Cond.fieldLink RX5 21 "WheelWorks$Yard" "blocked" "[I" ∈ ww_GW := ww_gw (List.mem_of_getElem? (i := 112) (by decide +kernel)) rfl
theorem wf_X5_21 : ww_fld RX5 21 6 2 := ⟨(RX5, TX5, 5), "WheelWorks$Yard", rfl, by decide, rfl, wm_112, wu_6, Or.inl rfl⟩
theorem wm_113 : Cond.fieldLink RX5 42 "WheelWorks$Yard" "bestMoves" "I" ∈ ww_GW := ww_gw (List.mem_of_getElem? (i := 113) (by decide +kernel)) rfl
theorem wf_X5_42 : ww_fld RX5 42 6 3 := ⟨(RX5, TX5, 5), "WheelWorks$Yard", rfl, by decide, rfl, wm_113, wu_6, Or.inl rfl⟩
theorem wm_114 : Cond.fieldLink RX5 56 "WheelWorks$Yard" "bestPlan" "I" ∈ ww_GW := ww_gw (List.mem_of_getElem? (i := 114) (by decide +kernel)) rfl
theorem wf_X5_56 : ww_fld RX5 56 6 4 := ⟨(RX5, TX5, 5), "WheelWorks$Yard", rfl, by decide, rfl, wm_114, wu_6, Or.inl rfl⟩
theorem wm_131 : Cond.fieldLink RX6 73 "WheelWorks$KindLimits" "life" "I" ∈ ww_GW := ww_gw (List.mem_of_getElem? (i := 131) (by decide +kernel)) rfl
theorem wf_X6_73 : ww_fld RX6 73 2 0 := ⟨(RX1, TX1, 3), "WheelWorks$KindLimits", rfl, by decide, rfl, wm_131, wu_2, Or.inl rfl⟩
theorem wm_132 : Cond.fieldLink RX6 77 "WheelWorks$KindLimits" "interval" "I" ∈ ww_GW := ww_gw (List.mem_of_getElem? (i := 132) (by decide +kernel)) rfl
theorem wf_X6_77 : ww_fld RX6 77 2 1 := ⟨(RX1, TX1, 3), "WheelWorks$KindLimits", rfl, by decide, rfl, wm_132, wu_2, Or.inl rfl⟩
theorem wm_133 : Cond.fieldLink RX3 50 "WheelWorks$KindLimits" "interval" "I" ∈ ww_GW := ww_gw (List.mem_of_getElem? (i := 133) (by decide +kernel)) rfl
theorem wf_X3_50 : ww_fld RX3 50 2 1 := ⟨(RX1, TX1, 3), "WheelWorks$KindLimits", rfl, by decide, rfl, wm_133, wu_2, Or.inl rfl⟩
theorem wm_134 : Cond.fieldLink RX6 80 "WheelWorks$KindLimits" "window" "I" ∈ ww_GW := ww_gw (List.mem_of_getElem? (i := 134) (by decide +kernel)) rfl
theorem wf_X6_80 : ww_fld RX6 80 2 2 := ⟨(RX1, TX1, 3), "WheelWorks$KindLimits", rfl, by decide, rfl, wm_134, wu_2, Or.inl rfl⟩
theorem wm_135 : Cond.fieldLink RX3 58 "WheelWorks$KindLimits" "window" "I" ∈ ww_GW := ww_gw (List.mem_of_getElem? (i := 135) (by decide +kernel)) rfl
theorem wf_X3_58 : ww_fld RX3 58 2 2 := ⟨(RX1, TX1, 3), "WheelWorks$KindLimits", rfl, by decide, rfl, wm_135, wu_2, Or.inl rfl⟩
theorem wm_143 : Cond.fieldLink RX6 10 "WheelWorks" "parts" "Ljava/util/ArrayList;" ∈ ww_GW := ww_gw (List.mem_of_getElem? (i := 143) (by decide +kernel)) rfl
theorem wf_X6_10 : ww_fld RX6 10 7 0 := ⟨(RX6, TX6, 4), "WheelWorks", rfl, by decide, rfl, wm_143, wu_7, Or.inl rfl⟩
theorem wm_144 : Cond.fieldLink RX6 18 "WheelWorks" "kinds" "[LWheelWorks$KindLimits;" ∈ ww_GW := ww_gw (List.mem_of_getElem? (i := 144) (by decide +kernel)) rfl
theorem wf_X6_18 : ww_fld RX6 18 7 1 := ⟨(RX6, TX6, 4), "WheelWorks", rfl, by decide, rfl, wm_144, wu_7, Or.inl rfl⟩
theorem wm_145 : Cond.fieldLink RX6 25 "WheelWorks" "log" "LWheelWorks$Log;" ∈ ww_GW := ww_gw (List.mem_of_getElem? (i := 145) (by decide +kernel)) rfl
theorem wf_X6_25 : ww_fld RX6 25 7 2 := ⟨(RX6, TX6, 4), "WheelWorks", rfl, by decide, rfl, wm_145, wu_7, Or.inl rfl⟩
theorem wm_146 : Cond.fieldLink RX6 32 "WheelWorks" "yard" "LWheelWorks$Yard;" ∈ ww_GW := ww_gw (List.mem_of_getElem? (i := 146) (by decide +kernel)) rfl
theorem wf_X6_32 : ww_fld RX6 32 7 3 := ⟨(RX6, TX6, 4), "WheelWorks", rfl, by decide, rfl, wm_146, wu_7, Or.inl rfl⟩
theorem wm_268 : Cond.fieldLink RX4 9 "WheelWorks$Wheel" "diameter" "I" ∈ ww_GW := ww_gw (List.mem_of_getElem? (i := 268) (by decide +kernel)) rfl
theorem wf_X4_9 : ww_fld RX4 9 5 0 := ⟨(RX4, TX4, 4), "WheelWorks$Wheel", rfl, by decide, rfl, wm_268, wu_5, Or.inl rfl⟩
theorem wm_269 : Cond.fieldLink RX6 196 "WheelWorks$Wheel" "diameter" "I" ∈ ww_GW := ww_gw (List.mem_of_getElem? (i := 269) (by decide +kernel)) rfl
theorem wf_X6_196 : ww_fld RX6 196 5 0 := ⟨(RX4, TX4, 4), "WheelWorks$Wheel", rfl, by decide, rfl, wm_269, wu_5, Or.inl rfl⟩
theorem wm_270 : Cond.fieldLink RX4 15 "WheelWorks$Wheel" "flange" "I" ∈ ww_GW := ww_gw (List.mem_of_getElem? (i := 270) (by decide +kernel)) rfl
theorem wf_X4_15 : ww_fld RX4 15 5 1 := ⟨(RX4, TX4, 4), "WheelWorks$Wheel", rfl, by decide, rfl, wm_270, wu_5, Or.inl rfl⟩
theorem wm_271 : Cond.fieldLink RX6 213 "WheelWorks$Wheel" "flange" "I" ∈ ww_GW := ww_gw (List.mem_of_getElem? (i := 271) (by decide +kernel)) rfl
theorem wf_X6_213 : ww_fld RX6 213 5 1 := ⟨(RX4, TX4, 4), "WheelWorks$Wheel", rfl, by decide, rfl, wm_271, wu_5, Or.inl rfl⟩
theorem wm_272 : Cond.fieldLink RX4 18 "WheelWorks$Wheel" "told" "I" ∈ ww_GW := ww_gw (List.mem_of_getElem? (i := 272) (by decide +kernel)) rfl
theorem wf_X4_18 : ww_fld RX4 18 5 2 := ⟨(RX4, TX4, 4), "WheelWorks$Wheel", rfl, by decide, rfl, wm_272, wu_5, Or.inl rfl⟩
theorem wm_273 : Cond.fieldLink RX6 216 "WheelWorks$Wheel" "told" "I" ∈ ww_GW := ww_gw (List.mem_of_getElem? (i := 273) (by decide +kernel)) rfl
theorem wf_X6_216 : ww_fld RX6 216 5 2 := ⟨(RX4, TX4, 4), "WheelWorks$Wheel", rfl, by decide, rfl, wm_273, wu_5, Or.inl rfl⟩
theorem wm_274 : Cond.fieldLink RX4 21 "WheelWorks$Wheel" "rubbed" "I" ∈ ww_GW := ww_gw (List.mem_of_getElem? (i := 274) (by decide +kernel)) rfl
theorem wf_X4_21 : ww_fld RX4 21 5 3 := ⟨(RX4, TX4, 4), "WheelWorks$Wheel", rfl, by decide, rfl, wm_274, wu_5, Or.inl rfl⟩
theorem wm_284 : Cond.fieldLink RX3 15 "WheelWorks$Part" "number" "I" ∈ ww_GW := ww_gw (List.mem_of_getElem? (i := 284) (by decide +kernel)) rfl
theorem wf_X3_15 : ww_fld RX3 15 4 0 := ⟨(RX3, TX3, 18), "WheelWorks$Part", rfl, by decide, rfl, wm_284, wu_4, Or.inl rfl⟩
theorem wm_285 : Cond.fieldLink RX6 149 "WheelWorks$Part" "number" "I" ∈ ww_GW := ww_gw (List.mem_of_getElem? (i := 285) (by decide +kernel)) rfl
theorem wf_X6_149 : ww_fld RX6 149 4 0 := ⟨(RX3, TX3, 18), "WheelWorks$Part", rfl, by decide, rfl, wm_285, wu_4, Or.inl rfl⟩
theorem wm_286 : Cond.fieldLink RX5 76 "WheelWorks$Part" "number" "I" ∈ ww_GW := ww_gw (List.mem_of_getElem? (i := 286) (by decide +kernel)) rfl
theorem wf_X5_76 : ww_fld RX5 76 4 0 := ⟨(RX3, TX3, 18), "WheelWorks$Part", rfl, by decide, rfl, wm_286, wu_4, Or.inl rfl⟩
theorem wm_287 : Cond.fieldLink RX3 18 "WheelWorks$Part" "kind" "I" ∈ ww_GW := ww_gw (List.mem_of_getElem? (i := 287) (by decide +kernel)) rfl
theorem wf_X3_18 : ww_fld RX3 18 4 1 := ⟨(RX3, TX3, 18), "WheelWorks$Part", rfl, by decide, rfl, wm_287, wu_4, Or.inl rfl⟩
theorem wm_288 : Cond.fieldLink RX6 87 "WheelWorks$Part" "kind" "I" ∈ ww_GW := ww_gw (List.mem_of_getElem? (i := 288) (by decide +kernel)) rfl
theorem wf_X6_87 : ww_fld RX6 87 4 1 := ⟨(RX3, TX3, 18), "WheelWorks$Part", rfl, by decide, rfl, wm_288, wu_4, Or.inl rfl⟩
theorem wm_289 : Cond.fieldLink RX3 21 "WheelWorks$Part" "melt" "I" ∈ ww_GW := ww_gw (List.mem_of_getElem? (i := 289) (by decide +kernel)) rfl
theorem wf_X3_21 : ww_fld RX3 21 4 2 := ⟨(RX3, TX3, 18), "WheelWorks$Part", rfl, by decide, rfl, wm_289, wu_4, Or.inl rfl⟩
theorem wm_290 : Cond.fieldLink RX6 255 "WheelWorks$Part" "melt" "I" ∈ ww_GW := ww_gw (List.mem_of_getElem? (i := 290) (by decide +kernel)) rfl
theorem wf_X6_255 : ww_fld RX6 255 4 2 := ⟨(RX3, TX3, 18), "WheelWorks$Part", rfl, by decide, rfl, wm_290, wu_4, Or.inl rfl⟩
theorem wm_291 : Cond.fieldLink RX3 24 "WheelWorks$Part" "mod" "I" ∈ ww_GW := ww_gw (List.mem_of_getElem? (i := 291) (by decide +kernel)) rfl
theorem wf_X3_24 : ww_fld RX3 24 4 3 := ⟨(RX3, TX3, 18), "WheelWorks$Part", rfl, by decide, rfl, wm_291, wu_4, Or.inl rfl⟩
theorem wm_292 : Cond.fieldLink RX6 118 "WheelWorks$Part" "mod" "I" ∈ ww_GW := ww_gw (List.mem_of_getElem? (i := 292) (by decide +kernel)) rfl
theorem wf_X6_118 : ww_fld RX6 118 4 3 := ⟨(RX3, TX3, 18), "WheelWorks$Part", rfl, by decide, rfl, wm_292, wu_4, Or.inl rfl⟩
theorem wm_293 : Cond.fieldLink RX3 27 "WheelWorks$Part" "limits" "LWheelWorks$KindLimits;" ∈ ww_GW := ww_gw (List.mem_of_getElem? (i := 293) (by decide +kernel)) rfl
theorem wf_X3_27 : ww_fld RX3 27 4 4 := ⟨(RX3, TX3, 18), "WheelWorks$Part", rfl, by decide, rfl, wm_293, wu_4, Or.inl rfl⟩
theorem wm_294 : Cond.fieldLink RX6 232 "WheelWorks$Part" "limits" "LWheelWorks$KindLimits;" ∈ ww_GW := ww_gw (List.mem_of_getElem? (i := 294) (by decide +kernel)) rfl
theorem wf_X6_232 : ww_fld RX6 232 4 4 := ⟨(RX3, TX3, 18), "WheelWorks$Part", rfl, by decide, rfl, wm_294, wu_4, Or.inl rfl⟩
theorem wm_295 : Cond.fieldLink RX3 34 "WheelWorks$Part" "wheel" "LWheelWorks$Wheel;" ∈ ww_GW := ww_gw (List.mem_of_getElem? (i := 295) (by decide +kernel)) rfl
theorem wf_X3_34 : ww_fld RX3 34 4 5 := ⟨(RX3, TX3, 18), "WheelWorks$Part", rfl, by decide, rfl, wm_295, wu_4, Or.inl rfl⟩
theorem wm_296 : Cond.fieldLink RX6 345 "WheelWorks$Part" "wheel" "LWheelWorks$Wheel;" ∈ ww_GW := ww_gw (List.mem_of_getElem? (i := 296) (by decide +kernel)) rfl
theorem wf_X6_345 : ww_fld RX6 345 4 5 := ⟨(RX3, TX3, 18), "WheelWorks$Part", rfl, by decide, rfl, wm_296, wu_4, Or.inl rfl⟩
theorem wm_297 : Cond.fieldLink RX3 38 "WheelWorks$Part" "host" "LWheelWorks$Part;" ∈ ww_GW := ww_gw (List.mem_of_getElem? (i := 297) (by decide +kernel)) rfl
theorem wf_X3_38 : ww_fld RX3 38 4 6 := ⟨(RX3, TX3, 18), "WheelWorks$Part", rfl, by decide, rfl, wm_297, wu_4, Or.inl rfl⟩
theorem wm_298 : Cond.fieldLink RX6 129 "WheelWorks$Part" "host" "LWheelWorks$Part;" ∈ ww_GW := ww_gw (List.mem_of_getElem? (i := 298) (by decide +kernel)) rfl
theorem wf_X6_129 : ww_fld RX6 129 4 6 := ⟨(RX3, TX3, 18), "WheelWorks$Part", rfl, by decide, rfl, wm_298, wu_4, Or.inl rfl⟩
theorem wm_299 : Cond.fieldLink RX3 42 "WheelWorks$Part" "scrapped" "Z" ∈ ww_GW := ww_gw (List.mem_of_getElem? (i := 299) (by decide +kernel)) rfl
theorem wf_X3_42 : ww_fld RX3 42 4 7 := ⟨(RX3, TX3, 18), "WheelWorks$Part", rfl, by decide, rfl, wm_299, wu_4, Or.inl rfl⟩
theorem wm_300 : Cond.fieldLink RX6 106 "WheelWorks$Part" "scrapped" "Z" ∈ ww_GW := ww_gw (List.mem_of_getElem? (i := 300) (by decide +kernel)) rfl
theorem wf_X6_106 : ww_fld RX6 106 4 7 := ⟨(RX3, TX3, 18), "WheelWorks$Part", rfl, by decide, rfl, wm_300, wu_4, Or.inl rfl⟩
theorem wm_301 : Cond.fieldLink RX3 64 "WheelWorks$Part" "life" "I" ∈ ww_GW := ww_gw (List.mem_of_getElem? (i := 301) (by decide +kernel)) rfl
theorem wf_X3_64 : ww_fld RX3 64 4 8 := ⟨(RX3, TX3, 18), "WheelWorks$Part", rfl, by decide, rfl, wm_301, wu_4, Or.inl rfl⟩
theorem wm_302 : Cond.fieldLink RX6 242 "WheelWorks$Part" "life" "I" ∈ ww_GW := ww_gw (List.mem_of_getElem? (i := 302) (by decide +kernel)) rfl
theorem wf_X6_242 : ww_fld RX6 242 4 8 := ⟨(RX3, TX3, 18), "WheelWorks$Part", rfl, by decide, rfl, wm_302, wu_4, Or.inl rfl⟩
theorem wm_303 : Cond.fieldLink RX3 55 "WheelWorks$Part" "sinceExamination" "I" ∈ ww_GW := ww_gw (List.mem_of_getElem? (i := 303) (by decide +kernel)) rfl
theorem wf_X3_55 : ww_fld RX3 55 4 9 := ⟨(RX3, TX3, 18), "WheelWorks$Part", rfl, by decide, rfl, wm_303, wu_4, Or.inl rfl⟩
theorem wm_304 : Cond.fieldLink RX6 224 "WheelWorks$Part" "sinceExamination" "I" ∈ ww_GW := ww_gw (List.mem_of_getElem? (i := 304) (by decide +kernel)) rfl
theorem wf_X6_224 : ww_fld RX6 224 4 9 := ⟨(RX3, TX3, 18), "WheelWorks$Part", rfl, by decide, rfl, wm_304, wu_4, Or.inl rfl⟩
theorem wm_305 : Cond.fieldLink RX3 61 "WheelWorks$Part" "waived" "I" ∈ ww_GW := ww_gw (List.mem_of_getElem? (i := 305) (by decide +kernel)) rfl
theorem wf_X3_61 : ww_fld RX3 61 4 10 := ⟨(RX3, TX3, 18), "WheelWorks$Part", rfl, by decide, rfl, wm_305, wu_4, Or.inl rfl⟩
theorem wm_306 : Cond.fieldLink RX6 227 "WheelWorks$Part" "waived" "I" ∈ ww_GW := ww_gw (List.mem_of_getElem? (i := 306) (by decide +kernel)) rfl
theorem wf_X6_227 : ww_fld RX6 227 4 10 := ⟨(RX3, TX3, 18), "WheelWorks$Part", rfl, by decide, rfl, wm_306, wu_4, Or.inl rfl⟩
theorem wm_307 : Cond.fieldLink RX6 100 "WheelWorks$Part" "quarantined" "Z" ∈ ww_GW := ww_gw (List.mem_of_getElem? (i := 307) (by decide +kernel)) rfl
theorem wf_X6_100 : ww_fld RX6 100 4 11 := ⟨(RX3, TX3, 18), "WheelWorks$Part", rfl, by decide, rfl, wm_307, wu_4, Or.inl rfl⟩
theorem wm_308 : Cond.fieldLink RX6 248 "WheelWorks$Part" "recalled" "Z" ∈ ww_GW := ww_gw (List.mem_of_getElem? (i := 308) (by decide +kernel)) rfl
theorem wf_X6_248 : ww_fld RX6 248 4 12 := ⟨(RX3, TX3, 18), "WheelWorks$Part", rfl, by decide, rfl, wm_308, wu_4, Or.inl rfl⟩
theorem wm_309 : Cond.fieldLink RX6 181 "WheelWorks$Part" "flaw" "I" ∈ ww_GW := ww_gw (List.mem_of_getElem? (i := 309) (by decide +kernel)) rfl
theorem wf_X6_181 : ww_fld RX6 181 4 13 := ⟨(RX3, TX3, 18), "WheelWorks$Part", rfl, by decide, rfl, wm_309, wu_4, Or.inl rfl⟩
theorem wm_310 : Cond.fieldLink RX3 71 "WheelWorks$Part" "flaw" "I" ∈ ww_GW := ww_gw (List.mem_of_getElem? (i := 310) (by decide +kernel)) rfl
theorem wf_X3_71 : ww_fld RX3 71 4 13 := ⟨(RX3, TX3, 18), "WheelWorks$Part", rfl, by decide, rfl, wm_310, wu_4, Or.inl rfl⟩
theorem wm_311 : Cond.fieldLink RX3 74 "WheelWorks$Part" "lifeAtFlaw" "I" ∈ ww_GW := ww_gw (List.mem_of_getElem? (i := 311) (by decide +kernel)) rfl
theorem wf_X3_74 : ww_fld RX3 74 4 14 := ⟨(RX3, TX3, 18), "WheelWorks$Part", rfl, by decide, rfl, wm_311, wu_4, Or.inl rfl⟩
theorem wm_312 : Cond.fieldLink RX6 243 "WheelWorks$Part" "lifeAtFlaw" "I" ∈ ww_GW := ww_gw (List.mem_of_getElem? (i := 312) (by decide +kernel)) rfl
theorem wf_X6_243 : ww_fld RX6 243 4 14 := ⟨(RX3, TX3, 18), "WheelWorks$Part", rfl, by decide, rfl, wm_312, wu_4, Or.inl rfl⟩
theorem wm_313 : Cond.fieldLink RX6 141 "WheelWorks$Part" "released" "Z" ∈ ww_GW := ww_gw (List.mem_of_getElem? (i := 313) (by decide +kernel)) rfl
theorem wf_X6_141 : ww_fld RX6 141 4 15 := ⟨(RX3, TX3, 18), "WheelWorks$Part", rfl, by decide, rfl, wm_313, wu_4, Or.inl rfl⟩
theorem wm_314 : Cond.fieldLink RX3 9 "WheelWorks$Part" "road" "I" ∈ ww_GW := ww_gw (List.mem_of_getElem? (i := 314) (by decide +kernel)) rfl
theorem wf_X3_9 : ww_fld RX3 9 4 16 := ⟨(RX3, TX3, 18), "WheelWorks$Part", rfl, by decide, rfl, wm_314, wu_4, Or.inl rfl⟩
theorem wm_315 : Cond.fieldLink RX5 63 "WheelWorks$Part" "road" "I" ∈ ww_GW := ww_gw (List.mem_of_getElem? (i := 315) (by decide +kernel)) rfl
theorem wf_X5_63 : ww_fld RX5 63 4 16 := ⟨(RX3, TX3, 18), "WheelWorks$Part", rfl, by decide, rfl, wm_315, wu_4, Or.inl rfl⟩
theorem wm_316 : Cond.fieldLink RX5 35 "WheelWorks$Part" "time" "I" ∈ ww_GW := ww_gw (List.mem_of_getElem? (i := 316) (by decide +kernel)) rfl
theorem wf_X5_35 : ww_fld RX5 35 4 17 := ⟨(RX3, TX3, 18), "WheelWorks$Part", rfl, by decide, rfl, wm_316, wu_4, Or.inl rfl⟩
theorem wm_317 : Cond.fieldLink RX6 274 "WheelWorks$Part" "time" "I" ∈ ww_GW := ww_gw (List.mem_of_getElem? (i := 317) (by decide +kernel)) rfl
theorem wf_X6_274 : ww_fld RX6 274 4 17 := ⟨(RX3, TX3, 18), "WheelWorks$Part", rfl, by decide, rfl, wm_317, wu_4, Or.inl rfl⟩
theorem wm_493 : Cond.fieldLink RX0 7 "WheelWorks$Event" "part" "I" ∈ ww_GW := ww_gw (List.mem_of_getElem? (i := 493) (by decide +kernel)) rfl
theorem wf_X0_7 : ww_fld RX0 7 1 0 := ⟨(RX0, TX0, 3), "WheelWorks$Event", rfl, by decide, rfl, wm_493, wu_1, Or.inl rfl⟩
theorem wm_494 : Cond.fieldLink RX2 46 "WheelWorks$Event" "part" "I" ∈ ww_GW := ww_gw (List.mem_of_getElem? (i := 494) (by decide +kernel)) rfl
theorem wf_X2_46 : ww_fld RX2 46 1 0 := ⟨(RX0, TX0, 3), "WheelWorks$Event", rfl, by decide, rfl, wm_494, wu_1, Or.inl rfl⟩
theorem wm_495 : Cond.fieldLink RX0 13 "WheelWorks$Event" "to" "I" ∈ ww_GW := ww_gw (List.mem_of_getElem? (i := 495) (by decide +kernel)) rfl
theorem wf_X0_13 : ww_fld RX0 13 1 1 := ⟨(RX0, TX0, 3), "WheelWorks$Event", rfl, by decide, rfl, wm_495, wu_1, Or.inl rfl⟩
theorem wm_496 : Cond.fieldLink RX2 61 "WheelWorks$Event" "to" "I" ∈ ww_GW := ww_gw (List.mem_of_getElem? (i := 496) (by decide +kernel)) rfl
theorem wf_X2_61 : ww_fld RX2 61 1 1 := ⟨(RX0, TX0, 3), "WheelWorks$Event", rfl, by decide, rfl, wm_496, wu_1, Or.inl rfl⟩
theorem wm_497 : Cond.fieldLink RX6 310 "WheelWorks$Event" "to" "I" ∈ ww_GW := ww_gw (List.mem_of_getElem? (i := 497) (by decide +kernel)) rfl
theorem wf_X6_310 : ww_fld RX6 310 1 1 := ⟨(RX0, TX0, 3), "WheelWorks$Event", rfl, by decide, rfl, wm_497, wu_1, Or.inl rfl⟩
theorem wm_498 : Cond.fieldLink RX0 16 "WheelWorks$Event" "kilometres" "I" ∈ ww_GW := ww_gw (List.mem_of_getElem? (i := 498) (by decide +kernel)) rfl
theorem wf_X0_16 : ww_fld RX0 16 1 2 := ⟨(RX0, TX0, 3), "WheelWorks$Event", rfl, by decide, rfl, wm_498, wu_1, Or.inl rfl⟩
theorem wm_499 : Cond.fieldLink RX2 50 "WheelWorks$Event" "kilometres" "I" ∈ ww_GW := ww_gw (List.mem_of_getElem? (i := 499) (by decide +kernel)) rfl
theorem wf_X2_50 : ww_fld RX2 50 1 2 := ⟨(RX0, TX0, 3), "WheelWorks$Event", rfl, by decide, rfl, wm_499, wu_1, Or.inl rfl⟩
theorem wm_52 : ww_hd wy_X6_init ∈ ww_GW := ww_gw (List.mem_of_getElem? (i := 52) (by decide +kernel)) rfl
theorem wm_25 : Cond.initialized RX6 ∈ ww_GW := ww_gw (List.mem_of_getElem? (i := 25) (by decide +kernel)) rfl
theorem wc_X6_init : ww_cal wy_X6_init 0 := ⟨wm_52, wm_25, ⟨by decide +kernel, by decide +kernel⟩, by decide +kernel, by decide⟩
theorem wm_50 : Cond.methodLink RL 28 yX6_init ∈ ww_GW := ww_gw (List.mem_of_getElem? (i := 50) (by decide +kernel)) rfl
theorem wm_51 : Cond.instanceMethod yX6_init ∈ ww_GW := ww_gw (List.mem_of_getElem? (i := 51) (by decide +kernel)) rfl
theorem wk_L_28 : ww_ini RL 28 wy_X6_init 0 := ⟨wc_X6_init, rfl, wm_50, wm_51, rfl⟩
theorem wm_60 : ww_hd wy_Jx4a65c_init_da8c8 ∈ ww_GW := ww_gw (List.mem_of_getElem? (i := 60) (by decide +kernel)) rfl
theorem wm_28 : Cond.initialized RJx4a65c ∈ ww_GW := ww_gw (List.mem_of_getElem? (i := 28) (by decide +kernel)) rfl
theorem wc_Jx4a65c_init_da8c8 : ww_cal wy_Jx4a65c_init_da8c8 0 := ⟨wm_60, wm_28, ⟨by decide +kernel, by decide +kernel⟩, by decide +kernel, by decide⟩
theorem wm_58 : Cond.methodLink RX6 9 yJx4a65c_init_da8c8 ∈ ww_GW := ww_gw (List.mem_of_getElem? (i := 58) (by decide +kernel)) rfl
theorem wm_59 : Cond.instanceMethod yJx4a65c_init_da8c8 ∈ ww_GW := ww_gw (List.mem_of_getElem? (i := 59) (by decide +kernel)) rfl
theorem wk_X6_9 : ww_ini RX6 9 wy_Jx4a65c_init_da8c8 0 := ⟨wc_Jx4a65c_init_da8c8, rfl, wm_58, wm_59, rfl⟩
theorem wm_63 : ww_hd wy_Jxc12de_init_da8c8 ∈ ww_GW := ww_gw (List.mem_of_getElem? (i := 63) (by decide +kernel)) rfl
theorem wm_27 : Cond.initialized RJxc12de ∈ ww_GW := ww_gw (List.mem_of_getElem? (i := 27) (by decide +kernel)) rfl
theorem wc_Jxc12de_init_da8c8 : ww_cal wy_Jxc12de_init_da8c8 0 := ⟨wm_63, wm_27, ⟨by decide +kernel, by decide +kernel⟩, by decide +kernel, by decide⟩
theorem wm_61 : Cond.methodLink RJx4a65c 1 yJxc12de_init_da8c8 ∈ ww_GW := ww_gw (List.mem_of_getElem? (i := 61) (by decide +kernel)) rfl
theorem wm_62 : Cond.instanceMethod yJxc12de_init_da8c8 ∈ ww_GW := ww_gw (List.mem_of_getElem? (i := 62) (by decide +kernel)) rfl
theorem wk_Jx4a65c_1 : ww_ini RJx4a65c 1 wy_Jxc12de_init_da8c8 0 := ⟨wc_Jxc12de_init_da8c8, rfl, wm_61, wm_62, rfl⟩
theorem wm_66 : ww_hd wy_Jxa1e45_init_da8c8 ∈ ww_GW := ww_gw (List.mem_of_getElem? (i := 66) (by decide +kernel)) rfl
theorem wm_26 : Cond.initialized RJxa1e45 ∈ ww_GW := ww_gw (List.mem_of_getElem? (i := 26) (by decide +kernel)) rfl
theorem wc_Jxa1e45_init_da8c8 : ww_cal wy_Jxa1e45_init_da8c8 0 := ⟨wm_66, wm_26, ⟨by decide +kernel, by decide +kernel⟩, by decide +kernel, by decide⟩
theorem wm_64 : Cond.methodLink RJxc12de 1 yJxa1e45_init_da8c8 ∈ ww_GW := ww_gw (List.mem_of_getElem? (i := 64) (by decide +kernel)) rfl
theorem wm_65 : Cond.instanceMethod yJxa1e45_init_da8c8 ∈ ww_GW := ww_gw (List.mem_of_getElem? (i := 65) (by decide +kernel)) rfl
theorem wk_Jxc12de_1 : ww_ini RJxc12de 1 wy_Jxa1e45_init_da8c8 0 := ⟨wc_Jxa1e45_init_da8c8, rfl, wm_64, wm_65, rfl⟩
theorem wm_88 : ww_hd wy_X2_init ∈ ww_GW := ww_gw (List.mem_of_getElem? (i := 88) (by decide +kernel)) rfl
theorem wm_29 : Cond.initialized RX2 ∈ ww_GW := ww_gw (List.mem_of_getElem? (i := 29) (by decide +kernel)) rfl
theorem wc_X2_init : ww_cal wy_X2_init 0 := ⟨wm_88, wm_29, ⟨by decide +kernel, by decide +kernel⟩, by decide +kernel, by decide⟩
theorem wm_87 : Cond.instanceMethod yX2_init ∈ ww_GW := ww_gw (List.mem_of_getElem? (i := 87) (by decide +kernel)) rfl
theorem wk_X6_24 : ww_inn RX6 24 wy_X2_init 0 := ⟨wc_X2_init, rfl, ⟨"WheelWorks", by decide +kernel⟩, wm_87, rfl⟩
theorem wm_91 : Cond.methodLink RX2 11 yJx4a65c_init_da8c8 ∈ ww_GW := ww_gw (List.mem_of_getElem? (i := 91) (by decide +kernel)) rfl
theorem wk_X2_11 : ww_ini RX2 11 wy_Jx4a65c_init_da8c8 0 := ⟨wc_Jx4a65c_init_da8c8, rfl, wm_91, wm_59, rfl⟩
theorem wm_104 : ww_hd wy_X5_init ∈ ww_GW := ww_gw (List.mem_of_getElem? (i := 104) (by decide +kernel)) rfl
theorem wm_30 : Cond.initialized RX5 ∈ ww_GW := ww_gw (List.mem_of_getElem? (i := 30) (by decide +kernel)) rfl
theorem wc_X5_init : ww_cal wy_X5_init 0 := ⟨wm_104, wm_30, ⟨by decide +kernel, by decide +kernel⟩, by decide +kernel, by decide⟩
theorem wm_103 : Cond.instanceMethod yX5_init ∈ ww_GW := ww_gw (List.mem_of_getElem? (i := 103) (by decide +kernel)) rfl
theorem wk_X6_31 : ww_inn RX6 31 wy_X5_init 0 := ⟨wc_X5_init, rfl, ⟨"WheelWorks", by decide +kernel⟩, wm_103, rfl⟩
theorem wm_107 : Cond.methodLink RX5 11 yJx4a65c_init_da8c8 ∈ ww_GW := ww_gw (List.mem_of_getElem? (i := 107) (by decide +kernel)) rfl
theorem wk_X5_11 : ww_ini RX5 11 wy_Jx4a65c_init_da8c8 0 := ⟨wc_Jx4a65c_init_da8c8, rfl, wm_107, wm_59, rfl⟩
theorem wm_129 : ww_hd wy_X1_init ∈ ww_GW := ww_gw (List.mem_of_getElem? (i := 129) (by decide +kernel)) rfl
theorem wm_31 : Cond.initialized RX1 ∈ ww_GW := ww_gw (List.mem_of_getElem? (i := 31) (by decide +kernel)) rfl
theorem wc_X1_init : ww_cal wy_X1_init 0 := ⟨wm_129, wm_31, ⟨by decide +kernel, by decide +kernel⟩, by decide +kernel, by decide⟩
theorem wm_128 : Cond.instanceMethod yX1_init ∈ ww_GW := ww_gw (List.mem_of_getElem? (i := 128) (by decide +kernel)) rfl
theorem wk_X6_36 : ww_inn RX6 36 wy_X1_init 0 := ⟨wc_X1_init, rfl, ⟨"WheelWorks", by decide +kernel⟩, wm_128, rfl⟩
theorem wm_159 : ww_hd wy_X6_part ∈ ww_GW := ww_gw (List.mem_of_getElem? (i := 159) (by decide +kernel)) rfl
theorem wc_X6_part : ww_cal wy_X6_part 3 := ⟨wm_159, wm_25, ⟨by decide +kernel, by decide +kernel⟩, by decide +kernel, by decide⟩
theorem wm_156 : Cond.methodLink RL 8 yX6_part ∈ ww_GW := ww_gw (List.mem_of_getElem? (i := 156) (by decide +kernel)) rfl
theorem wm_157 : Cond.instanceMethod yX6_part ∈ ww_GW := ww_gw (List.mem_of_getElem? (i := 157) (by decide +kernel)) rfl
theorem wm_158 : Cond.selects RX6 yX6_part yX6_part ∈ ww_GW := ww_gw (List.mem_of_getElem? (i := 158) (by decide +kernel)) rfl
theorem wk_L_8 : ww_vir RL 8 wy_X6_part 3 := ⟨wc_X6_part, rfl, wm_156, wm_157, wm_158⟩
theorem wm_163 : ww_hd wy_X6_limitsOf ∈ ww_GW := ww_gw (List.mem_of_getElem? (i := 163) (by decide +kernel)) rfl
theorem wc_X6_limitsOf : ww_cal wy_X6_limitsOf 1 := ⟨wm_163, wm_25, ⟨by decide +kernel, by decide +kernel⟩, by decide +kernel, by decide⟩
theorem wm_160 : Cond.methodLink RX6 37 yX6_limitsOf ∈ ww_GW := ww_gw (List.mem_of_getElem? (i := 160) (by decide +kernel)) rfl
theorem wm_162 : Cond.instanceMethod yX6_limitsOf ∈ ww_GW := ww_gw (List.mem_of_getElem? (i := 162) (by decide +kernel)) rfl
theorem wm_0 : Cond.selects RX6 yX6_limitsOf yX6_limitsOf ∈ ww_GW := ww_gw (List.mem_of_getElem? (i := 0) (by decide +kernel)) rfl
theorem wk_X6_37 : ww_vir RX6 37 wy_X6_limitsOf 1 := ⟨wc_X6_limitsOf, rfl, wm_160, wm_162, wm_0⟩
theorem wm_234 : ww_hd wy_X6_isOutside ∈ ww_GW := ww_gw (List.mem_of_getElem? (i := 234) (by decide +kernel)) rfl
theorem wc_X6_isOutside : ww_cal wy_X6_isOutside 3 := ⟨wm_234, wm_25, ⟨by decide +kernel, by decide +kernel⟩, by decide +kernel, by decide⟩
theorem wm_232 : Cond.methodLink RX6 41 yX6_isOutside ∈ ww_GW := ww_gw (List.mem_of_getElem? (i := 232) (by decide +kernel)) rfl
theorem wm_233 : Cond.static yX6_isOutside ∈ ww_GW := ww_gw (List.mem_of_getElem? (i := 233) (by decide +kernel)) rfl
theorem wk_X6_41 : ww_sta RX6 41 wy_X6_isOutside 3 := ⟨wc_X6_isOutside, wm_232, wm_233⟩
theorem wm_239 : ww_hd wy_Jx4a65c_size_8abf5 ∈ ww_GW := ww_gw (List.mem_of_getElem? (i := 239) (by decide +kernel)) rfl
theorem wc_Jx4a65c_size_8abf5 : ww_cal wy_Jx4a65c_size_8abf5 0 := ⟨wm_239, wm_28, ⟨by decide +kernel, by decide +kernel⟩, by decide +kernel, by decide⟩
theorem wm_236 : Cond.methodLink RX6 52 yJx4a65c_size_8abf5 ∈ ww_GW := ww_gw (List.mem_of_getElem? (i := 236) (by decide +kernel)) rfl
theorem wm_237 : Cond.instanceMethod yJx4a65c_size_8abf5 ∈ ww_GW := ww_gw (List.mem_of_getElem? (i := 237) (by decide +kernel)) rfl
theorem wm_238 : Cond.selects RJx4a65c yJx4a65c_size_8abf5 yJx4a65c_size_8abf5 ∈ ww_GW := ww_gw (List.mem_of_getElem? (i := 238) (by decide +kernel)) rfl
theorem wk_X6_52 : ww_vir RX6 52 wy_Jx4a65c_size_8abf5 0 := ⟨wc_Jx4a65c_size_8abf5, rfl, wm_236, wm_237, wm_238⟩
theorem wm_260 : ww_hd wy_X3_init ∈ ww_GW := ww_gw (List.mem_of_getElem? (i := 260) (by decide +kernel)) rfl
theorem wm_37 : Cond.initialized RX3 ∈ ww_GW := ww_gw (List.mem_of_getElem? (i := 37) (by decide +kernel)) rfl
theorem wc_X3_init : ww_cal wy_X3_init 5 := ⟨wm_260, wm_37, ⟨by decide +kernel, by decide +kernel⟩, by decide +kernel, by decide⟩
theorem wm_258 : Cond.methodLink RX6 63 yX3_init ∈ ww_GW := ww_gw (List.mem_of_getElem? (i := 258) (by decide +kernel)) rfl
theorem wm_259 : Cond.instanceMethod yX3_init ∈ ww_GW := ww_gw (List.mem_of_getElem? (i := 259) (by decide +kernel)) rfl
theorem wk_X6_63 : ww_ini RX6 63 wy_X3_init 5 := ⟨wc_X3_init, rfl, wm_258, wm_259, rfl⟩
theorem wm_266 : ww_hd wy_X4_init ∈ ww_GW := ww_gw (List.mem_of_getElem? (i := 266) (by decide +kernel)) rfl
theorem wm_38 : Cond.initialized RX4 ∈ ww_GW := ww_gw (List.mem_of_getElem? (i := 38) (by decide +kernel)) rfl
theorem wc_X4_init : ww_cal wy_X4_init 0 := ⟨wm_266, wm_38, ⟨by decide +kernel, by decide +kernel⟩, by decide +kernel, by decide⟩
theorem wm_265 : Cond.instanceMethod yX4_init ∈ ww_GW := ww_gw (List.mem_of_getElem? (i := 265) (by decide +kernel)) rfl
theorem wk_X3_33 : ww_inn RX3 33 wy_X4_init 0 := ⟨wc_X4_init, rfl, ⟨"WheelWorks", by decide +kernel⟩, wm_265, rfl⟩
theorem wm_358 : ww_hd wy_Jx4a65c_add_9ea2d ∈ ww_GW := ww_gw (List.mem_of_getElem? (i := 358) (by decide +kernel)) rfl
theorem wc_Jx4a65c_add_9ea2d : ww_cal wy_Jx4a65c_add_9ea2d 1 := ⟨wm_358, wm_28, ⟨by decide +kernel, by decide +kernel⟩, by decide +kernel, by decide⟩
theorem wm_355 : Cond.methodLink RX6 66 yJx4a65c_add_9ea2d ∈ ww_GW := ww_gw (List.mem_of_getElem? (i := 355) (by decide +kernel)) rfl
theorem wm_356 : Cond.instanceMethod yJx4a65c_add_9ea2d ∈ ww_GW := ww_gw (List.mem_of_getElem? (i := 356) (by decide +kernel)) rfl
theorem wm_357 : Cond.selects RJx4a65c yJx4a65c_add_9ea2d yJx4a65c_add_9ea2d ∈ ww_GW := ww_gw (List.mem_of_getElem? (i := 357) (by decide +kernel)) rfl
theorem wk_X6_66 : ww_vir RX6 66 wy_Jx4a65c_add_9ea2d 1 := ⟨wc_Jx4a65c_add_9ea2d, rfl, wm_355, wm_356, wm_357⟩
theorem wm_362 : ww_hd wy_Jx4a65c_add_72be8 ∈ ww_GW := ww_gw (List.mem_of_getElem? (i := 362) (by decide +kernel)) rfl
theorem wc_Jx4a65c_add_72be8 : ww_cal wy_Jx4a65c_add_72be8 3 := ⟨wm_362, wm_28, ⟨by decide +kernel, by decide +kernel⟩, by decide +kernel, by decide⟩
theorem wm_359 : Cond.methodLink RJx4a65c 131 yJx4a65c_add_72be8 ∈ ww_GW := ww_gw (List.mem_of_getElem? (i := 359) (by decide +kernel)) rfl
theorem wm_361 : Cond.instanceMethod yJx4a65c_add_72be8 ∈ ww_GW := ww_gw (List.mem_of_getElem? (i := 361) (by decide +kernel)) rfl
theorem wm_2 : Cond.selects RJx4a65c yJx4a65c_add_72be8 yJx4a65c_add_72be8 ∈ ww_GW := ww_gw (List.mem_of_getElem? (i := 2) (by decide +kernel)) rfl
theorem wk_Jx4a65c_131 : ww_vir RJx4a65c 131 wy_Jx4a65c_add_72be8 3 := ⟨wc_Jx4a65c_add_72be8, rfl, wm_359, wm_361, wm_2⟩
theorem wm_366 : ww_hd wy_Jx4a65c_grow_d5877 ∈ ww_GW := ww_gw (List.mem_of_getElem? (i := 366) (by decide +kernel)) rfl
theorem wc_Jx4a65c_grow_d5877 : ww_cal wy_Jx4a65c_grow_d5877 0 := ⟨wm_366, wm_28, ⟨by decide +kernel, by decide +kernel⟩, by decide +kernel, by decide⟩
theorem wm_363 : Cond.methodLink RJx4a65c 129 yJx4a65c_grow_d5877 ∈ ww_GW := ww_gw (List.mem_of_getElem? (i := 363) (by decide +kernel)) rfl
theorem wm_365 : Cond.instanceMethod yJx4a65c_grow_d5877 ∈ ww_GW := ww_gw (List.mem_of_getElem? (i := 365) (by decide +kernel)) rfl
theorem wm_3 : Cond.selects RJx4a65c yJx4a65c_grow_d5877 yJx4a65c_grow_d5877 ∈ ww_GW := ww_gw (List.mem_of_getElem? (i := 3) (by decide +kernel)) rfl
theorem wk_Jx4a65c_129 : ww_vir RJx4a65c 129 wy_Jx4a65c_grow_d5877 0 := ⟨wc_Jx4a65c_grow_d5877, rfl, wm_363, wm_365, wm_3⟩
theorem wm_370 : ww_hd wy_Jx4a65c_grow_92f84 ∈ ww_GW := ww_gw (List.mem_of_getElem? (i := 370) (by decide +kernel)) rfl
theorem wc_Jx4a65c_grow_92f84 : ww_cal wy_Jx4a65c_grow_92f84 1 := ⟨wm_370, wm_28, ⟨by decide +kernel, by decide +kernel⟩, by decide +kernel, by decide⟩
theorem wm_367 : Cond.methodLink RJx4a65c 69 yJx4a65c_grow_92f84 ∈ ww_GW := ww_gw (List.mem_of_getElem? (i := 367) (by decide +kernel)) rfl
theorem wm_369 : Cond.instanceMethod yJx4a65c_grow_92f84 ∈ ww_GW := ww_gw (List.mem_of_getElem? (i := 369) (by decide +kernel)) rfl
theorem wm_4 : Cond.selects RJx4a65c yJx4a65c_grow_92f84 yJx4a65c_grow_92f84 ∈ ww_GW := ww_gw (List.mem_of_getElem? (i := 4) (by decide +kernel)) rfl
theorem wk_Jx4a65c_69 : ww_vir RJx4a65c 69 wy_Jx4a65c_grow_92f84 1 := ⟨wc_Jx4a65c_grow_92f84, rfl, wm_367, wm_369, wm_4⟩
theorem wm_373 : ww_hd wy_J8_newLength_cabcc ∈ ww_GW := ww_gw (List.mem_of_getElem? (i := 373) (by decide +kernel)) rfl
theorem wm_39 : Cond.initialized RJ8 ∈ ww_GW := ww_gw (List.mem_of_getElem? (i := 39) (by decide +kernel)) rfl
theorem wc_J8_newLength_cabcc : ww_cal wy_J8_newLength_cabcc 3 := ⟨wm_373, wm_39, ⟨by decide +kernel, by decide +kernel⟩, by decide +kernel, by decide⟩
theorem wm_371 : Cond.methodLink RJx4a65c 73 yJ8_newLength_cabcc ∈ ww_GW := ww_gw (List.mem_of_getElem? (i := 371) (by decide +kernel)) rfl
theorem wm_372 : Cond.static yJ8_newLength_cabcc ∈ ww_GW := ww_gw (List.mem_of_getElem? (i := 372) (by decide +kernel)) rfl
theorem wk_Jx4a65c_73 : ww_sta RJx4a65c 73 wy_J8_newLength_cabcc 3 := ⟨wc_J8_newLength_cabcc, wm_371, wm_372⟩
theorem wm_376 : ww_hd wy_J9_max_7cf53 ∈ ww_GW := ww_gw (List.mem_of_getElem? (i := 376) (by decide +kernel)) rfl
theorem wm_40 : Cond.initialized RJ9 ∈ ww_GW := ww_gw (List.mem_of_getElem? (i := 40) (by decide +kernel)) rfl
theorem wc_J9_max_7cf53 : ww_cal wy_J9_max_7cf53 2 := ⟨wm_376, wm_40, ⟨by decide +kernel, by decide +kernel⟩, by decide +kernel, by decide⟩
theorem wm_374 : Cond.methodLink RJ8 194 yJ9_max_7cf53 ∈ ww_GW := ww_gw (List.mem_of_getElem? (i := 374) (by decide +kernel)) rfl
theorem wm_375 : Cond.static yJ9_max_7cf53 ∈ ww_GW := ww_gw (List.mem_of_getElem? (i := 375) (by decide +kernel)) rfl
theorem wk_J8_194 : ww_sta RJ8 194 wy_J9_max_7cf53 2 := ⟨wc_J9_max_7cf53, wm_374, wm_375⟩
theorem wm_380 : ww_hd wy_J8_hugeLength_7cf53 ∈ ww_GW := ww_gw (List.mem_of_getElem? (i := 380) (by decide +kernel)) rfl
theorem wc_J8_hugeLength_7cf53 : ww_cal wy_J8_hugeLength_7cf53 2 := ⟨wm_380, wm_39, ⟨by decide +kernel, by decide +kernel⟩, by decide +kernel, by decide⟩
theorem wm_378 : Cond.methodLink RJ8 201 yJ8_hugeLength_7cf53 ∈ ww_GW := ww_gw (List.mem_of_getElem? (i := 378) (by decide +kernel)) rfl
theorem wm_379 : Cond.static yJ8_hugeLength_7cf53 ∈ ww_GW := ww_gw (List.mem_of_getElem? (i := 379) (by decide +kernel)) rfl
theorem wk_J8_201 : ww_sta RJ8 201 wy_J8_hugeLength_7cf53 2 := ⟨wc_J8_hugeLength_7cf53, wm_378, wm_379⟩
theorem wm_383 : ww_hd wy_J7_copyOf_1904c ∈ ww_GW := ww_gw (List.mem_of_getElem? (i := 383) (by decide +kernel)) rfl
theorem wm_41 : Cond.initialized RJ7 ∈ ww_GW := ww_gw (List.mem_of_getElem? (i := 41) (by decide +kernel)) rfl
theorem wc_J7_copyOf_1904c : ww_cal wy_J7_copyOf_1904c 2 := ⟨wm_383, wm_41, ⟨by decide +kernel, by decide +kernel⟩, by decide +kernel, by decide⟩
theorem wm_381 : Cond.methodLink RJx4a65c 66 yJ7_copyOf_1904c ∈ ww_GW := ww_gw (List.mem_of_getElem? (i := 381) (by decide +kernel)) rfl
theorem wm_382 : Cond.static yJ7_copyOf_1904c ∈ ww_GW := ww_gw (List.mem_of_getElem? (i := 382) (by decide +kernel)) rfl
theorem wk_Jx4a65c_66 : ww_sta RJx4a65c 66 wy_J7_copyOf_1904c 2 := ⟨wc_J7_copyOf_1904c, wm_381, wm_382⟩
theorem wm_401 : ww_hd wy_J7_copyOf_6403c ∈ ww_GW := ww_gw (List.mem_of_getElem? (i := 401) (by decide +kernel)) rfl
theorem wc_J7_copyOf_6403c : ww_cal wy_J7_copyOf_6403c 3 := ⟨wm_401, wm_41, ⟨by decide +kernel, by decide +kernel⟩, by decide +kernel, by decide⟩
theorem wm_399 : Cond.methodLink RJ7 300 yJ7_copyOf_6403c ∈ ww_GW := ww_gw (List.mem_of_getElem? (i := 399) (by decide +kernel)) rfl
theorem wm_400 : Cond.static yJ7_copyOf_6403c ∈ ww_GW := ww_gw (List.mem_of_getElem? (i := 400) (by decide +kernel)) rfl
theorem wk_J7_300 : ww_sta RJ7 300 wy_J7_copyOf_6403c 3 := ⟨wc_J7_copyOf_6403c, wm_399, wm_400⟩
theorem wm_407 : ww_hd wy_J9_min_7cf53 ∈ ww_GW := ww_gw (List.mem_of_getElem? (i := 407) (by decide +kernel)) rfl
theorem wc_J9_min_7cf53 : ww_cal wy_J9_min_7cf53 2 := ⟨wm_407, wm_40, ⟨by decide +kernel, by decide +kernel⟩, by decide +kernel, by decide⟩
theorem wm_405 : Cond.methodLink RJ7 304 yJ9_min_7cf53 ∈ ww_GW := ww_gw (List.mem_of_getElem? (i := 405) (by decide +kernel)) rfl
theorem wm_406 : Cond.static yJ9_min_7cf53 ∈ ww_GW := ww_gw (List.mem_of_getElem? (i := 406) (by decide +kernel)) rfl
theorem wk_J7_304 : ww_sta RJ7 304 wy_J9_min_7cf53 2 := ⟨wc_J9_min_7cf53, wm_405, wm_406⟩
theorem wm_411 : Cond.methodLink RJx4a65c 79 yJ9_max_7cf53 ∈ ww_GW := ww_gw (List.mem_of_getElem? (i := 411) (by decide +kernel)) rfl
theorem wk_Jx4a65c_79 : ww_sta RJx4a65c 79 wy_J9_max_7cf53 2 := ⟨wc_J9_max_7cf53, wm_411, wm_375⟩
theorem wm_416 : ww_hd wy_X6_limits ∈ ww_GW := ww_gw (List.mem_of_getElem? (i := 416) (by decide +kernel)) rfl
theorem wc_X6_limits : ww_cal wy_X6_limits 4 := ⟨wm_416, wm_25, ⟨by decide +kernel, by decide +kernel⟩, by decide +kernel, by decide⟩
theorem wm_413 : Cond.methodLink RL 35 yX6_limits ∈ ww_GW := ww_gw (List.mem_of_getElem? (i := 413) (by decide +kernel)) rfl
theorem wm_414 : Cond.instanceMethod yX6_limits ∈ ww_GW := ww_gw (List.mem_of_getElem? (i := 414) (by decide +kernel)) rfl
theorem wm_415 : Cond.selects RX6 yX6_limits yX6_limits ∈ ww_GW := ww_gw (List.mem_of_getElem? (i := 415) (by decide +kernel)) rfl
theorem wk_L_35 : ww_vir RL 35 wy_X6_limits 4 := ⟨wc_X6_limits, rfl, wm_413, wm_414, wm_415⟩
theorem wm_422 : ww_hd wy_X6_fit ∈ ww_GW := ww_gw (List.mem_of_getElem? (i := 422) (by decide +kernel)) rfl
theorem wc_X6_fit : ww_cal wy_X6_fit 2 := ⟨wm_422, wm_25, ⟨by decide +kernel, by decide +kernel⟩, by decide +kernel, by decide⟩
theorem wm_419 : Cond.methodLink RL 14 yX6_fit ∈ ww_GW := ww_gw (List.mem_of_getElem? (i := 419) (by decide +kernel)) rfl
theorem wm_420 : Cond.instanceMethod yX6_fit ∈ ww_GW := ww_gw (List.mem_of_getElem? (i := 420) (by decide +kernel)) rfl
theorem wm_421 : Cond.selects RX6 yX6_fit yX6_fit ∈ ww_GW := ww_gw (List.mem_of_getElem? (i := 421) (by decide +kernel)) rfl
theorem wk_L_14 : ww_vir RL 14 wy_X6_fit 2 := ⟨wc_X6_fit, rfl, wm_419, wm_420, wm_421⟩
theorem wm_426 : ww_hd wy_X6_existing ∈ ww_GW := ww_gw (List.mem_of_getElem? (i := 426) (by decide +kernel)) rfl
theorem wc_X6_existing : ww_cal wy_X6_existing 1 := ⟨wm_426, wm_25, ⟨by decide +kernel, by decide +kernel⟩, by decide +kernel, by decide⟩
theorem wm_423 : Cond.methodLink RX6 83 yX6_existing ∈ ww_GW := ww_gw (List.mem_of_getElem? (i := 423) (by decide +kernel)) rfl
theorem wm_425 : Cond.instanceMethod yX6_existing ∈ ww_GW := ww_gw (List.mem_of_getElem? (i := 425) (by decide +kernel)) rfl
theorem wm_5 : Cond.selects RX6 yX6_existing yX6_existing ∈ ww_GW := ww_gw (List.mem_of_getElem? (i := 5) (by decide +kernel)) rfl
theorem wk_X6_83 : ww_vir RX6 83 wy_X6_existing 1 := ⟨wc_X6_existing, rfl, wm_423, wm_425, wm_5⟩
theorem wm_446 : ww_hd wy_Jx4a65c_get_915e3 ∈ ww_GW := ww_gw (List.mem_of_getElem? (i := 446) (by decide +kernel)) rfl
theorem wc_Jx4a65c_get_915e3 : ww_cal wy_Jx4a65c_get_915e3 1 := ⟨wm_446, wm_28, ⟨by decide +kernel, by decide +kernel⟩, by decide +kernel, by decide⟩
theorem wm_443 : Cond.methodLink RX6 171 yJx4a65c_get_915e3 ∈ ww_GW := ww_gw (List.mem_of_getElem? (i := 443) (by decide +kernel)) rfl
theorem wm_444 : Cond.instanceMethod yJx4a65c_get_915e3 ∈ ww_GW := ww_gw (List.mem_of_getElem? (i := 444) (by decide +kernel)) rfl
theorem wm_445 : Cond.selects RJx4a65c yJx4a65c_get_915e3 yJx4a65c_get_915e3 ∈ ww_GW := ww_gw (List.mem_of_getElem? (i := 445) (by decide +kernel)) rfl
theorem wk_X6_171 : ww_vir RX6 171 wy_Jx4a65c_get_915e3 1 := ⟨wc_Jx4a65c_get_915e3, rfl, wm_443, wm_444, wm_445⟩
theorem wm_449 : ww_hd wy_J15_checkIndex_7cf53 ∈ ww_GW := ww_gw (List.mem_of_getElem? (i := 449) (by decide +kernel)) rfl
theorem wm_44 : Cond.initialized RJ15 ∈ ww_GW := ww_gw (List.mem_of_getElem? (i := 44) (by decide +kernel)) rfl
theorem wc_J15_checkIndex_7cf53 : ww_cal wy_J15_checkIndex_7cf53 2 := ⟨wm_449, wm_44, ⟨by decide +kernel, by decide +kernel⟩, by decide +kernel, by decide⟩
theorem wm_447 : Cond.methodLink RJx4a65c 118 yJ15_checkIndex_7cf53 ∈ ww_GW := ww_gw (List.mem_of_getElem? (i := 447) (by decide +kernel)) rfl
theorem wm_448 : Cond.static yJ15_checkIndex_7cf53 ∈ ww_GW := ww_gw (List.mem_of_getElem? (i := 448) (by decide +kernel)) rfl
theorem wk_Jx4a65c_118 : ww_sta RJx4a65c 118 wy_J15_checkIndex_7cf53 2 := ⟨wc_J15_checkIndex_7cf53, wm_447, wm_448⟩
theorem wm_452 : ww_hd wy_J3_checkIndex_8e157 ∈ ww_GW := ww_gw (List.mem_of_getElem? (i := 452) (by decide +kernel)) rfl
theorem wm_45 : Cond.initialized RJ3 ∈ ww_GW := ww_gw (List.mem_of_getElem? (i := 45) (by decide +kernel)) rfl
theorem wc_J3_checkIndex_8e157 : ww_cal wy_J3_checkIndex_8e157 3 := ⟨wm_452, wm_45, ⟨by decide +kernel, by decide +kernel⟩, by decide +kernel, by decide⟩
theorem wm_450 : Cond.methodLink RJ15 105 yJ3_checkIndex_8e157 ∈ ww_GW := ww_gw (List.mem_of_getElem? (i := 450) (by decide +kernel)) rfl
theorem wm_451 : Cond.static yJ3_checkIndex_8e157 ∈ ww_GW := ww_gw (List.mem_of_getElem? (i := 451) (by decide +kernel)) rfl
theorem wk_J15_105 : ww_sta RJ15 105 wy_J3_checkIndex_8e157 3 := ⟨wc_J3_checkIndex_8e157, wm_450, wm_451⟩
theorem wm_456 : ww_hd wy_Jx4a65c_elementData_915e3 ∈ ww_GW := ww_gw (List.mem_of_getElem? (i := 456) (by decide +kernel)) rfl
theorem wc_Jx4a65c_elementData_915e3 : ww_cal wy_Jx4a65c_elementData_915e3 1 := ⟨wm_456, wm_28, ⟨by decide +kernel, by decide +kernel⟩, by decide +kernel, by decide⟩
theorem wm_453 : Cond.methodLink RJx4a65c 123 yJx4a65c_elementData_915e3 ∈ ww_GW := ww_gw (List.mem_of_getElem? (i := 453) (by decide +kernel)) rfl
theorem wm_454 : Cond.instanceMethod yJx4a65c_elementData_915e3 ∈ ww_GW := ww_gw (List.mem_of_getElem? (i := 454) (by decide +kernel)) rfl
theorem wm_455 : Cond.selects RJx4a65c yJx4a65c_elementData_915e3 yJx4a65c_elementData_915e3 ∈ ww_GW := ww_gw (List.mem_of_getElem? (i := 455) (by decide +kernel)) rfl
theorem wk_Jx4a65c_123 : ww_vir RJx4a65c 123 wy_Jx4a65c_elementData_915e3 1 := ⟨wc_Jx4a65c_elementData_915e3, rfl, wm_453, wm_454, wm_455⟩
theorem wm_459 : ww_hd wy_X6_placesFor ∈ ww_GW := ww_gw (List.mem_of_getElem? (i := 459) (by decide +kernel)) rfl
theorem wc_X6_placesFor : ww_cal wy_X6_placesFor 2 := ⟨wm_459, wm_25, ⟨by decide +kernel, by decide +kernel⟩, by decide +kernel, by decide⟩
theorem wm_457 : Cond.methodLink RX6 90 yX6_placesFor ∈ ww_GW := ww_gw (List.mem_of_getElem? (i := 457) (by decide +kernel)) rfl
theorem wm_458 : Cond.static yX6_placesFor ∈ ww_GW := ww_gw (List.mem_of_getElem? (i := 458) (by decide +kernel)) rfl
theorem wk_X6_90 : ww_sta RX6 90 wy_X6_placesFor 2 := ⟨wc_X6_placesFor, wm_457, wm_458⟩
theorem wm_464 : ww_hd wy_X3_isInStore ∈ ww_GW := ww_gw (List.mem_of_getElem? (i := 464) (by decide +kernel)) rfl
theorem wc_X3_isInStore : ww_cal wy_X3_isInStore 0 := ⟨wm_464, wm_37, ⟨by decide +kernel, by decide +kernel⟩, by decide +kernel, by decide⟩
theorem wm_461 : Cond.methodLink RX6 96 yX3_isInStore ∈ ww_GW := ww_gw (List.mem_of_getElem? (i := 461) (by decide +kernel)) rfl
theorem wm_462 : Cond.instanceMethod yX3_isInStore ∈ ww_GW := ww_gw (List.mem_of_getElem? (i := 462) (by decide +kernel)) rfl
theorem wm_463 : Cond.selects RX3 yX3_isInStore yX3_isInStore ∈ ww_GW := ww_gw (List.mem_of_getElem? (i := 463) (by decide +kernel)) rfl
theorem wk_X6_96 : ww_vir RX6 96 wy_X3_isInStore 0 := ⟨wc_X3_isInStore, rfl, wm_461, wm_462, wm_463⟩
theorem wm_469 : ww_hd wy_X3_isBound ∈ ww_GW := ww_gw (List.mem_of_getElem? (i := 469) (by decide +kernel)) rfl
theorem wc_X3_isBound : ww_cal wy_X3_isBound 0 := ⟨wm_469, wm_37, ⟨by decide +kernel, by decide +kernel⟩, by decide +kernel, by decide⟩
theorem wm_466 : Cond.methodLink RX6 109 yX3_isBound ∈ ww_GW := ww_gw (List.mem_of_getElem? (i := 466) (by decide +kernel)) rfl
theorem wm_467 : Cond.instanceMethod yX3_isBound ∈ ww_GW := ww_gw (List.mem_of_getElem? (i := 467) (by decide +kernel)) rfl
theorem wm_468 : Cond.selects RX3 yX3_isBound yX3_isBound ∈ ww_GW := ww_gw (List.mem_of_getElem? (i := 468) (by decide +kernel)) rfl
theorem wk_X6_109 : ww_vir RX6 109 wy_X3_isBound 0 := ⟨wc_X3_isBound, rfl, wm_466, wm_467, wm_468⟩
theorem wm_473 : ww_hd wy_X3_top ∈ ww_GW := ww_gw (List.mem_of_getElem? (i := 473) (by decide +kernel)) rfl
theorem wc_X3_top : ww_cal wy_X3_top 0 := ⟨wm_473, wm_37, ⟨by decide +kernel, by decide +kernel⟩, by decide +kernel, by decide⟩
theorem wm_470 : Cond.methodLink RX3 46 yX3_top ∈ ww_GW := ww_gw (List.mem_of_getElem? (i := 470) (by decide +kernel)) rfl
theorem wm_471 : Cond.instanceMethod yX3_top ∈ ww_GW := ww_gw (List.mem_of_getElem? (i := 471) (by decide +kernel)) rfl
theorem wm_472 : Cond.selects RX3 yX3_top yX3_top ∈ ww_GW := ww_gw (List.mem_of_getElem? (i := 472) (by decide +kernel)) rfl
theorem wk_X3_46 : ww_vir RX3 46 wy_X3_top 0 := ⟨wc_X3_top, rfl, wm_470, wm_471, wm_472⟩
theorem wm_477 : ww_hd wy_X6_inside ∈ ww_GW := ww_gw (List.mem_of_getElem? (i := 477) (by decide +kernel)) rfl
theorem wc_X6_inside : ww_cal wy_X6_inside 2 := ⟨wm_477, wm_25, ⟨by decide +kernel, by decide +kernel⟩, by decide +kernel, by decide⟩
theorem wm_474 : Cond.methodLink RX6 112 yX6_inside ∈ ww_GW := ww_gw (List.mem_of_getElem? (i := 474) (by decide +kernel)) rfl
theorem wm_476 : Cond.instanceMethod yX6_inside ∈ ww_GW := ww_gw (List.mem_of_getElem? (i := 476) (by decide +kernel)) rfl
theorem wm_6 : Cond.selects RX6 yX6_inside yX6_inside ∈ ww_GW := ww_gw (List.mem_of_getElem? (i := 6) (by decide +kernel)) rfl
theorem wk_X6_112 : ww_vir RX6 112 wy_X6_inside 2 := ⟨wc_X6_inside, rfl, wm_474, wm_476, wm_6⟩
theorem wm_481 : ww_hd wy_J9_abs_0f7a4 ∈ ww_GW := ww_gw (List.mem_of_getElem? (i := 481) (by decide +kernel)) rfl
theorem wc_J9_abs_0f7a4 : ww_cal wy_J9_abs_0f7a4 1 := ⟨wm_481, wm_40, ⟨by decide +kernel, by decide +kernel⟩, by decide +kernel, by decide⟩
theorem wm_479 : Cond.methodLink RX6 121 yJ9_abs_0f7a4 ∈ ww_GW := ww_gw (List.mem_of_getElem? (i := 479) (by decide +kernel)) rfl
theorem wm_480 : Cond.static yJ9_abs_0f7a4 ∈ ww_GW := ww_gw (List.mem_of_getElem? (i := 480) (by decide +kernel)) rfl
theorem wk_X6_121 : ww_sta RX6 121 wy_J9_abs_0f7a4 1 := ⟨wc_J9_abs_0f7a4, wm_479, wm_480⟩
theorem wm_486 : ww_hd wy_X2_addMove ∈ ww_GW := ww_gw (List.mem_of_getElem? (i := 486) (by decide +kernel)) rfl
theorem wc_X2_addMove : ww_cal wy_X2_addMove 2 := ⟨wm_486, wm_29, ⟨by decide +kernel, by decide +kernel⟩, by decide +kernel, by decide⟩
theorem wm_483 : Cond.methodLink RX6 133 yX2_addMove ∈ ww_GW := ww_gw (List.mem_of_getElem? (i := 483) (by decide +kernel)) rfl
theorem wm_484 : Cond.instanceMethod yX2_addMove ∈ ww_GW := ww_gw (List.mem_of_getElem? (i := 484) (by decide +kernel)) rfl
theorem wm_485 : Cond.selects RX2 yX2_addMove yX2_addMove ∈ ww_GW := ww_gw (List.mem_of_getElem? (i := 485) (by decide +kernel)) rfl
theorem wk_X6_133 : ww_vir RX6 133 wy_X2_addMove 2 := ⟨wc_X2_addMove, rfl, wm_483, wm_484, wm_485⟩
theorem wm_491 : ww_hd wy_X0_init ∈ ww_GW := ww_gw (List.mem_of_getElem? (i := 491) (by decide +kernel)) rfl
theorem wm_46 : Cond.initialized RX0 ∈ ww_GW := ww_gw (List.mem_of_getElem? (i := 46) (by decide +kernel)) rfl
theorem wc_X0_init : ww_cal wy_X0_init 3 := ⟨wm_491, wm_46, ⟨by decide +kernel, by decide +kernel⟩, by decide +kernel, by decide⟩
theorem wm_489 : Cond.methodLink RX2 24 yX0_init ∈ ww_GW := ww_gw (List.mem_of_getElem? (i := 489) (by decide +kernel)) rfl
theorem wm_490 : Cond.instanceMethod yX0_init ∈ ww_GW := ww_gw (List.mem_of_getElem? (i := 490) (by decide +kernel)) rfl
theorem wk_X2_24 : ww_ini RX2 24 wy_X0_init 3 := ⟨wc_X0_init, rfl, wm_489, wm_490, rfl⟩
theorem wm_510 : ww_hd wy_X2_add ∈ ww_GW := ww_gw (List.mem_of_getElem? (i := 510) (by decide +kernel)) rfl
theorem wc_X2_add : ww_cal wy_X2_add 1 := ⟨wm_510, wm_29, ⟨by decide +kernel, by decide +kernel⟩, by decide +kernel, by decide⟩
theorem wm_507 : Cond.methodLink RX2 27 yX2_add ∈ ww_GW := ww_gw (List.mem_of_getElem? (i := 507) (by decide +kernel)) rfl
theorem wm_509 : Cond.instanceMethod yX2_add ∈ ww_GW := ww_gw (List.mem_of_getElem? (i := 509) (by decide +kernel)) rfl
theorem wm_7 : Cond.selects RX2 yX2_add yX2_add ∈ ww_GW := ww_gw (List.mem_of_getElem? (i := 7) (by decide +kernel)) rfl
theorem wk_X2_27 : ww_vir RX2 27 wy_X2_add 1 := ⟨wc_X2_add, rfl, wm_507, wm_509, wm_7⟩
theorem wm_511 : Cond.methodLink RX2 31 yJx4a65c_size_8abf5 ∈ ww_GW := ww_gw (List.mem_of_getElem? (i := 511) (by decide +kernel)) rfl
theorem wk_X2_31 : ww_vir RX2 31 wy_Jx4a65c_size_8abf5 0 := ⟨wc_Jx4a65c_size_8abf5, rfl, wm_511, wm_237, wm_238⟩
theorem wm_512 : Cond.methodLink RX2 35 yJx4a65c_add_9ea2d ∈ ww_GW := ww_gw (List.mem_of_getElem? (i := 512) (by decide +kernel)) rfl
theorem wk_X2_35 : ww_vir RX2 35 wy_Jx4a65c_add_9ea2d 1 := ⟨wc_Jx4a65c_add_9ea2d, rfl, wm_512, wm_356, wm_357⟩
theorem wm_513 : Cond.methodLink RX6 137 yX3_top ∈ ww_GW := ww_gw (List.mem_of_getElem? (i := 513) (by decide +kernel)) rfl
theorem wk_X6_137 : ww_vir RX6 137 wy_X3_top 0 := ⟨wc_X3_top, rfl, wm_513, wm_471, wm_472⟩
theorem wm_517 : ww_hd wy_X6_inside_ ∈ ww_GW := ww_gw (List.mem_of_getElem? (i := 517) (by decide +kernel)) rfl
theorem wc_X6_inside_ : ww_cal wy_X6_inside_ 1 := ⟨wm_517, wm_25, ⟨by decide +kernel, by decide +kernel⟩, by decide +kernel, by decide⟩
theorem wm_514 : Cond.methodLink RX6 144 yX6_inside_ ∈ ww_GW := ww_gw (List.mem_of_getElem? (i := 514) (by decide +kernel)) rfl
theorem wm_516 : Cond.instanceMethod yX6_inside_ ∈ ww_GW := ww_gw (List.mem_of_getElem? (i := 516) (by decide +kernel)) rfl
theorem wm_8 : Cond.selects RX6 yX6_inside_ yX6_inside_ ∈ ww_GW := ww_gw (List.mem_of_getElem? (i := 8) (by decide +kernel)) rfl
theorem wk_X6_144 : ww_vir RX6 144 wy_X6_inside_ 1 := ⟨wc_X6_inside_, rfl, wm_514, wm_516, wm_8⟩
theorem wm_521 : ww_hd wy_X6_take ∈ ww_GW := ww_gw (List.mem_of_getElem? (i := 521) (by decide +kernel)) rfl
theorem wc_X6_take : ww_cal wy_X6_take 1 := ⟨wm_521, wm_25, ⟨by decide +kernel, by decide +kernel⟩, by decide +kernel, by decide⟩
theorem wm_518 : Cond.methodLink RL 73 yX6_take ∈ ww_GW := ww_gw (List.mem_of_getElem? (i := 518) (by decide +kernel)) rfl
theorem wm_519 : Cond.instanceMethod yX6_take ∈ ww_GW := ww_gw (List.mem_of_getElem? (i := 519) (by decide +kernel)) rfl
theorem wm_520 : Cond.selects RX6 yX6_take yX6_take ∈ ww_GW := ww_gw (List.mem_of_getElem? (i := 520) (by decide +kernel)) rfl
theorem wk_L_73 : ww_vir RL 73 wy_X6_take 1 := ⟨wc_X6_take, rfl, wm_518, wm_519, wm_520⟩
theorem wm_526 : ww_hd wy_X6_scrap ∈ ww_GW := ww_gw (List.mem_of_getElem? (i := 526) (by decide +kernel)) rfl
theorem wc_X6_scrap : ww_cal wy_X6_scrap 1 := ⟨wm_526, wm_25, ⟨by decide +kernel, by decide +kernel⟩, by decide +kernel, by decide⟩
theorem wm_523 : Cond.methodLink RL 69 yX6_scrap ∈ ww_GW := ww_gw (List.mem_of_getElem? (i := 523) (by decide +kernel)) rfl
theorem wm_524 : Cond.instanceMethod yX6_scrap ∈ ww_GW := ww_gw (List.mem_of_getElem? (i := 524) (by decide +kernel)) rfl
theorem wm_525 : Cond.selects RX6 yX6_scrap yX6_scrap ∈ ww_GW := ww_gw (List.mem_of_getElem? (i := 525) (by decide +kernel)) rfl
theorem wk_L_69 : ww_vir RL 69 wy_X6_scrap 1 := ⟨wc_X6_scrap, rfl, wm_523, wm_524, wm_525⟩
theorem wm_531 : ww_hd wy_X5_isWaiting ∈ ww_GW := ww_gw (List.mem_of_getElem? (i := 531) (by decide +kernel)) rfl
theorem wc_X5_isWaiting : ww_cal wy_X5_isWaiting 1 := ⟨wm_531, wm_30, ⟨by decide +kernel, by decide +kernel⟩, by decide +kernel, by decide⟩
theorem wm_528 : Cond.methodLink RX6 154 yX5_isWaiting ∈ ww_GW := ww_gw (List.mem_of_getElem? (i := 528) (by decide +kernel)) rfl
theorem wm_529 : Cond.instanceMethod yX5_isWaiting ∈ ww_GW := ww_gw (List.mem_of_getElem? (i := 529) (by decide +kernel)) rfl
theorem wm_530 : Cond.selects RX5 yX5_isWaiting yX5_isWaiting ∈ ww_GW := ww_gw (List.mem_of_getElem? (i := 530) (by decide +kernel)) rfl
theorem wk_X6_154 : ww_vir RX6 154 wy_X5_isWaiting 1 := ⟨wc_X5_isWaiting, rfl, wm_528, wm_529, wm_530⟩
theorem wm_532 : Cond.methodLink RX5 25 yJx4a65c_size_8abf5 ∈ ww_GW := ww_gw (List.mem_of_getElem? (i := 532) (by decide +kernel)) rfl
theorem wk_X5_25 : ww_vir RX5 25 wy_Jx4a65c_size_8abf5 0 := ⟨wc_Jx4a65c_size_8abf5, rfl, wm_532, wm_237, wm_238⟩
theorem wm_533 : Cond.methodLink RX5 29 yJx4a65c_get_915e3 ∈ ww_GW := ww_gw (List.mem_of_getElem? (i := 533) (by decide +kernel)) rfl
theorem wk_X5_29 : ww_vir RX5 29 wy_Jx4a65c_get_915e3 1 := ⟨wc_Jx4a65c_get_915e3, rfl, wm_533, wm_444, wm_445⟩
theorem wm_538 : ww_hd wy_X6_run ∈ ww_GW := ww_gw (List.mem_of_getElem? (i := 538) (by decide +kernel)) rfl
theorem wc_X6_run : ww_cal wy_X6_run 3 := ⟨wm_538, wm_25, ⟨by decide +kernel, by decide +kernel⟩, by decide +kernel, by decide⟩
theorem wm_535 : Cond.methodLink RL 66 yX6_run ∈ ww_GW := ww_gw (List.mem_of_getElem? (i := 535) (by decide +kernel)) rfl
theorem wm_536 : Cond.instanceMethod yX6_run ∈ ww_GW := ww_gw (List.mem_of_getElem? (i := 536) (by decide +kernel)) rfl
theorem wm_537 : Cond.selects RX6 yX6_run yX6_run ∈ ww_GW := ww_gw (List.mem_of_getElem? (i := 537) (by decide +kernel)) rfl
theorem wk_L_66 : ww_vir RL 66 wy_X6_run 3 := ⟨wc_X6_run, rfl, wm_535, wm_536, wm_537⟩
theorem wm_542 : ww_hd wy_X6_existingTrain ∈ ww_GW := ww_gw (List.mem_of_getElem? (i := 542) (by decide +kernel)) rfl
theorem wc_X6_existingTrain : ww_cal wy_X6_existingTrain 1 := ⟨wm_542, wm_25, ⟨by decide +kernel, by decide +kernel⟩, by decide +kernel, by decide⟩
theorem wm_539 : Cond.methodLink RX6 160 yX6_existingTrain ∈ ww_GW := ww_gw (List.mem_of_getElem? (i := 539) (by decide +kernel)) rfl
theorem wm_541 : Cond.instanceMethod yX6_existingTrain ∈ ww_GW := ww_gw (List.mem_of_getElem? (i := 541) (by decide +kernel)) rfl
theorem wm_9 : Cond.selects RX6 yX6_existingTrain yX6_existingTrain ∈ ww_GW := ww_gw (List.mem_of_getElem? (i := 9) (by decide +kernel)) rfl
theorem wk_X6_160 : ww_vir RX6 160 wy_X6_existingTrain 1 := ⟨wc_X6_existingTrain, rfl, wm_539, wm_541, wm_9⟩
theorem wm_546 : ww_hd wy_X6_checkRun ∈ ww_GW := ww_gw (List.mem_of_getElem? (i := 546) (by decide +kernel)) rfl
theorem wc_X6_checkRun : ww_cal wy_X6_checkRun 2 := ⟨wm_546, wm_25, ⟨by decide +kernel, by decide +kernel⟩, by decide +kernel, by decide⟩
theorem wm_544 : Cond.methodLink RX6 163 yX6_checkRun ∈ ww_GW := ww_gw (List.mem_of_getElem? (i := 544) (by decide +kernel)) rfl
theorem wm_545 : Cond.static yX6_checkRun ∈ ww_GW := ww_gw (List.mem_of_getElem? (i := 545) (by decide +kernel)) rfl
theorem wk_X6_163 : ww_sta RX6 163 wy_X6_checkRun 2 := ⟨wc_X6_checkRun, wm_544, wm_545⟩
theorem wm_552 : ww_hd wy_X2_addRun ∈ ww_GW := ww_gw (List.mem_of_getElem? (i := 552) (by decide +kernel)) rfl
theorem wc_X2_addRun : ww_cal wy_X2_addRun 2 := ⟨wm_552, wm_29, ⟨by decide +kernel, by decide +kernel⟩, by decide +kernel, by decide⟩
theorem wm_549 : Cond.methodLink RX6 168 yX2_addRun ∈ ww_GW := ww_gw (List.mem_of_getElem? (i := 549) (by decide +kernel)) rfl
theorem wm_550 : Cond.instanceMethod yX2_addRun ∈ ww_GW := ww_gw (List.mem_of_getElem? (i := 550) (by decide +kernel)) rfl
theorem wm_551 : Cond.selects RX2 yX2_addRun yX2_addRun ∈ ww_GW := ww_gw (List.mem_of_getElem? (i := 551) (by decide +kernel)) rfl
theorem wk_X6_168 : ww_vir RX6 168 wy_X2_addRun 2 := ⟨wc_X2_addRun, rfl, wm_549, wm_550, wm_551⟩
theorem wm_555 : ww_hd wy_X6_rubbing ∈ ww_GW := ww_gw (List.mem_of_getElem? (i := 555) (by decide +kernel)) rfl
theorem wc_X6_rubbing : ww_cal wy_X6_rubbing 1 := ⟨wm_555, wm_25, ⟨by decide +kernel, by decide +kernel⟩, by decide +kernel, by decide⟩
theorem wm_553 : Cond.methodLink RX6 175 yX6_rubbing ∈ ww_GW := ww_gw (List.mem_of_getElem? (i := 553) (by decide +kernel)) rfl
theorem wm_554 : Cond.static yX6_rubbing ∈ ww_GW := ww_gw (List.mem_of_getElem? (i := 554) (by decide +kernel)) rfl
theorem wk_X6_175 : ww_sta RX6 175 wy_X6_rubbing 1 := ⟨wc_X6_rubbing, wm_553, wm_554⟩
theorem wm_559 : ww_hd wy_X3_runs ∈ ww_GW := ww_gw (List.mem_of_getElem? (i := 559) (by decide +kernel)) rfl
theorem wc_X3_runs : ww_cal wy_X3_runs 2 := ⟨wm_559, wm_37, ⟨by decide +kernel, by decide +kernel⟩, by decide +kernel, by decide⟩
theorem wm_556 : Cond.methodLink RX6 178 yX3_runs ∈ ww_GW := ww_gw (List.mem_of_getElem? (i := 556) (by decide +kernel)) rfl
theorem wm_557 : Cond.instanceMethod yX3_runs ∈ ww_GW := ww_gw (List.mem_of_getElem? (i := 557) (by decide +kernel)) rfl
theorem wm_558 : Cond.selects RX3 yX3_runs yX3_runs ∈ ww_GW := ww_gw (List.mem_of_getElem? (i := 558) (by decide +kernel)) rfl
theorem wk_X6_178 : ww_vir RX6 178 wy_X3_runs 2 := ⟨wc_X3_runs, rfl, wm_556, wm_557, wm_558⟩
theorem wm_563 : ww_hd wy_X4_wear ∈ ww_GW := ww_gw (List.mem_of_getElem? (i := 563) (by decide +kernel)) rfl
theorem wc_X4_wear : ww_cal wy_X4_wear 2 := ⟨wm_563, wm_38, ⟨by decide +kernel, by decide +kernel⟩, by decide +kernel, by decide⟩
theorem wm_560 : Cond.methodLink RX3 67 yX4_wear ∈ ww_GW := ww_gw (List.mem_of_getElem? (i := 560) (by decide +kernel)) rfl
theorem wm_561 : Cond.instanceMethod yX4_wear ∈ ww_GW := ww_gw (List.mem_of_getElem? (i := 561) (by decide +kernel)) rfl
theorem wm_562 : Cond.selects RX4 yX4_wear yX4_wear ∈ ww_GW := ww_gw (List.mem_of_getElem? (i := 562) (by decide +kernel)) rfl
theorem wk_X3_67 : ww_vir RX3 67 wy_X4_wear 2 := ⟨wc_X4_wear, rfl, wm_560, wm_561, wm_562⟩
theorem wm_567 : ww_hd wy_X3_growFlaw ∈ ww_GW := ww_gw (List.mem_of_getElem? (i := 567) (by decide +kernel)) rfl
theorem wc_X3_growFlaw : ww_cal wy_X3_growFlaw 1 := ⟨wm_567, wm_37, ⟨by decide +kernel, by decide +kernel⟩, by decide +kernel, by decide⟩
theorem wm_564 : Cond.methodLink RX3 77 yX3_growFlaw ∈ ww_GW := ww_gw (List.mem_of_getElem? (i := 564) (by decide +kernel)) rfl
theorem wm_566 : Cond.instanceMethod yX3_growFlaw ∈ ww_GW := ww_gw (List.mem_of_getElem? (i := 566) (by decide +kernel)) rfl
theorem wm_10 : Cond.selects RX3 yX3_growFlaw yX3_growFlaw ∈ ww_GW := ww_gw (List.mem_of_getElem? (i := 10) (by decide +kernel)) rfl
theorem wk_X3_77 : ww_vir RX3 77 wy_X3_growFlaw 1 := ⟨wc_X3_growFlaw, rfl, wm_564, wm_566, wm_10⟩
theorem wm_571 : ww_hd wy_X6_quarantineTree ∈ ww_GW := ww_gw (List.mem_of_getElem? (i := 571) (by decide +kernel)) rfl
theorem wc_X6_quarantineTree : ww_cal wy_X6_quarantineTree 1 := ⟨wm_571, wm_25, ⟨by decide +kernel, by decide +kernel⟩, by decide +kernel, by decide⟩
theorem wm_568 : Cond.methodLink RX6 184 yX6_quarantineTree ∈ ww_GW := ww_gw (List.mem_of_getElem? (i := 568) (by decide +kernel)) rfl
theorem wm_570 : Cond.instanceMethod yX6_quarantineTree ∈ ww_GW := ww_gw (List.mem_of_getElem? (i := 570) (by decide +kernel)) rfl
theorem wm_11 : Cond.selects RX6 yX6_quarantineTree yX6_quarantineTree ∈ ww_GW := ww_gw (List.mem_of_getElem? (i := 11) (by decide +kernel)) rfl
theorem wk_X6_184 : ww_vir RX6 184 wy_X6_quarantineTree 1 := ⟨wc_X6_quarantineTree, rfl, wm_568, wm_570, wm_11⟩
theorem wm_575 : ww_hd wy_X6_turn ∈ ww_GW := ww_gw (List.mem_of_getElem? (i := 575) (by decide +kernel)) rfl
theorem wc_X6_turn : ww_cal wy_X6_turn 1 := ⟨wm_575, wm_25, ⟨by decide +kernel, by decide +kernel⟩, by decide +kernel, by decide⟩
theorem wm_572 : Cond.methodLink RL 83 yX6_turn ∈ ww_GW := ww_gw (List.mem_of_getElem? (i := 572) (by decide +kernel)) rfl
theorem wm_573 : Cond.instanceMethod yX6_turn ∈ ww_GW := ww_gw (List.mem_of_getElem? (i := 573) (by decide +kernel)) rfl
theorem wm_574 : Cond.selects RX6 yX6_turn yX6_turn ∈ ww_GW := ww_gw (List.mem_of_getElem? (i := 574) (by decide +kernel)) rfl
theorem wk_L_83 : ww_vir RL 83 wy_X6_turn 1 := ⟨wc_X6_turn, rfl, wm_572, wm_573, wm_574⟩
theorem wm_580 : ww_hd wy_X6_wheelIn ∈ ww_GW := ww_gw (List.mem_of_getElem? (i := 580) (by decide +kernel)) rfl
theorem wc_X6_wheelIn : ww_cal wy_X6_wheelIn 2 := ⟨wm_580, wm_25, ⟨by decide +kernel, by decide +kernel⟩, by decide +kernel, by decide⟩
theorem wm_577 : Cond.methodLink RX6 190 yX6_wheelIn ∈ ww_GW := ww_gw (List.mem_of_getElem? (i := 577) (by decide +kernel)) rfl
theorem wm_579 : Cond.instanceMethod yX6_wheelIn ∈ ww_GW := ww_gw (List.mem_of_getElem? (i := 579) (by decide +kernel)) rfl
theorem wm_12 : Cond.selects RX6 yX6_wheelIn yX6_wheelIn ∈ ww_GW := ww_gw (List.mem_of_getElem? (i := 12) (by decide +kernel)) rfl
theorem wk_X6_190 : ww_vir RX6 190 wy_X6_wheelIn 2 := ⟨wc_X6_wheelIn, rfl, wm_577, wm_579, wm_12⟩
theorem wm_585 : ww_hd wy_X4_renewFlange ∈ ww_GW := ww_gw (List.mem_of_getElem? (i := 585) (by decide +kernel)) rfl
theorem wc_X4_renewFlange : ww_cal wy_X4_renewFlange 0 := ⟨wm_585, wm_38, ⟨by decide +kernel, by decide +kernel⟩, by decide +kernel, by decide⟩
theorem wm_582 : Cond.methodLink RX6 201 yX4_renewFlange ∈ ww_GW := ww_gw (List.mem_of_getElem? (i := 582) (by decide +kernel)) rfl
theorem wm_583 : Cond.instanceMethod yX4_renewFlange ∈ ww_GW := ww_gw (List.mem_of_getElem? (i := 583) (by decide +kernel)) rfl
theorem wm_584 : Cond.selects RX4 yX4_renewFlange yX4_renewFlange ∈ ww_GW := ww_gw (List.mem_of_getElem? (i := 584) (by decide +kernel)) rfl
theorem wk_X6_201 : ww_vir RX6 201 wy_X4_renewFlange 0 := ⟨wc_X4_renewFlange, rfl, wm_582, wm_583, wm_584⟩
theorem wm_586 : Cond.methodLink RX6 204 yJ9_min_7cf53 ∈ ww_GW := ww_gw (List.mem_of_getElem? (i := 586) (by decide +kernel)) rfl
theorem wk_X6_204 : ww_sta RX6 204 wy_J9_min_7cf53 2 := ⟨wc_J9_min_7cf53, wm_586, wm_406⟩
theorem wm_590 : ww_hd wy_X6_gate ∈ ww_GW := ww_gw (List.mem_of_getElem? (i := 590) (by decide +kernel)) rfl
theorem wc_X6_gate : ww_cal wy_X6_gate 2 := ⟨wm_590, wm_25, ⟨by decide +kernel, by decide +kernel⟩, by decide +kernel, by decide⟩
theorem wm_587 : Cond.methodLink RL 86 yX6_gate ∈ ww_GW := ww_gw (List.mem_of_getElem? (i := 587) (by decide +kernel)) rfl
theorem wm_588 : Cond.instanceMethod yX6_gate ∈ ww_GW := ww_gw (List.mem_of_getElem? (i := 588) (by decide +kernel)) rfl
theorem wm_589 : Cond.selects RX6 yX6_gate yX6_gate ∈ ww_GW := ww_gw (List.mem_of_getElem? (i := 589) (by decide +kernel)) rfl
theorem wk_L_86 : ww_vir RL 86 wy_X6_gate 2 := ⟨wc_X6_gate, rfl, wm_587, wm_588, wm_589⟩
theorem wm_594 : ww_hd wy_X6_existingWheel ∈ ww_GW := ww_gw (List.mem_of_getElem? (i := 594) (by decide +kernel)) rfl
theorem wc_X6_existingWheel : ww_cal wy_X6_existingWheel 1 := ⟨wm_594, wm_25, ⟨by decide +kernel, by decide +kernel⟩, by decide +kernel, by decide⟩
theorem wm_591 : Cond.methodLink RX6 207 yX6_existingWheel ∈ ww_GW := ww_gw (List.mem_of_getElem? (i := 591) (by decide +kernel)) rfl
theorem wm_593 : Cond.instanceMethod yX6_existingWheel ∈ ww_GW := ww_gw (List.mem_of_getElem? (i := 593) (by decide +kernel)) rfl
theorem wm_13 : Cond.selects RX6 yX6_existingWheel yX6_existingWheel ∈ ww_GW := ww_gw (List.mem_of_getElem? (i := 13) (by decide +kernel)) rfl
theorem wk_X6_207 : ww_vir RX6 207 wy_X6_existingWheel 1 := ⟨wc_X6_existingWheel, rfl, wm_591, wm_593, wm_13⟩
theorem wm_600 : ww_hd wy_X6_examine ∈ ww_GW := ww_gw (List.mem_of_getElem? (i := 600) (by decide +kernel)) rfl
theorem wc_X6_examine : ww_cal wy_X6_examine 1 := ⟨wm_600, wm_25, ⟨by decide +kernel, by decide +kernel⟩, by decide +kernel, by decide⟩
theorem wm_597 : Cond.methodLink RL 108 yX6_examine ∈ ww_GW := ww_gw (List.mem_of_getElem? (i := 597) (by decide +kernel)) rfl
theorem wm_598 : Cond.instanceMethod yX6_examine ∈ ww_GW := ww_gw (List.mem_of_getElem? (i := 598) (by decide +kernel)) rfl
theorem wm_599 : Cond.selects RX6 yX6_examine yX6_examine ∈ ww_GW := ww_gw (List.mem_of_getElem? (i := 599) (by decide +kernel)) rfl
theorem wk_L_108 : ww_vir RL 108 wy_X6_examine 1 := ⟨wc_X6_examine, rfl, wm_597, wm_598, wm_599⟩
theorem wm_604 : ww_hd wy_X3_mayBeExamined ∈ ww_GW := ww_gw (List.mem_of_getElem? (i := 604) (by decide +kernel)) rfl
theorem wc_X3_mayBeExamined : ww_cal wy_X3_mayBeExamined 0 := ⟨wm_604, wm_37, ⟨by decide +kernel, by decide +kernel⟩, by decide +kernel, by decide⟩
theorem wm_601 : Cond.methodLink RX6 219 yX3_mayBeExamined ∈ ww_GW := ww_gw (List.mem_of_getElem? (i := 601) (by decide +kernel)) rfl
theorem wm_602 : Cond.instanceMethod yX3_mayBeExamined ∈ ww_GW := ww_gw (List.mem_of_getElem? (i := 602) (by decide +kernel)) rfl
theorem wm_603 : Cond.selects RX3 yX3_mayBeExamined yX3_mayBeExamined ∈ ww_GW := ww_gw (List.mem_of_getElem? (i := 603) (by decide +kernel)) rfl
theorem wk_X6_219 : ww_vir RX6 219 wy_X3_mayBeExamined 0 := ⟨wc_X3_mayBeExamined, rfl, wm_601, wm_602, wm_603⟩
theorem wm_609 : ww_hd wy_X6_waive ∈ ww_GW := ww_gw (List.mem_of_getElem? (i := 609) (by decide +kernel)) rfl
theorem wc_X6_waive : ww_cal wy_X6_waive 2 := ⟨wm_609, wm_25, ⟨by decide +kernel, by decide +kernel⟩, by decide +kernel, by decide⟩
theorem wm_606 : Cond.methodLink RL 111 yX6_waive ∈ ww_GW := ww_gw (List.mem_of_getElem? (i := 606) (by decide +kernel)) rfl
theorem wm_607 : Cond.instanceMethod yX6_waive ∈ ww_GW := ww_gw (List.mem_of_getElem? (i := 607) (by decide +kernel)) rfl
theorem wm_608 : Cond.selects RX6 yX6_waive yX6_waive ∈ ww_GW := ww_gw (List.mem_of_getElem? (i := 608) (by decide +kernel)) rfl
theorem wk_L_111 : ww_vir RL 111 wy_X6_waive 2 := ⟨wc_X6_waive, rfl, wm_606, wm_607, wm_608⟩
theorem wm_615 : ww_hd wy_X6_flaw ∈ ww_GW := ww_gw (List.mem_of_getElem? (i := 615) (by decide +kernel)) rfl
theorem wc_X6_flaw : ww_cal wy_X6_flaw 2 := ⟨wm_615, wm_25, ⟨by decide +kernel, by decide +kernel⟩, by decide +kernel, by decide⟩
theorem wm_612 : Cond.methodLink RL 95 yX6_flaw ∈ ww_GW := ww_gw (List.mem_of_getElem? (i := 612) (by decide +kernel)) rfl
theorem wm_613 : Cond.instanceMethod yX6_flaw ∈ ww_GW := ww_gw (List.mem_of_getElem? (i := 613) (by decide +kernel)) rfl
theorem wm_614 : Cond.selects RX6 yX6_flaw yX6_flaw ∈ ww_GW := ww_gw (List.mem_of_getElem? (i := 614) (by decide +kernel)) rfl
theorem wk_L_95 : ww_vir RL 95 wy_X6_flaw 2 := ⟨wc_X6_flaw, rfl, wm_612, wm_613, wm_614⟩
theorem wm_621 : ww_hd wy_X6_look ∈ ww_GW := ww_gw (List.mem_of_getElem? (i := 621) (by decide +kernel)) rfl
theorem wc_X6_look : ww_cal wy_X6_look 2 := ⟨wm_621, wm_25, ⟨by decide +kernel, by decide +kernel⟩, by decide +kernel, by decide⟩
theorem wm_618 : Cond.methodLink RL 98 yX6_look ∈ ww_GW := ww_gw (List.mem_of_getElem? (i := 618) (by decide +kernel)) rfl
theorem wm_619 : Cond.instanceMethod yX6_look ∈ ww_GW := ww_gw (List.mem_of_getElem? (i := 619) (by decide +kernel)) rfl
theorem wm_620 : Cond.selects RX6 yX6_look yX6_look ∈ ww_GW := ww_gw (List.mem_of_getElem? (i := 620) (by decide +kernel)) rfl
theorem wk_L_98 : ww_vir RL 98 wy_X6_look 2 := ⟨wc_X6_look, rfl, wm_618, wm_619, wm_620⟩
theorem wm_626 : ww_hd wy_X6_clear ∈ ww_GW := ww_gw (List.mem_of_getElem? (i := 626) (by decide +kernel)) rfl
theorem wc_X6_clear : ww_cal wy_X6_clear 1 := ⟨wm_626, wm_25, ⟨by decide +kernel, by decide +kernel⟩, by decide +kernel, by decide⟩
theorem wm_623 : Cond.methodLink RL 105 yX6_clear ∈ ww_GW := ww_gw (List.mem_of_getElem? (i := 623) (by decide +kernel)) rfl
theorem wm_624 : Cond.instanceMethod yX6_clear ∈ ww_GW := ww_gw (List.mem_of_getElem? (i := 624) (by decide +kernel)) rfl
theorem wm_625 : Cond.selects RX6 yX6_clear yX6_clear ∈ ww_GW := ww_gw (List.mem_of_getElem? (i := 625) (by decide +kernel)) rfl
theorem wk_L_105 : ww_vir RL 105 wy_X6_clear 1 := ⟨wc_X6_clear, rfl, wm_623, wm_624, wm_625⟩
theorem wm_631 : ww_hd wy_X6_recall ∈ ww_GW := ww_gw (List.mem_of_getElem? (i := 631) (by decide +kernel)) rfl
theorem wc_X6_recall : ww_cal wy_X6_recall 1 := ⟨wm_631, wm_25, ⟨by decide +kernel, by decide +kernel⟩, by decide +kernel, by decide⟩
theorem wm_628 : Cond.methodLink RL 102 yX6_recall ∈ ww_GW := ww_gw (List.mem_of_getElem? (i := 628) (by decide +kernel)) rfl
theorem wm_629 : Cond.instanceMethod yX6_recall ∈ ww_GW := ww_gw (List.mem_of_getElem? (i := 629) (by decide +kernel)) rfl
theorem wm_630 : Cond.selects RX6 yX6_recall yX6_recall ∈ ww_GW := ww_gw (List.mem_of_getElem? (i := 630) (by decide +kernel)) rfl
theorem wk_L_102 : ww_vir RL 102 wy_X6_recall 1 := ⟨wc_X6_recall, rfl, wm_628, wm_629, wm_630⟩
theorem wm_636 : ww_hd wy_X6_release ∈ ww_GW := ww_gw (List.mem_of_getElem? (i := 636) (by decide +kernel)) rfl
theorem wc_X6_release : ww_cal wy_X6_release 1 := ⟨wm_636, wm_25, ⟨by decide +kernel, by decide +kernel⟩, by decide +kernel, by decide⟩
theorem wm_633 : Cond.methodLink RL 56 yX6_release ∈ ww_GW := ww_gw (List.mem_of_getElem? (i := 633) (by decide +kernel)) rfl
theorem wm_634 : Cond.instanceMethod yX6_release ∈ ww_GW := ww_gw (List.mem_of_getElem? (i := 634) (by decide +kernel)) rfl
theorem wm_635 : Cond.selects RX6 yX6_release yX6_release ∈ ww_GW := ww_gw (List.mem_of_getElem? (i := 635) (by decide +kernel)) rfl
theorem wk_L_56 : ww_vir RL 56 wy_X6_release 1 := ⟨wc_X6_release, rfl, wm_633, wm_634, wm_635⟩
theorem wm_640 : ww_hd wy_X6_firstBar ∈ ww_GW := ww_gw (List.mem_of_getElem? (i := 640) (by decide +kernel)) rfl
theorem wc_X6_firstBar : ww_cal wy_X6_firstBar 1 := ⟨wm_640, wm_25, ⟨by decide +kernel, by decide +kernel⟩, by decide +kernel, by decide⟩
theorem wm_637 : Cond.methodLink RX6 258 yX6_firstBar ∈ ww_GW := ww_gw (List.mem_of_getElem? (i := 637) (by decide +kernel)) rfl
theorem wm_639 : Cond.instanceMethod yX6_firstBar ∈ ww_GW := ww_gw (List.mem_of_getElem? (i := 639) (by decide +kernel)) rfl
theorem wm_14 : Cond.selects RX6 yX6_firstBar yX6_firstBar ∈ ww_GW := ww_gw (List.mem_of_getElem? (i := 14) (by decide +kernel)) rfl
theorem wk_X6_258 : ww_vir RX6 258 wy_X6_firstBar 1 := ⟨wc_X6_firstBar, rfl, wm_637, wm_639, wm_14⟩
theorem wm_644 : ww_hd wy_X6_lowestBarring ∈ ww_GW := ww_gw (List.mem_of_getElem? (i := 644) (by decide +kernel)) rfl
theorem wc_X6_lowestBarring : ww_cal wy_X6_lowestBarring 2 := ⟨wm_644, wm_25, ⟨by decide +kernel, by decide +kernel⟩, by decide +kernel, by decide⟩
theorem wm_641 : Cond.methodLink RX6 323 yX6_lowestBarring ∈ ww_GW := ww_gw (List.mem_of_getElem? (i := 641) (by decide +kernel)) rfl
theorem wm_643 : Cond.instanceMethod yX6_lowestBarring ∈ ww_GW := ww_gw (List.mem_of_getElem? (i := 643) (by decide +kernel)) rfl
theorem wm_15 : Cond.selects RX6 yX6_lowestBarring yX6_lowestBarring ∈ ww_GW := ww_gw (List.mem_of_getElem? (i := 15) (by decide +kernel)) rfl
theorem wk_X6_323 : ww_vir RX6 323 wy_X6_lowestBarring 2 := ⟨wc_X6_lowestBarring, rfl, wm_641, wm_643, wm_15⟩
theorem wm_648 : ww_hd wy_X6_isSo ∈ ww_GW := ww_gw (List.mem_of_getElem? (i := 648) (by decide +kernel)) rfl
theorem wc_X6_isSo : ww_cal wy_X6_isSo 2 := ⟨wm_648, wm_25, ⟨by decide +kernel, by decide +kernel⟩, by decide +kernel, by decide⟩
theorem wm_645 : Cond.methodLink RX6 351 yX6_isSo ∈ ww_GW := ww_gw (List.mem_of_getElem? (i := 645) (by decide +kernel)) rfl
theorem wm_647 : Cond.instanceMethod yX6_isSo ∈ ww_GW := ww_gw (List.mem_of_getElem? (i := 647) (by decide +kernel)) rfl
theorem wm_16 : Cond.selects RX6 yX6_isSo yX6_isSo ∈ ww_GW := ww_gw (List.mem_of_getElem? (i := 16) (by decide +kernel)) rfl
theorem wk_X6_351 : ww_vir RX6 351 wy_X6_isSo 2 := ⟨wc_X6_isSo, rfl, wm_645, wm_647, wm_16⟩
theorem wm_652 : ww_hd wy_X6_hasEmptyPlace ∈ ww_GW := ww_gw (List.mem_of_getElem? (i := 652) (by decide +kernel)) rfl
theorem wc_X6_hasEmptyPlace : ww_cal wy_X6_hasEmptyPlace 1 := ⟨wm_652, wm_25, ⟨by decide +kernel, by decide +kernel⟩, by decide +kernel, by decide⟩
theorem wm_649 : Cond.methodLink RX6 355 yX6_hasEmptyPlace ∈ ww_GW := ww_gw (List.mem_of_getElem? (i := 649) (by decide +kernel)) rfl
theorem wm_651 : Cond.instanceMethod yX6_hasEmptyPlace ∈ ww_GW := ww_gw (List.mem_of_getElem? (i := 651) (by decide +kernel)) rfl
theorem wm_17 : Cond.selects RX6 yX6_hasEmptyPlace yX6_hasEmptyPlace ∈ ww_GW := ww_gw (List.mem_of_getElem? (i := 17) (by decide +kernel)) rfl
theorem wk_X6_355 : ww_vir RX6 355 wy_X6_hasEmptyPlace 1 := ⟨wc_X6_hasEmptyPlace, rfl, wm_649, wm_651, wm_17⟩
theorem wm_656 : ww_hd wy_X4_isWorn ∈ ww_GW := ww_gw (List.mem_of_getElem? (i := 656) (by decide +kernel)) rfl
theorem wc_X4_isWorn : ww_cal wy_X4_isWorn 0 := ⟨wm_656, wm_38, ⟨by decide +kernel, by decide +kernel⟩, by decide +kernel, by decide⟩
theorem wm_653 : Cond.methodLink RX6 358 yX4_isWorn ∈ ww_GW := ww_gw (List.mem_of_getElem? (i := 653) (by decide +kernel)) rfl
theorem wm_654 : Cond.instanceMethod yX4_isWorn ∈ ww_GW := ww_gw (List.mem_of_getElem? (i := 654) (by decide +kernel)) rfl
theorem wm_655 : Cond.selects RX4 yX4_isWorn yX4_isWorn ∈ ww_GW := ww_gw (List.mem_of_getElem? (i := 655) (by decide +kernel)) rfl
theorem wk_X6_358 : ww_vir RX6 358 wy_X4_isWorn 0 := ⟨wc_X4_isWorn, rfl, wm_653, wm_654, wm_655⟩
theorem wm_660 : ww_hd wy_X6_isApart ∈ ww_GW := ww_gw (List.mem_of_getElem? (i := 660) (by decide +kernel)) rfl
theorem wc_X6_isApart : ww_cal wy_X6_isApart 1 := ⟨wm_660, wm_25, ⟨by decide +kernel, by decide +kernel⟩, by decide +kernel, by decide⟩
theorem wm_657 : Cond.methodLink RX6 361 yX6_isApart ∈ ww_GW := ww_gw (List.mem_of_getElem? (i := 657) (by decide +kernel)) rfl
theorem wm_659 : Cond.instanceMethod yX6_isApart ∈ ww_GW := ww_gw (List.mem_of_getElem? (i := 659) (by decide +kernel)) rfl
theorem wm_18 : Cond.selects RX6 yX6_isApart yX6_isApart ∈ ww_GW := ww_gw (List.mem_of_getElem? (i := 18) (by decide +kernel)) rfl
theorem wk_X6_361 : ww_vir RX6 361 wy_X6_isApart 1 := ⟨wc_X6_isApart, rfl, wm_657, wm_659, wm_18⟩
theorem wm_664 : ww_hd wy_X6_spreadIn ∈ ww_GW := ww_gw (List.mem_of_getElem? (i := 664) (by decide +kernel)) rfl
theorem wc_X6_spreadIn : ww_cal wy_X6_spreadIn 1 := ⟨wm_664, wm_25, ⟨by decide +kernel, by decide +kernel⟩, by decide +kernel, by decide⟩
theorem wm_661 : Cond.methodLink RX6 367 yX6_spreadIn ∈ ww_GW := ww_gw (List.mem_of_getElem? (i := 661) (by decide +kernel)) rfl
theorem wm_663 : Cond.instanceMethod yX6_spreadIn ∈ ww_GW := ww_gw (List.mem_of_getElem? (i := 663) (by decide +kernel)) rfl
theorem wm_19 : Cond.selects RX6 yX6_spreadIn yX6_spreadIn ∈ ww_GW := ww_gw (List.mem_of_getElem? (i := 19) (by decide +kernel)) rfl
theorem wk_X6_367 : ww_vir RX6 367 wy_X6_spreadIn 1 := ⟨wc_X6_spreadIn, rfl, wm_661, wm_663, wm_19⟩
theorem wm_668 : ww_hd wy_X3_isWithin ∈ ww_GW := ww_gw (List.mem_of_getElem? (i := 668) (by decide +kernel)) rfl
theorem wc_X3_isWithin : ww_cal wy_X3_isWithin 1 := ⟨wm_668, wm_37, ⟨by decide +kernel, by decide +kernel⟩, by decide +kernel, by decide⟩
theorem wm_665 : Cond.methodLink RX6 370 yX3_isWithin ∈ ww_GW := ww_gw (List.mem_of_getElem? (i := 665) (by decide +kernel)) rfl
theorem wm_666 : Cond.instanceMethod yX3_isWithin ∈ ww_GW := ww_gw (List.mem_of_getElem? (i := 666) (by decide +kernel)) rfl
theorem wm_667 : Cond.selects RX3 yX3_isWithin yX3_isWithin ∈ ww_GW := ww_gw (List.mem_of_getElem? (i := 667) (by decide +kernel)) rfl
theorem wk_X6_370 : ww_vir RX6 370 wy_X3_isWithin 1 := ⟨wc_X3_isWithin, rfl, wm_665, wm_666, wm_667⟩
theorem wm_669 : Cond.methodLink RX6 320 yJ9_max_7cf53 ∈ ww_GW := ww_gw (List.mem_of_getElem? (i := 669) (by decide +kernel)) rfl
theorem wk_X6_320 : ww_sta RX6 320 wy_J9_max_7cf53 2 := ⟨wc_J9_max_7cf53, wm_669, wm_375⟩
theorem wm_673 : ww_hd wy_X3_isExaminationDue ∈ ww_GW := ww_gw (List.mem_of_getElem? (i := 673) (by decide +kernel)) rfl
theorem wc_X3_isExaminationDue : ww_cal wy_X3_isExaminationDue 0 := ⟨wm_673, wm_37, ⟨by decide +kernel, by decide +kernel⟩, by decide +kernel, by decide⟩
theorem wm_670 : Cond.methodLink RX6 364 yX3_isExaminationDue ∈ ww_GW := ww_gw (List.mem_of_getElem? (i := 670) (by decide +kernel)) rfl
theorem wm_671 : Cond.instanceMethod yX3_isExaminationDue ∈ ww_GW := ww_gw (List.mem_of_getElem? (i := 671) (by decide +kernel)) rfl
theorem wm_672 : Cond.selects RX3 yX3_isExaminationDue yX3_isExaminationDue ∈ ww_GW := ww_gw (List.mem_of_getElem? (i := 672) (by decide +kernel)) rfl
theorem wk_X6_364 : ww_vir RX6 364 wy_X3_isExaminationDue 0 := ⟨wc_X3_isExaminationDue, rfl, wm_670, wm_671, wm_672⟩
theorem wm_677 : ww_hd wy_X6_comes ∈ ww_GW := ww_gw (List.mem_of_getElem? (i := 677) (by decide +kernel)) rfl
theorem wc_X6_comes : ww_cal wy_X6_comes 2 := ⟨wm_677, wm_25, ⟨by decide +kernel, by decide +kernel⟩, by decide +kernel, by decide⟩
theorem wm_674 : Cond.methodLink RL 119 yX6_comes ∈ ww_GW := ww_gw (List.mem_of_getElem? (i := 674) (by decide +kernel)) rfl
theorem wm_675 : Cond.instanceMethod yX6_comes ∈ ww_GW := ww_gw (List.mem_of_getElem? (i := 675) (by decide +kernel)) rfl
theorem wm_676 : Cond.selects RX6 yX6_comes yX6_comes ∈ ww_GW := ww_gw (List.mem_of_getElem? (i := 676) (by decide +kernel)) rfl
theorem wk_L_119 : ww_vir RL 119 wy_X6_comes 2 := ⟨wc_X6_comes, rfl, wm_674, wm_675, wm_676⟩
theorem wm_682 : ww_hd wy_X5_isTaken ∈ ww_GW := ww_gw (List.mem_of_getElem? (i := 682) (by decide +kernel)) rfl
theorem wc_X5_isTaken : ww_cal wy_X5_isTaken 1 := ⟨wm_682, wm_30, ⟨by decide +kernel, by decide +kernel⟩, by decide +kernel, by decide⟩
theorem wm_679 : Cond.methodLink RX6 266 yX5_isTaken ∈ ww_GW := ww_gw (List.mem_of_getElem? (i := 679) (by decide +kernel)) rfl
theorem wm_680 : Cond.instanceMethod yX5_isTaken ∈ ww_GW := ww_gw (List.mem_of_getElem? (i := 680) (by decide +kernel)) rfl
theorem wm_681 : Cond.selects RX5 yX5_isTaken yX5_isTaken ∈ ww_GW := ww_gw (List.mem_of_getElem? (i := 681) (by decide +kernel)) rfl
theorem wk_X6_266 : ww_vir RX6 266 wy_X5_isTaken 1 := ⟨wc_X5_isTaken, rfl, wm_679, wm_680, wm_681⟩
theorem wm_689 : ww_hd wy_X6_night ∈ ww_GW := ww_gw (List.mem_of_getElem? (i := 689) (by decide +kernel)) rfl
theorem wc_X6_night : ww_cal wy_X6_night 0 := ⟨wm_689, wm_25, ⟨by decide +kernel, by decide +kernel⟩, by decide +kernel, by decide⟩
theorem wm_686 : Cond.methodLink RL 125 yX6_night ∈ ww_GW := ww_gw (List.mem_of_getElem? (i := 686) (by decide +kernel)) rfl
theorem wm_687 : Cond.instanceMethod yX6_night ∈ ww_GW := ww_gw (List.mem_of_getElem? (i := 687) (by decide +kernel)) rfl
theorem wm_688 : Cond.selects RX6 yX6_night yX6_night ∈ ww_GW := ww_gw (List.mem_of_getElem? (i := 688) (by decide +kernel)) rfl
theorem wk_L_125 : ww_vir RL 125 wy_X6_night 0 := ⟨wc_X6_night, rfl, wm_686, wm_687, wm_688⟩
theorem wm_693 : ww_hd wy_Jx4a65c_isEmpty_aae02 ∈ ww_GW := ww_gw (List.mem_of_getElem? (i := 693) (by decide +kernel)) rfl
theorem wc_Jx4a65c_isEmpty_aae02 : ww_cal wy_Jx4a65c_isEmpty_aae02 0 := ⟨wm_693, wm_28, ⟨by decide +kernel, by decide +kernel⟩, by decide +kernel, by decide⟩
theorem wm_690 : Cond.methodLink RX6 277 yJx4a65c_isEmpty_aae02 ∈ ww_GW := ww_gw (List.mem_of_getElem? (i := 690) (by decide +kernel)) rfl
theorem wm_691 : Cond.instanceMethod yJx4a65c_isEmpty_aae02 ∈ ww_GW := ww_gw (List.mem_of_getElem? (i := 691) (by decide +kernel)) rfl
theorem wm_692 : Cond.selects RJx4a65c yJx4a65c_isEmpty_aae02 yJx4a65c_isEmpty_aae02 ∈ ww_GW := ww_gw (List.mem_of_getElem? (i := 692) (by decide +kernel)) rfl
theorem wk_X6_277 : ww_vir RX6 277 wy_Jx4a65c_isEmpty_aae02 0 := ⟨wc_Jx4a65c_isEmpty_aae02, rfl, wm_690, wm_691, wm_692⟩
theorem wm_698 : ww_hd wy_X5_park ∈ ww_GW := ww_gw (List.mem_of_getElem? (i := 698) (by decide +kernel)) rfl
theorem wc_X5_park : ww_cal wy_X5_park 0 := ⟨wm_698, wm_30, ⟨by decide +kernel, by decide +kernel⟩, by decide +kernel, by decide⟩
theorem wm_695 : Cond.methodLink RX6 285 yX5_park ∈ ww_GW := ww_gw (List.mem_of_getElem? (i := 695) (by decide +kernel)) rfl
theorem wm_696 : Cond.instanceMethod yX5_park ∈ ww_GW := ww_gw (List.mem_of_getElem? (i := 696) (by decide +kernel)) rfl
theorem wm_697 : Cond.selects RX5 yX5_park yX5_park ∈ ww_GW := ww_gw (List.mem_of_getElem? (i := 697) (by decide +kernel)) rfl
theorem wk_X6_285 : ww_vir RX6 285 wy_X5_park 0 := ⟨wc_X5_park, rfl, wm_695, wm_696, wm_697⟩
theorem wm_702 : ww_hd wy_X5_makePlan ∈ ww_GW := ww_gw (List.mem_of_getElem? (i := 702) (by decide +kernel)) rfl
theorem wc_X5_makePlan : ww_cal wy_X5_makePlan 0 := ⟨wm_702, wm_30, ⟨by decide +kernel, by decide +kernel⟩, by decide +kernel, by decide⟩
theorem wm_699 : Cond.methodLink RX5 53 yX5_makePlan ∈ ww_GW := ww_gw (List.mem_of_getElem? (i := 699) (by decide +kernel)) rfl
theorem wm_700 : Cond.instanceMethod yX5_makePlan ∈ ww_GW := ww_gw (List.mem_of_getElem? (i := 700) (by decide +kernel)) rfl
theorem wm_701 : Cond.selects RX5 yX5_makePlan yX5_makePlan ∈ ww_GW := ww_gw (List.mem_of_getElem? (i := 701) (by decide +kernel)) rfl
theorem wk_X5_53 : ww_vir RX5 53 wy_X5_makePlan 0 := ⟨wc_X5_makePlan, rfl, wm_699, wm_700, wm_701⟩
theorem wm_706 : ww_hd wy_X5_markBlocked ∈ ww_GW := ww_gw (List.mem_of_getElem? (i := 706) (by decide +kernel)) rfl
theorem wc_X5_markBlocked : ww_cal wy_X5_markBlocked 0 := ⟨wm_706, wm_30, ⟨by decide +kernel, by decide +kernel⟩, by decide +kernel, by decide⟩
theorem wm_703 : Cond.methodLink RX5 39 yX5_markBlocked ∈ ww_GW := ww_gw (List.mem_of_getElem? (i := 703) (by decide +kernel)) rfl
theorem wm_705 : Cond.instanceMethod yX5_markBlocked ∈ ww_GW := ww_gw (List.mem_of_getElem? (i := 705) (by decide +kernel)) rfl
theorem wm_20 : Cond.selects RX5 yX5_markBlocked yX5_markBlocked ∈ ww_GW := ww_gw (List.mem_of_getElem? (i := 20) (by decide +kernel)) rfl
theorem wk_X5_39 : ww_vir RX5 39 wy_X5_markBlocked 0 := ⟨wc_X5_markBlocked, rfl, wm_703, wm_705, wm_20⟩
theorem wm_709 : ww_hd wy_X5_searchPlan ∈ ww_GW := ww_gw (List.mem_of_getElem? (i := 709) (by decide +kernel)) rfl
theorem wc_X5_searchPlan : ww_cal wy_X5_searchPlan 4 := ⟨wm_709, wm_30, ⟨by decide +kernel, by decide +kernel⟩, by decide +kernel, by decide⟩
theorem wm_707 : Cond.methodLink RX5 45 yX5_searchPlan ∈ ww_GW := ww_gw (List.mem_of_getElem? (i := 707) (by decide +kernel)) rfl
theorem wm_708 : Cond.static yX5_searchPlan ∈ ww_GW := ww_gw (List.mem_of_getElem? (i := 708) (by decide +kernel)) rfl
theorem wk_X5_45 : ww_sta RX5 45 wy_X5_searchPlan 4 := ⟨wc_X5_searchPlan, wm_707, wm_708⟩
theorem wm_712 : ww_hd wy_X5_trainsIn ∈ ww_GW := ww_gw (List.mem_of_getElem? (i := 712) (by decide +kernel)) rfl
theorem wc_X5_trainsIn : ww_cal wy_X5_trainsIn 2 := ⟨wm_712, wm_30, ⟨by decide +kernel, by decide +kernel⟩, by decide +kernel, by decide⟩
theorem wm_710 : Cond.methodLink RX5 79 yX5_trainsIn ∈ ww_GW := ww_gw (List.mem_of_getElem? (i := 710) (by decide +kernel)) rfl
theorem wm_711 : Cond.static yX5_trainsIn ∈ ww_GW := ww_gw (List.mem_of_getElem? (i := 711) (by decide +kernel)) rfl
theorem wk_X5_79 : ww_sta RX5 79 wy_X5_trainsIn 2 := ⟨wc_X5_trainsIn, wm_710, wm_711⟩
theorem wm_715 : ww_hd wy_J6_bitCount_0f7a4 ∈ ww_GW := ww_gw (List.mem_of_getElem? (i := 715) (by decide +kernel)) rfl
theorem wm_47 : Cond.initialized RJ6 ∈ ww_GW := ww_gw (List.mem_of_getElem? (i := 47) (by decide +kernel)) rfl
theorem wc_J6_bitCount_0f7a4 : ww_cal wy_J6_bitCount_0f7a4 1 := ⟨wm_715, wm_47, ⟨by decide +kernel, by decide +kernel⟩, by decide +kernel, by decide⟩
theorem wm_713 : Cond.methodLink RX5 82 yJ6_bitCount_0f7a4 ∈ ww_GW := ww_gw (List.mem_of_getElem? (i := 713) (by decide +kernel)) rfl
theorem wm_714 : Cond.static yJ6_bitCount_0f7a4 ∈ ww_GW := ww_gw (List.mem_of_getElem? (i := 714) (by decide +kernel)) rfl
theorem wk_X5_82 : ww_sta RX5 82 wy_J6_bitCount_0f7a4 1 := ⟨wc_J6_bitCount_0f7a4, wm_713, wm_714⟩
theorem wm_721 : ww_hd wy_X5_bitOf ∈ ww_GW := ww_gw (List.mem_of_getElem? (i := 721) (by decide +kernel)) rfl
theorem wc_X5_bitOf : ww_cal wy_X5_bitOf 2 := ⟨wm_721, wm_30, ⟨by decide +kernel, by decide +kernel⟩, by decide +kernel, by decide⟩
theorem wm_719 : Cond.methodLink RX5 88 yX5_bitOf ∈ ww_GW := ww_gw (List.mem_of_getElem? (i := 719) (by decide +kernel)) rfl
theorem wm_720 : Cond.static yX5_bitOf ∈ ww_GW := ww_gw (List.mem_of_getElem? (i := 720) (by decide +kernel)) rfl
theorem wk_X5_88 : ww_sta RX5 88 wy_X5_bitOf 2 := ⟨wc_X5_bitOf, wm_719, wm_720⟩
theorem wm_724 : ww_hd wy_X5_roadIn ∈ ww_GW := ww_gw (List.mem_of_getElem? (i := 724) (by decide +kernel)) rfl
theorem wc_X5_roadIn : ww_cal wy_X5_roadIn 2 := ⟨wm_724, wm_30, ⟨by decide +kernel, by decide +kernel⟩, by decide +kernel, by decide⟩
theorem wm_722 : Cond.methodLink RX5 59 yX5_roadIn ∈ ww_GW := ww_gw (List.mem_of_getElem? (i := 722) (by decide +kernel)) rfl
theorem wm_723 : Cond.static yX5_roadIn ∈ ww_GW := ww_gw (List.mem_of_getElem? (i := 723) (by decide +kernel)) rfl
theorem wk_X5_59 : ww_sta RX5 59 wy_X5_roadIn 2 := ⟨wc_X5_roadIn, wm_722, wm_723⟩
theorem wm_725 : Cond.methodLink RX5 66 yJx4a65c_add_9ea2d ∈ ww_GW := ww_gw (List.mem_of_getElem? (i := 725) (by decide +kernel)) rfl
theorem wk_X5_66 : ww_vir RX5 66 wy_Jx4a65c_add_9ea2d 1 := ⟨wc_Jx4a65c_add_9ea2d, rfl, wm_725, wm_356, wm_357⟩
theorem wm_729 : ww_hd wy_Jx4a65c_clear_da8c8 ∈ ww_GW := ww_gw (List.mem_of_getElem? (i := 729) (by decide +kernel)) rfl
theorem wc_Jx4a65c_clear_da8c8 : ww_cal wy_Jx4a65c_clear_da8c8 0 := ⟨wm_729, wm_28, ⟨by decide +kernel, by decide +kernel⟩, by decide +kernel, by decide⟩
theorem wm_726 : Cond.methodLink RX5 70 yJx4a65c_clear_da8c8 ∈ ww_GW := ww_gw (List.mem_of_getElem? (i := 726) (by decide +kernel)) rfl
theorem wm_727 : Cond.instanceMethod yJx4a65c_clear_da8c8 ∈ ww_GW := ww_gw (List.mem_of_getElem? (i := 727) (by decide +kernel)) rfl
theorem wm_728 : Cond.selects RJx4a65c yJx4a65c_clear_da8c8 yJx4a65c_clear_da8c8 ∈ ww_GW := ww_gw (List.mem_of_getElem? (i := 728) (by decide +kernel)) rfl
theorem wk_X5_70 : ww_vir RX5 70 wy_Jx4a65c_clear_da8c8 0 := ⟨wc_Jx4a65c_clear_da8c8, rfl, wm_726, wm_727, wm_728⟩
theorem wm_733 : ww_hd wy_X6_out ∈ ww_GW := ww_gw (List.mem_of_getElem? (i := 733) (by decide +kernel)) rfl
theorem wc_X6_out : ww_cal wy_X6_out 0 := ⟨wm_733, wm_25, ⟨by decide +kernel, by decide +kernel⟩, by decide +kernel, by decide⟩
theorem wm_730 : Cond.methodLink RL 115 yX6_out ∈ ww_GW := ww_gw (List.mem_of_getElem? (i := 730) (by decide +kernel)) rfl
theorem wm_731 : Cond.instanceMethod yX6_out ∈ ww_GW := ww_gw (List.mem_of_getElem? (i := 731) (by decide +kernel)) rfl
theorem wm_732 : Cond.selects RX6 yX6_out yX6_out ∈ ww_GW := ww_gw (List.mem_of_getElem? (i := 732) (by decide +kernel)) rfl
theorem wk_L_115 : ww_vir RL 115 wy_X6_out 0 := ⟨wc_X6_out, rfl, wm_730, wm_731, wm_732⟩
theorem wm_738 : ww_hd wy_X5_sendFirst ∈ ww_GW := ww_gw (List.mem_of_getElem? (i := 738) (by decide +kernel)) rfl
theorem wc_X5_sendFirst : ww_cal wy_X5_sendFirst 0 := ⟨wm_738, wm_30, ⟨by decide +kernel, by decide +kernel⟩, by decide +kernel, by decide⟩
theorem wm_735 : Cond.methodLink RX6 290 yX5_sendFirst ∈ ww_GW := ww_gw (List.mem_of_getElem? (i := 735) (by decide +kernel)) rfl
theorem wm_736 : Cond.instanceMethod yX5_sendFirst ∈ ww_GW := ww_gw (List.mem_of_getElem? (i := 736) (by decide +kernel)) rfl
theorem wm_737 : Cond.selects RX5 yX5_sendFirst yX5_sendFirst ∈ ww_GW := ww_gw (List.mem_of_getElem? (i := 737) (by decide +kernel)) rfl
theorem wk_X6_290 : ww_vir RX6 290 wy_X5_sendFirst 0 := ⟨wc_X5_sendFirst, rfl, wm_735, wm_736, wm_737⟩
theorem wm_742 : ww_hd wy_Jx4a65c_remove_915e3 ∈ ww_GW := ww_gw (List.mem_of_getElem? (i := 742) (by decide +kernel)) rfl
theorem wc_Jx4a65c_remove_915e3 : ww_cal wy_Jx4a65c_remove_915e3 1 := ⟨wm_742, wm_28, ⟨by decide +kernel, by decide +kernel⟩, by decide +kernel, by decide⟩
theorem wm_739 : Cond.methodLink RX5 73 yJx4a65c_remove_915e3 ∈ ww_GW := ww_gw (List.mem_of_getElem? (i := 739) (by decide +kernel)) rfl
theorem wm_740 : Cond.instanceMethod yJx4a65c_remove_915e3 ∈ ww_GW := ww_gw (List.mem_of_getElem? (i := 740) (by decide +kernel)) rfl
theorem wm_741 : Cond.selects RJx4a65c yJx4a65c_remove_915e3 yJx4a65c_remove_915e3 ∈ ww_GW := ww_gw (List.mem_of_getElem? (i := 741) (by decide +kernel)) rfl
theorem wk_X5_73 : ww_vir RX5 73 wy_Jx4a65c_remove_915e3 1 := ⟨wc_Jx4a65c_remove_915e3, rfl, wm_739, wm_740, wm_741⟩
theorem wm_746 : ww_hd wy_Jx4a65c_fastRemove_b59b0 ∈ ww_GW := ww_gw (List.mem_of_getElem? (i := 746) (by decide +kernel)) rfl
theorem wc_Jx4a65c_fastRemove_b59b0 : ww_cal wy_Jx4a65c_fastRemove_b59b0 2 := ⟨wm_746, wm_28, ⟨by decide +kernel, by decide +kernel⟩, by decide +kernel, by decide⟩
theorem wm_743 : Cond.methodLink RJx4a65c 144 yJx4a65c_fastRemove_b59b0 ∈ ww_GW := ww_gw (List.mem_of_getElem? (i := 743) (by decide +kernel)) rfl
theorem wm_745 : Cond.instanceMethod yJx4a65c_fastRemove_b59b0 ∈ ww_GW := ww_gw (List.mem_of_getElem? (i := 745) (by decide +kernel)) rfl
theorem wm_21 : Cond.selects RJx4a65c yJx4a65c_fastRemove_b59b0 yJx4a65c_fastRemove_b59b0 ∈ ww_GW := ww_gw (List.mem_of_getElem? (i := 21) (by decide +kernel)) rfl
theorem wk_Jx4a65c_144 : ww_vir RJx4a65c 144 wy_Jx4a65c_fastRemove_b59b0 2 := ⟨wc_Jx4a65c_fastRemove_b59b0, rfl, wm_743, wm_745, wm_21⟩
theorem wm_751 : ww_hd wy_X6_host ∈ ww_GW := ww_gw (List.mem_of_getElem? (i := 751) (by decide +kernel)) rfl
theorem wc_X6_host : ww_cal wy_X6_host 1 := ⟨wm_751, wm_25, ⟨by decide +kernel, by decide +kernel⟩, by decide +kernel, by decide⟩
theorem wm_748 : Cond.methodLink RL 18 yX6_host ∈ ww_GW := ww_gw (List.mem_of_getElem? (i := 748) (by decide +kernel)) rfl
theorem wm_749 : Cond.instanceMethod yX6_host ∈ ww_GW := ww_gw (List.mem_of_getElem? (i := 749) (by decide +kernel)) rfl
theorem wm_750 : Cond.selects RX6 yX6_host yX6_host ∈ ww_GW := ww_gw (List.mem_of_getElem? (i := 750) (by decide +kernel)) rfl
theorem wk_L_18 : ww_vir RL 18 wy_X6_host 1 := ⟨wc_X6_host, rfl, wm_748, wm_749, wm_750⟩
theorem wm_755 : ww_hd wy_X3_whereabouts ∈ ww_GW := ww_gw (List.mem_of_getElem? (i := 755) (by decide +kernel)) rfl
theorem wc_X3_whereabouts : ww_cal wy_X3_whereabouts 0 := ⟨wm_755, wm_37, ⟨by decide +kernel, by decide +kernel⟩, by decide +kernel, by decide⟩
theorem wm_752 : Cond.methodLink RX6 293 yX3_whereabouts ∈ ww_GW := ww_gw (List.mem_of_getElem? (i := 752) (by decide +kernel)) rfl
theorem wm_753 : Cond.instanceMethod yX3_whereabouts ∈ ww_GW := ww_gw (List.mem_of_getElem? (i := 753) (by decide +kernel)) rfl
theorem wm_754 : Cond.selects RX3 yX3_whereabouts yX3_whereabouts ∈ ww_GW := ww_gw (List.mem_of_getElem? (i := 754) (by decide +kernel)) rfl
theorem wk_X6_293 : ww_vir RX6 293 wy_X3_whereabouts 0 := ⟨wc_X3_whereabouts, rfl, wm_752, wm_753, wm_754⟩
theorem wm_759 : ww_hd wy_X6_head ∈ ww_GW := ww_gw (List.mem_of_getElem? (i := 759) (by decide +kernel)) rfl
theorem wc_X6_head : ww_cal wy_X6_head 1 := ⟨wm_759, wm_25, ⟨by decide +kernel, by decide +kernel⟩, by decide +kernel, by decide⟩
theorem wm_756 : Cond.methodLink RL 46 yX6_head ∈ ww_GW := ww_gw (List.mem_of_getElem? (i := 756) (by decide +kernel)) rfl
theorem wm_757 : Cond.instanceMethod yX6_head ∈ ww_GW := ww_gw (List.mem_of_getElem? (i := 757) (by decide +kernel)) rfl
theorem wm_758 : Cond.selects RX6 yX6_head yX6_head ∈ ww_GW := ww_gw (List.mem_of_getElem? (i := 758) (by decide +kernel)) rfl
theorem wk_L_46 : ww_vir RL 46 wy_X6_head 1 := ⟨wc_X6_head, rfl, wm_756, wm_757, wm_758⟩
theorem wm_763 : ww_hd wy_X6_ofPart ∈ ww_GW := ww_gw (List.mem_of_getElem? (i := 763) (by decide +kernel)) rfl
theorem wc_X6_ofPart : ww_cal wy_X6_ofPart 2 := ⟨wm_763, wm_25, ⟨by decide +kernel, by decide +kernel⟩, by decide +kernel, by decide⟩
theorem wm_760 : Cond.methodLink RL 22 yX6_ofPart ∈ ww_GW := ww_gw (List.mem_of_getElem? (i := 760) (by decide +kernel)) rfl
theorem wm_761 : Cond.instanceMethod yX6_ofPart ∈ ww_GW := ww_gw (List.mem_of_getElem? (i := 761) (by decide +kernel)) rfl
theorem wm_762 : Cond.selects RX6 yX6_ofPart yX6_ofPart ∈ ww_GW := ww_gw (List.mem_of_getElem? (i := 762) (by decide +kernel)) rfl
theorem wk_L_22 : ww_vir RL 22 wy_X6_ofPart 2 := ⟨wc_X6_ofPart, rfl, wm_760, wm_761, wm_762⟩
theorem wm_767 : ww_hd wy_X2_movesOf ∈ ww_GW := ww_gw (List.mem_of_getElem? (i := 767) (by decide +kernel)) rfl
theorem wc_X2_movesOf : ww_cal wy_X2_movesOf 1 := ⟨wm_767, wm_29, ⟨by decide +kernel, by decide +kernel⟩, by decide +kernel, by decide⟩
theorem wm_764 : Cond.methodLink RX6 296 yX2_movesOf ∈ ww_GW := ww_gw (List.mem_of_getElem? (i := 764) (by decide +kernel)) rfl
theorem wm_765 : Cond.instanceMethod yX2_movesOf ∈ ww_GW := ww_gw (List.mem_of_getElem? (i := 765) (by decide +kernel)) rfl
theorem wm_766 : Cond.selects RX2 yX2_movesOf yX2_movesOf ∈ ww_GW := ww_gw (List.mem_of_getElem? (i := 766) (by decide +kernel)) rfl
theorem wk_X6_296 : ww_vir RX6 296 wy_X2_movesOf 1 := ⟨wc_X2_movesOf, rfl, wm_764, wm_765, wm_766⟩
theorem wm_768 : Cond.methodLink RX2 38 yJx4a65c_get_915e3 ∈ ww_GW := ww_gw (List.mem_of_getElem? (i := 768) (by decide +kernel)) rfl
theorem wk_X2_38 : ww_vir RX2 38 wy_Jx4a65c_get_915e3 1 := ⟨wc_Jx4a65c_get_915e3, rfl, wm_768, wm_444, wm_445⟩
theorem wm_771 : ww_hd wy_X2_isMoveOf ∈ ww_GW := ww_gw (List.mem_of_getElem? (i := 771) (by decide +kernel)) rfl
theorem wc_X2_isMoveOf : ww_cal wy_X2_isMoveOf 2 := ⟨wm_771, wm_29, ⟨by decide +kernel, by decide +kernel⟩, by decide +kernel, by decide⟩
theorem wm_769 : Cond.methodLink RX2 42 yX2_isMoveOf ∈ ww_GW := ww_gw (List.mem_of_getElem? (i := 769) (by decide +kernel)) rfl
theorem wm_770 : Cond.static yX2_isMoveOf ∈ ww_GW := ww_gw (List.mem_of_getElem? (i := 770) (by decide +kernel)) rfl
theorem wk_X2_42 : ww_sta RX2 42 wy_X2_isMoveOf 2 := ⟨wc_X2_isMoveOf, wm_769, wm_770⟩
theorem wm_776 : ww_hd wy_X6_trace ∈ ww_GW := ww_gw (List.mem_of_getElem? (i := 776) (by decide +kernel)) rfl
theorem wc_X6_trace : ww_cal wy_X6_trace 2 := ⟨wm_776, wm_25, ⟨by decide +kernel, by decide +kernel⟩, by decide +kernel, by decide⟩
theorem wm_773 : Cond.methodLink RL 128 yX6_trace ∈ ww_GW := ww_gw (List.mem_of_getElem? (i := 773) (by decide +kernel)) rfl
theorem wm_774 : Cond.instanceMethod yX6_trace ∈ ww_GW := ww_gw (List.mem_of_getElem? (i := 774) (by decide +kernel)) rfl
theorem wm_775 : Cond.selects RX6 yX6_trace yX6_trace ∈ ww_GW := ww_gw (List.mem_of_getElem? (i := 775) (by decide +kernel)) rfl
theorem wk_L_128 : ww_vir RL 128 wy_X6_trace 2 := ⟨wc_X6_trace, rfl, wm_773, wm_774, wm_775⟩
theorem wm_780 : ww_hd wy_X2_moveOf ∈ ww_GW := ww_gw (List.mem_of_getElem? (i := 780) (by decide +kernel)) rfl
theorem wc_X2_moveOf : ww_cal wy_X2_moveOf 2 := ⟨wm_780, wm_29, ⟨by decide +kernel, by decide +kernel⟩, by decide +kernel, by decide⟩
theorem wm_777 : Cond.methodLink RX6 301 yX2_moveOf ∈ ww_GW := ww_gw (List.mem_of_getElem? (i := 777) (by decide +kernel)) rfl
theorem wm_778 : Cond.instanceMethod yX2_moveOf ∈ ww_GW := ww_gw (List.mem_of_getElem? (i := 778) (by decide +kernel)) rfl
theorem wm_779 : Cond.selects RX2 yX2_moveOf yX2_moveOf ∈ ww_GW := ww_gw (List.mem_of_getElem? (i := 779) (by decide +kernel)) rfl
theorem wk_X6_301 : ww_vir RX6 301 wy_X2_moveOf 2 := ⟨wc_X2_moveOf, rfl, wm_777, wm_778, wm_779⟩
theorem wm_785 : ww_hd wy_X6_lifeAnew ∈ ww_GW := ww_gw (List.mem_of_getElem? (i := 785) (by decide +kernel)) rfl
theorem wc_X6_lifeAnew : ww_cal wy_X6_lifeAnew 1 := ⟨wm_785, wm_25, ⟨by decide +kernel, by decide +kernel⟩, by decide +kernel, by decide⟩
theorem wm_782 : Cond.methodLink RL 131 yX6_lifeAnew ∈ ww_GW := ww_gw (List.mem_of_getElem? (i := 782) (by decide +kernel)) rfl
theorem wm_783 : Cond.instanceMethod yX6_lifeAnew ∈ ww_GW := ww_gw (List.mem_of_getElem? (i := 783) (by decide +kernel)) rfl
theorem wm_784 : Cond.selects RX6 yX6_lifeAnew yX6_lifeAnew ∈ ww_GW := ww_gw (List.mem_of_getElem? (i := 784) (by decide +kernel)) rfl
theorem wk_L_131 : ww_vir RL 131 wy_X6_lifeAnew 1 := ⟨wc_X6_lifeAnew, rfl, wm_782, wm_783, wm_784⟩
theorem wm_789 : ww_hd wy_X2_lifeOf ∈ ww_GW := ww_gw (List.mem_of_getElem? (i := 789) (by decide +kernel)) rfl
theorem wc_X2_lifeOf : ww_cal wy_X2_lifeOf 1 := ⟨wm_789, wm_29, ⟨by decide +kernel, by decide +kernel⟩, by decide +kernel, by decide⟩
theorem wm_786 : Cond.methodLink RX6 315 yX2_lifeOf ∈ ww_GW := ww_gw (List.mem_of_getElem? (i := 786) (by decide +kernel)) rfl
theorem wm_787 : Cond.instanceMethod yX2_lifeOf ∈ ww_GW := ww_gw (List.mem_of_getElem? (i := 787) (by decide +kernel)) rfl
theorem wm_788 : Cond.selects RX2 yX2_lifeOf yX2_lifeOf ∈ ww_GW := ww_gw (List.mem_of_getElem? (i := 788) (by decide +kernel)) rfl
theorem wk_X6_315 : ww_vir RX6 315 wy_X2_lifeOf 1 := ⟨wc_X2_lifeOf, rfl, wm_786, wm_787, wm_788⟩
theorem wm_793 : ww_hd wy_X2_topThen ∈ ww_GW := ww_gw (List.mem_of_getElem? (i := 793) (by decide +kernel)) rfl
theorem wc_X2_topThen : ww_cal wy_X2_topThen 1 := ⟨wm_793, wm_29, ⟨by decide +kernel, by decide +kernel⟩, by decide +kernel, by decide⟩
theorem wm_790 : Cond.methodLink RX2 53 yX2_topThen ∈ ww_GW := ww_gw (List.mem_of_getElem? (i := 790) (by decide +kernel)) rfl
theorem wm_792 : Cond.instanceMethod yX2_topThen ∈ ww_GW := ww_gw (List.mem_of_getElem? (i := 792) (by decide +kernel)) rfl
theorem wm_22 : Cond.selects RX2 yX2_topThen yX2_topThen ∈ ww_GW := ww_gw (List.mem_of_getElem? (i := 22) (by decide +kernel)) rfl
theorem wk_X2_53 : ww_vir RX2 53 wy_X2_topThen 1 := ⟨wc_X2_topThen, rfl, wm_790, wm_792, wm_22⟩
theorem wm_797 : ww_hd wy_X2_isPart ∈ ww_GW := ww_gw (List.mem_of_getElem? (i := 797) (by decide +kernel)) rfl
theorem wc_X2_isPart : ww_cal wy_X2_isPart 1 := ⟨wm_797, wm_29, ⟨by decide +kernel, by decide +kernel⟩, by decide +kernel, by decide⟩
theorem wm_794 : Cond.methodLink RX2 57 yX2_isPart ∈ ww_GW := ww_gw (List.mem_of_getElem? (i := 794) (by decide +kernel)) rfl
theorem wm_796 : Cond.instanceMethod yX2_isPart ∈ ww_GW := ww_gw (List.mem_of_getElem? (i := 796) (by decide +kernel)) rfl
theorem wm_23 : Cond.selects RX2 yX2_isPart yX2_isPart ∈ ww_GW := ww_gw (List.mem_of_getElem? (i := 23) (by decide +kernel)) rfl
theorem wk_X2_57 : ww_vir RX2 57 wy_X2_isPart 1 := ⟨wc_X2_isPart, rfl, wm_794, wm_796, wm_23⟩
theorem wm_801 : ww_hd wy_X6_wheel ∈ ww_GW := ww_gw (List.mem_of_getElem? (i := 801) (by decide +kernel)) rfl
theorem wc_X6_wheel : ww_cal wy_X6_wheel 2 := ⟨wm_801, wm_25, ⟨by decide +kernel, by decide +kernel⟩, by decide +kernel, by decide⟩
theorem wm_798 : Cond.methodLink RL 89 yX6_wheel ∈ ww_GW := ww_gw (List.mem_of_getElem? (i := 798) (by decide +kernel)) rfl
theorem wm_799 : Cond.instanceMethod yX6_wheel ∈ ww_GW := ww_gw (List.mem_of_getElem? (i := 799) (by decide +kernel)) rfl
theorem wm_800 : Cond.selects RX6 yX6_wheel yX6_wheel ∈ ww_GW := ww_gw (List.mem_of_getElem? (i := 800) (by decide +kernel)) rfl
theorem wk_L_89 : ww_vir RL 89 wy_X6_wheel 2 := ⟨wc_X6_wheel, rfl, wm_798, wm_799, wm_800⟩
theorem wm_806 : ww_hd wy_X6_foretell ∈ ww_GW := ww_gw (List.mem_of_getElem? (i := 806) (by decide +kernel)) rfl
theorem wc_X6_foretell : ww_cal wy_X6_foretell 3 := ⟨wm_806, wm_25, ⟨by decide +kernel, by decide +kernel⟩, by decide +kernel, by decide⟩
theorem wm_803 : Cond.methodLink RL 92 yX6_foretell ∈ ww_GW := ww_gw (List.mem_of_getElem? (i := 803) (by decide +kernel)) rfl
theorem wm_804 : Cond.instanceMethod yX6_foretell ∈ ww_GW := ww_gw (List.mem_of_getElem? (i := 804) (by decide +kernel)) rfl
theorem wm_805 : Cond.selects RX6 yX6_foretell yX6_foretell ∈ ww_GW := ww_gw (List.mem_of_getElem? (i := 805) (by decide +kernel)) rfl
theorem wk_L_92 : ww_vir RL 92 wy_X6_foretell 3 := ⟨wc_X6_foretell, rfl, wm_803, wm_804, wm_805⟩
theorem wm_810 : ww_hd wy_X6_bars ∈ ww_GW := ww_gw (List.mem_of_getElem? (i := 810) (by decide +kernel)) rfl
theorem wc_X6_bars : ww_cal wy_X6_bars 1 := ⟨wm_810, wm_25, ⟨by decide +kernel, by decide +kernel⟩, by decide +kernel, by decide⟩
theorem wm_807 : Cond.methodLink RL 53 yX6_bars ∈ ww_GW := ww_gw (List.mem_of_getElem? (i := 807) (by decide +kernel)) rfl
theorem wm_808 : Cond.instanceMethod yX6_bars ∈ ww_GW := ww_gw (List.mem_of_getElem? (i := 808) (by decide +kernel)) rfl
theorem wm_809 : Cond.selects RX6 yX6_bars yX6_bars ∈ ww_GW := ww_gw (List.mem_of_getElem? (i := 809) (by decide +kernel)) rfl
theorem wk_L_53 : ww_vir RL 53 wy_X6_bars 1 := ⟨wc_X6_bars, rfl, wm_807, wm_808, wm_809⟩
theorem wm_814 : ww_hd wy_X6_barredBy ∈ ww_GW := ww_gw (List.mem_of_getElem? (i := 814) (by decide +kernel)) rfl
theorem wc_X6_barredBy : ww_cal wy_X6_barredBy 1 := ⟨wm_814, wm_25, ⟨by decide +kernel, by decide +kernel⟩, by decide +kernel, by decide⟩
theorem wm_811 : Cond.methodLink RL 63 yX6_barredBy ∈ ww_GW := ww_gw (List.mem_of_getElem? (i := 811) (by decide +kernel)) rfl
theorem wm_812 : Cond.instanceMethod yX6_barredBy ∈ ww_GW := ww_gw (List.mem_of_getElem? (i := 812) (by decide +kernel)) rfl
theorem wm_813 : Cond.selects RX6 yX6_barredBy yX6_barredBy ∈ ww_GW := ww_gw (List.mem_of_getElem? (i := 813) (by decide +kernel)) rfl
theorem wk_L_63 : ww_vir RL 63 wy_X6_barredBy 1 := ⟨wc_X6_barredBy, rfl, wm_811, wm_812, wm_813⟩
theorem wm_818 : ww_hd wy_X6_isReleased ∈ ww_GW := ww_gw (List.mem_of_getElem? (i := 818) (by decide +kernel)) rfl
theorem wc_X6_isReleased : ww_cal wy_X6_isReleased 1 := ⟨wm_818, wm_25, ⟨by decide +kernel, by decide +kernel⟩, by decide +kernel, by decide⟩
theorem wm_815 : Cond.methodLink RL 59 yX6_isReleased ∈ ww_GW := ww_gw (List.mem_of_getElem? (i := 815) (by decide +kernel)) rfl
theorem wm_816 : Cond.instanceMethod yX6_isReleased ∈ ww_GW := ww_gw (List.mem_of_getElem? (i := 816) (by decide +kernel)) rfl
theorem wm_817 : Cond.selects RX6 yX6_isReleased yX6_isReleased ∈ ww_GW := ww_gw (List.mem_of_getElem? (i := 817) (by decide +kernel)) rfl
theorem wk_L_59 : ww_vir RL 59 wy_X6_isReleased 1 := ⟨wc_X6_isReleased, rfl, wm_815, wm_816, wm_817⟩
theorem wm_822 : ww_hd wy_X6_plan ∈ ww_GW := ww_gw (List.mem_of_getElem? (i := 822) (by decide +kernel)) rfl
theorem wc_X6_plan : ww_cal wy_X6_plan 0 := ⟨wm_822, wm_25, ⟨by decide +kernel, by decide +kernel⟩, by decide +kernel, by decide⟩
theorem wm_819 : Cond.methodLink RL 122 yX6_plan ∈ ww_GW := ww_gw (List.mem_of_getElem? (i := 819) (by decide +kernel)) rfl
theorem wm_820 : Cond.instanceMethod yX6_plan ∈ ww_GW := ww_gw (List.mem_of_getElem? (i := 820) (by decide +kernel)) rfl
theorem wm_821 : Cond.selects RX6 yX6_plan yX6_plan ∈ ww_GW := ww_gw (List.mem_of_getElem? (i := 821) (by decide +kernel)) rfl
theorem wk_L_122 : ww_vir RL 122 wy_X6_plan 0 := ⟨wc_X6_plan, rfl, wm_819, wm_820, wm_821⟩
theorem wm_823 : Cond.methodLink RX6 326 yX5_makePlan ∈ ww_GW := ww_gw (List.mem_of_getElem? (i := 823) (by decide +kernel)) rfl
theorem wk_X6_326 : ww_vir RX6 326 wy_X5_makePlan 0 := ⟨wc_X5_makePlan, rfl, wm_823, wm_700, wm_701⟩
theorem wm_827 : ww_hd wy_X6_planAnew ∈ ww_GW := ww_gw (List.mem_of_getElem? (i := 827) (by decide +kernel)) rfl
theorem wc_X6_planAnew : ww_cal wy_X6_planAnew 0 := ⟨wm_827, wm_25, ⟨by decide +kernel, by decide +kernel⟩, by decide +kernel, by decide⟩
theorem wm_824 : Cond.methodLink RL 134 yX6_planAnew ∈ ww_GW := ww_gw (List.mem_of_getElem? (i := 824) (by decide +kernel)) rfl
theorem wm_825 : Cond.instanceMethod yX6_planAnew ∈ ww_GW := ww_gw (List.mem_of_getElem? (i := 825) (by decide +kernel)) rfl
theorem wm_826 : Cond.selects RX6 yX6_planAnew yX6_planAnew ∈ ww_GW := ww_gw (List.mem_of_getElem? (i := 826) (by decide +kernel)) rfl
theorem wk_L_134 : ww_vir RL 134 wy_X6_planAnew 0 := ⟨wc_X6_planAnew, rfl, wm_824, wm_825, wm_826⟩
theorem wm_831 : ww_hd wy_X5_makePlanAnew ∈ ww_GW := ww_gw (List.mem_of_getElem? (i := 831) (by decide +kernel)) rfl
theorem wc_X5_makePlanAnew : ww_cal wy_X5_makePlanAnew 0 := ⟨wm_831, wm_30, ⟨by decide +kernel, by decide +kernel⟩, by decide +kernel, by decide⟩
theorem wm_828 : Cond.methodLink RX6 329 yX5_makePlanAnew ∈ ww_GW := ww_gw (List.mem_of_getElem? (i := 828) (by decide +kernel)) rfl
theorem wm_829 : Cond.instanceMethod yX5_makePlanAnew ∈ ww_GW := ww_gw (List.mem_of_getElem? (i := 829) (by decide +kernel)) rfl
theorem wm_830 : Cond.selects RX5 yX5_makePlanAnew yX5_makePlanAnew ∈ ww_GW := ww_gw (List.mem_of_getElem? (i := 830) (by decide +kernel)) rfl
theorem wk_X6_329 : ww_vir RX6 329 wy_X5_makePlanAnew 0 := ⟨wc_X5_makePlanAnew, rfl, wm_828, wm_829, wm_830⟩
theorem wm_834 : ww_hd wy_X5_fewestMoves ∈ ww_GW := ww_gw (List.mem_of_getElem? (i := 834) (by decide +kernel)) rfl
theorem wc_X5_fewestMoves : ww_cal wy_X5_fewestMoves 3 := ⟨wm_834, wm_30, ⟨by decide +kernel, by decide +kernel⟩, by decide +kernel, by decide⟩
theorem wm_832 : Cond.methodLink RX5 49 yX5_fewestMoves ∈ ww_GW := ww_gw (List.mem_of_getElem? (i := 832) (by decide +kernel)) rfl
theorem wm_833 : Cond.static yX5_fewestMoves ∈ ww_GW := ww_gw (List.mem_of_getElem? (i := 833) (by decide +kernel)) rfl
theorem wk_X5_49 : ww_sta RX5 49 wy_X5_fewestMoves 3 := ⟨wc_X5_fewestMoves, wm_832, wm_833⟩
theorem wm_835 : Cond.methodLink RX5 91 yJ9_min_7cf53 ∈ ww_GW := ww_gw (List.mem_of_getElem? (i := 835) (by decide +kernel)) rfl
theorem wk_X5_91 : ww_sta RX5 91 wy_J9_min_7cf53 2 := ⟨wc_J9_min_7cf53, wm_835, wm_406⟩
theorem wm_839 : ww_hd wy_X6_road ∈ ww_GW := ww_gw (List.mem_of_getElem? (i := 839) (by decide +kernel)) rfl
theorem wc_X6_road : ww_cal wy_X6_road 2 := ⟨wm_839, wm_25, ⟨by decide +kernel, by decide +kernel⟩, by decide +kernel, by decide⟩
theorem wm_836 : Cond.methodLink RL 25 yX6_road ∈ ww_GW := ww_gw (List.mem_of_getElem? (i := 836) (by decide +kernel)) rfl
theorem wm_837 : Cond.instanceMethod yX6_road ∈ ww_GW := ww_gw (List.mem_of_getElem? (i := 837) (by decide +kernel)) rfl
theorem wm_838 : Cond.selects RX6 yX6_road yX6_road ∈ ww_GW := ww_gw (List.mem_of_getElem? (i := 838) (by decide +kernel)) rfl
theorem wk_L_25 : ww_vir RL 25 wy_X6_road 2 := ⟨wc_X6_road, rfl, wm_836, wm_837, wm_838⟩
theorem wm_844 : ww_hd wy_X5_trainOn ∈ ww_GW := ww_gw (List.mem_of_getElem? (i := 844) (by decide +kernel)) rfl
theorem wc_X5_trainOn : ww_cal wy_X5_trainOn 2 := ⟨wm_844, wm_30, ⟨by decide +kernel, by decide +kernel⟩, by decide +kernel, by decide⟩
theorem wm_841 : Cond.methodLink RX6 334 yX5_trainOn ∈ ww_GW := ww_gw (List.mem_of_getElem? (i := 841) (by decide +kernel)) rfl
theorem wm_842 : Cond.instanceMethod yX5_trainOn ∈ ww_GW := ww_gw (List.mem_of_getElem? (i := 842) (by decide +kernel)) rfl
theorem wm_843 : Cond.selects RX5 yX5_trainOn yX5_trainOn ∈ ww_GW := ww_gw (List.mem_of_getElem? (i := 843) (by decide +kernel)) rfl
theorem wk_X6_334 : ww_vir RX6 334 wy_X5_trainOn 2 := ⟨wc_X5_trainOn, rfl, wm_841, wm_842, wm_843⟩
theorem wm_847 : ww_hd wy_L_cell ∈ ww_GW := ww_gw (List.mem_of_getElem? (i := 847) (by decide +kernel)) rfl
theorem wm_24 : Cond.initialized RL ∈ ww_GW := ww_gw (List.mem_of_getElem? (i := 24) (by decide +kernel)) rfl
theorem wc_L_cell : ww_cal wy_L_cell 2 := ⟨wm_847, wm_24, ⟨by decide +kernel, by decide +kernel⟩, by decide +kernel, by decide⟩
theorem wm_845 : Cond.methodLink RL 39 yL_cell ∈ ww_GW := ww_gw (List.mem_of_getElem? (i := 845) (by decide +kernel)) rfl
theorem wm_846 : Cond.static yL_cell ∈ ww_GW := ww_gw (List.mem_of_getElem? (i := 846) (by decide +kernel)) rfl
theorem wk_L_39 : ww_sta RL 39 wy_L_cell 2 := ⟨wc_L_cell, wm_845, wm_846⟩
theorem wm_850 : ww_hd wy_L_low ∈ ww_GW := ww_gw (List.mem_of_getElem? (i := 850) (by decide +kernel)) rfl
theorem wc_L_low : ww_cal wy_L_low 2 := ⟨wm_850, wm_24, ⟨by decide +kernel, by decide +kernel⟩, by decide +kernel, by decide⟩
theorem wm_848 : Cond.methodLink RL 43 yL_low ∈ ww_GW := ww_gw (List.mem_of_getElem? (i := 848) (by decide +kernel)) rfl
theorem wm_849 : Cond.static yL_low ∈ ww_GW := ww_gw (List.mem_of_getElem? (i := 849) (by decide +kernel)) rfl
theorem wk_L_43 : ww_sta RL 43 wy_L_low 2 := ⟨wc_L_low, wm_848, wm_849⟩
theorem wm_854 : ww_hd wy_L_build ∈ ww_GW := ww_gw (List.mem_of_getElem? (i := 854) (by decide +kernel)) rfl
theorem wc_L_build : ww_cal wy_L_build 1 := ⟨wm_854, wm_24, ⟨by decide +kernel, by decide +kernel⟩, by decide +kernel, by decide⟩
theorem wm_852 : Cond.methodLink RL 29 yL_build ∈ ww_GW := ww_gw (List.mem_of_getElem? (i := 852) (by decide +kernel)) rfl
theorem wm_853 : Cond.static yL_build ∈ ww_GW := ww_gw (List.mem_of_getElem? (i := 853) (by decide +kernel)) rfl
theorem wk_L_29 : ww_sta RL 29 wy_L_build 1 := ⟨wc_L_build, wm_852, wm_853⟩
theorem wm_857 : ww_hd wy_L_inside ∈ ww_GW := ww_gw (List.mem_of_getElem? (i := 857) (by decide +kernel)) rfl
theorem wc_L_inside : ww_cal wy_L_inside 3 := ⟨wm_857, wm_24, ⟨by decide +kernel, by decide +kernel⟩, by decide +kernel, by decide⟩
theorem wm_855 : Cond.methodLink RL 76 yL_inside ∈ ww_GW := ww_gw (List.mem_of_getElem? (i := 855) (by decide +kernel)) rfl
theorem wm_856 : Cond.static yL_inside ∈ ww_GW := ww_gw (List.mem_of_getElem? (i := 856) (by decide +kernel)) rfl
theorem wk_L_76 : ww_sta RL 76 wy_L_inside 3 := ⟨wc_L_inside, wm_855, wm_856⟩
theorem wm_860 : ww_hd wy_L_room ∈ ww_GW := ww_gw (List.mem_of_getElem? (i := 860) (by decide +kernel)) rfl
theorem wc_L_room : ww_cal wy_L_room 2 := ⟨wm_860, wm_24, ⟨by decide +kernel, by decide +kernel⟩, by decide +kernel, by decide⟩
theorem wm_858 : Cond.methodLink RL 80 yL_room ∈ ww_GW := ww_gw (List.mem_of_getElem? (i := 858) (by decide +kernel)) rfl
theorem wm_859 : Cond.static yL_room ∈ ww_GW := ww_gw (List.mem_of_getElem? (i := 859) (by decide +kernel)) rfl
theorem wk_L_80 : ww_sta RL 80 wy_L_room 2 := ⟨wc_L_room, wm_858, wm_859⟩
theorem wm_863 : ww_hd wy_L_stands ∈ ww_GW := ww_gw (List.mem_of_getElem? (i := 863) (by decide +kernel)) rfl
theorem wc_L_stands : ww_cal wy_L_stands 2 := ⟨wm_863, wm_24, ⟨by decide +kernel, by decide +kernel⟩, by decide +kernel, by decide⟩
theorem wm_861 : Cond.methodLink RL 49 yL_stands ∈ ww_GW := ww_gw (List.mem_of_getElem? (i := 861) (by decide +kernel)) rfl
theorem wm_862 : Cond.static yL_stands ∈ ww_GW := ww_gw (List.mem_of_getElem? (i := 862) (by decide +kernel)) rfl
theorem wk_L_49 : ww_sta RL 49 wy_L_stands 2 := ⟨wc_L_stands, wm_861, wm_862⟩
theorem wm_48 : Cond.classLink RL 9 "WheelWorks" ∈ ww_GW := ww_gw (List.mem_of_getElem? (i := 48) (by decide +kernel)) rfl
theorem wm_49 : Cond.instantiable RX6 4 ∈ ww_GW := ww_gw (List.mem_of_getElem? (i := 49) (by decide +kernel)) rfl
theorem wn_L_9 : ww_new RL 9 7 := ⟨(RX6, TX6, 4), tyX6, rfl, rfl, tyX6_ok, by decide +kernel, wu_7, wm_48, wm_49, wm_25⟩
theorem wm_56 : Cond.classLink RX6 7 "java/util/ArrayList" ∈ ww_GW := ww_gw (List.mem_of_getElem? (i := 56) (by decide +kernel)) rfl
theorem wm_57 : Cond.instantiable RJx4a65c 3 ∈ ww_GW := ww_gw (List.mem_of_getElem? (i := 57) (by decide +kernel)) rfl
theorem wn_X6_7 : ww_new RX6 7 0 := ⟨(RJx4a65c, TJx4a65c, 3), tyJx4a65c, rfl, rfl, tyJx4a65c_ok, by decide +kernel, wu_0, wm_56, wm_57, wm_28⟩
theorem wm_82 : Cond.classLink RX6 16 "WheelWorks$KindLimits" ∈ ww_GW := ww_gw (List.mem_of_getElem? (i := 82) (by decide +kernel)) rfl
theorem wm_126 : Cond.instantiable RX1 3 ∈ ww_GW := ww_gw (List.mem_of_getElem? (i := 126) (by decide +kernel)) rfl
theorem wn_X6_16 : ww_new RX6 16 2 := ⟨(RX1, TX1, 3), tyX1, rfl, rfl, tyX1_ok, by decide +kernel, wu_2, wm_82, wm_126, wm_31⟩
theorem wm_84 : Cond.classLink RX6 22 "WheelWorks$Log" ∈ ww_GW := ww_gw (List.mem_of_getElem? (i := 84) (by decide +kernel)) rfl
theorem wm_85 : Cond.instantiable RX2 2 ∈ ww_GW := ww_gw (List.mem_of_getElem? (i := 85) (by decide +kernel)) rfl
theorem wn_X6_22 : ww_new RX6 22 3 := ⟨(RX2, TX2, 2), tyX2, rfl, rfl, tyX2_ok, by decide +kernel, wu_3, wm_84, wm_85, wm_29⟩
theorem wm_90 : Cond.classLink RX2 9 "java/util/ArrayList" ∈ ww_GW := ww_gw (List.mem_of_getElem? (i := 90) (by decide +kernel)) rfl
theorem wn_X2_9 : ww_new RX2 9 0 := ⟨(RJx4a65c, TJx4a65c, 3), tyJx4a65c, rfl, rfl, tyJx4a65c_ok, by decide +kernel, wu_0, wm_90, wm_57, wm_28⟩
theorem wm_100 : Cond.classLink RX6 29 "WheelWorks$Yard" ∈ ww_GW := ww_gw (List.mem_of_getElem? (i := 100) (by decide +kernel)) rfl
theorem wm_101 : Cond.instantiable RX5 5 ∈ ww_GW := ww_gw (List.mem_of_getElem? (i := 101) (by decide +kernel)) rfl
theorem wn_X6_29 : ww_new RX6 29 6 := ⟨(RX5, TX5, 5), tyX5, rfl, rfl, tyX5_ok, by decide +kernel, wu_6, wm_100, wm_101, wm_30⟩
theorem wm_106 : Cond.classLink RX5 9 "java/util/ArrayList" ∈ ww_GW := ww_gw (List.mem_of_getElem? (i := 106) (by decide +kernel)) rfl
theorem wn_X5_9 : ww_new RX5 9 0 := ⟨(RJx4a65c, TJx4a65c, 3), tyJx4a65c, rfl, rfl, tyJx4a65c_ok, by decide +kernel, wu_0, wm_106, wm_57, wm_28⟩
theorem wm_164 : Cond.classLink RX6 45 "java/lang/IllegalArgumentException" ∈ ww_GW := ww_gw (List.mem_of_getElem? (i := 164) (by decide +kernel)) rfl
theorem wm_240 : Cond.classLink RX6 56 "java/lang/IllegalStateException" ∈ ww_GW := ww_gw (List.mem_of_getElem? (i := 240) (by decide +kernel)) rfl
theorem wm_256 : Cond.classLink RX6 61 "WheelWorks$Part" ∈ ww_GW := ww_gw (List.mem_of_getElem? (i := 256) (by decide +kernel)) rfl
theorem wm_257 : Cond.instantiable RX3 18 ∈ ww_GW := ww_gw (List.mem_of_getElem? (i := 257) (by decide +kernel)) rfl
theorem wn_X6_61 : ww_new RX6 61 4 := ⟨(RX3, TX3, 18), tyX3, rfl, rfl, tyX3_ok, by decide +kernel, wu_4, wm_256, wm_257, wm_37⟩
theorem wm_262 : Cond.classLink RX3 31 "WheelWorks$Wheel" ∈ ww_GW := ww_gw (List.mem_of_getElem? (i := 262) (by decide +kernel)) rfl
theorem wm_263 : Cond.instantiable RX4 4 ∈ ww_GW := ww_gw (List.mem_of_getElem? (i := 263) (by decide +kernel)) rfl
theorem wn_X3_31 : ww_new RX3 31 5 := ⟨(RX4, TX4, 4), tyX4, rfl, rfl, tyX4_ok, by decide +kernel, wu_5, wm_262, wm_263, wm_38⟩
theorem wm_402 : Cond.classLink RJ7 110 "[Ljava/lang/Object;" ∈ ww_GW := ww_gw (List.mem_of_getElem? (i := 402) (by decide +kernel)) rfl
theorem wm_404 : Cond.classLink RJ7 2 "java/lang/Object" ∈ ww_GW := ww_gw (List.mem_of_getElem? (i := 404) (by decide +kernel)) rfl
theorem wm_412 : Cond.classLink RJx4a65c 7 "java/lang/Object" ∈ ww_GW := ww_gw (List.mem_of_getElem? (i := 412) (by decide +kernel)) rfl
theorem wm_427 : Cond.classLink RX6 305 "java/lang/IndexOutOfBoundsException" ∈ ww_GW := ww_gw (List.mem_of_getElem? (i := 427) (by decide +kernel)) rfl
theorem wm_487 : Cond.classLink RX2 22 "WheelWorks$Event" ∈ ww_GW := ww_gw (List.mem_of_getElem? (i := 487) (by decide +kernel)) rfl
theorem wm_488 : Cond.instantiable RX0 3 ∈ ww_GW := ww_gw (List.mem_of_getElem? (i := 488) (by decide +kernel)) rfl
theorem wn_X2_22 : ww_new RX2 22 1 := ⟨(RX0, TX0, 3), tyX0, rfl, rfl, tyX0_ok, by decide +kernel, wu_1, wm_487, wm_488, wm_46⟩
theorem wm_683 : Cond.classLink RX5 33 "WheelWorks$Part" ∈ ww_GW := ww_gw (List.mem_of_getElem? (i := 683) (by decide +kernel)) rfl
theorem wn_X5_33 : ww_new RX5 33 4 := ⟨(RX3, TX3, 18), tyX3, rfl, rfl, tyX3_ok, by decide +kernel, wu_4, wm_683, wm_257, wm_37⟩
theorem wm_377 : Cond.constant RJ8 200 (2147483639) ∈ ww_GW := ww_gw (List.mem_of_getElem? (i := 377) (by decide +kernel)) rfl
theorem wm_417 : Cond.constant RX6 70 (99999) ∈ ww_GW := ww_gw (List.mem_of_getElem? (i := 417) (by decide +kernel)) rfl
theorem wm_716 : Cond.constant RJ6 265 (1431655765) ∈ ww_GW := ww_gw (List.mem_of_getElem? (i := 716) (by decide +kernel)) rfl
theorem wm_717 : Cond.constant RJ6 266 (858993459) ∈ ww_GW := ww_gw (List.mem_of_getElem? (i := 717) (by decide +kernel)) rfl
theorem wm_718 : Cond.constant RJ6 267 (252645135) ∈ ww_GW := ww_gw (List.mem_of_getElem? (i := 718) (by decide +kernel)) rfl
theorem wm_851 : Cond.constant RL 7 (2147483647) ∈ ww_GW := ww_gw (List.mem_of_getElem? (i := 851) (by decide +kernel)) rfl
theorem wm_99 : Cond.arrayClass .int ∈ ww_GW := ww_gw (List.mem_of_getElem? (i := 99) (by decide +kernel)) rfl
theorem wm_53 : Cond.methodLink RX6 1 objectInit ∈ ww_GW := ww_gw (List.mem_of_getElem? (i := 53) (by decide +kernel)) rfl
theorem wm_67 : Cond.methodLink RJxa1e45 1 objectInit ∈ ww_GW := ww_gw (List.mem_of_getElem? (i := 67) (by decide +kernel)) rfl
theorem wm_89 : Cond.methodLink RX2 3 objectInit ∈ ww_GW := ww_gw (List.mem_of_getElem? (i := 89) (by decide +kernel)) rfl
theorem wm_105 : Cond.methodLink RX5 3 objectInit ∈ ww_GW := ww_gw (List.mem_of_getElem? (i := 105) (by decide +kernel)) rfl
theorem wm_130 : Cond.methodLink RX1 1 objectInit ∈ ww_GW := ww_gw (List.mem_of_getElem? (i := 130) (by decide +kernel)) rfl
theorem wm_261 : Cond.methodLink RX3 3 objectInit ∈ ww_GW := ww_gw (List.mem_of_getElem? (i := 261) (by decide +kernel)) rfl
theorem wm_267 : Cond.methodLink RX4 3 objectInit ∈ ww_GW := ww_gw (List.mem_of_getElem? (i := 267) (by decide +kernel)) rfl
theorem wm_492 : Cond.methodLink RX0 1 objectInit ∈ ww_GW := ww_gw (List.mem_of_getElem? (i := 492) (by decide +kernel)) rfl
theorem wm_54 : Cond.instanceMethod objectInit ∈ ww_GW := ww_gw (List.mem_of_getElem? (i := 54) (by decide +kernel)) rfl
theorem wm_55 : Cond.code objectInit ⟨#[0xb1]⟩ 1 none ∈ ww_GW := ww_gw (List.mem_of_getElem? (i := 55) (by decide +kernel)) rfl
theorem wm_384 : Cond.methodLink RJ7 86 ⟨"java/lang/Object", "getClass", "()Ljava/lang/Class;"⟩ ∈ ww_GW := ww_gw (List.mem_of_getElem? (i := 384) (by decide +kernel)) rfl
theorem wm_408 : Cond.methodLink RJ7 150 arraycopyName ∈ ww_GW := ww_gw (List.mem_of_getElem? (i := 408) (by decide +kernel)) rfl
theorem wm_747 : Cond.methodLink RJx4a65c 112 arraycopyName ∈ ww_GW := ww_gw (List.mem_of_getElem? (i := 747) (by decide +kernel)) rfl
theorem wm_410 : Cond.native arraycopyName ∈ ww_GW := ww_gw (List.mem_of_getElem? (i := 410) (by decide +kernel)) rfl
theorem wm_409 : Cond.static arraycopyName ∈ ww_GW := ww_gw (List.mem_of_getElem? (i := 409) (by decide +kernel)) rfl
theorem wm_42 : Cond.initialized "java/lang/System" ∈ ww_GW := ww_gw (List.mem_of_getElem? (i := 42) (by decide +kernel)) rfl
theorem wm_398 : Cond.native ⟨"java/lang/Object", "getClass", "()Ljava/lang/Class;"⟩ ∈ ww_GW := ww_gw (List.mem_of_getElem? (i := 398) (by decide +kernel)) rfl
theorem wm_385 : Cond.instanceMethod ⟨"java/lang/Object", "getClass", "()Ljava/lang/Class;"⟩ ∈ ww_GW := ww_gw (List.mem_of_getElem? (i := 385) (by decide +kernel)) rfl
theorem wm_879 : Cond.selects "[Ljava/lang/Object;" ⟨"java/lang/Object", "getClass", "()Ljava/lang/Class;"⟩ ⟨"java/lang/Object", "getClass", "()Ljava/lang/Class;"⟩ ∈ ww_GW := ww_gw (List.mem_of_getElem? (i := 879) (by decide +kernel)) rfl
theorem wm_68 : Cond.fieldLink RJx4a65c 39 RJx4a65c "DEFAULTCAPACITY_EMPTY_ELEMENTDATA" "[Ljava/lang/Object;" ∈ ww_GW := ww_gw (List.mem_of_getElem? (i := 68) (by decide +kernel)) rfl
theorem wx_at_X6_49 : ∀ w ∈ vx_atS RX6 49 "java/lang/IllegalArgumentException" ["java/lang/RuntimeException", "java/lang/Exception"], w ∈ ww_GW ∨ (∃ q ∈ ww_ca, w = .castable q.1 q.2) ∨ (∃ x ∈ ww_de, w = .declares x) := by
  have h : (vx_atS RX6 49 "java/lang/IllegalArgumentException" ["java/lang/RuntimeException", "java/lang/Exception"]).all (fun w => (decide (w ∈ lw_tbl) && goodWord w) || decide (∃ q ∈ ww_ca, w = .castable q.1 q.2) || decide (∃ x ∈ ww_de, w = .declares x)) = true := by decide +kernel
  intro w hw
  have h1 := List.all_eq_true.mp h w hw
  simp only [Bool.or_eq_true, Bool.and_eq_true, decide_eq_true_eq] at h1
  rcases h1 with (h1 | h1) | h1
  · exact Or.inl (ww_gw h1.1 h1.2)
  · exact Or.inr (Or.inl h1)
  · exact Or.inr (Or.inr h1)
theorem wm_35 : Cond.initialized "java/lang/IllegalArgumentException" ∈ ww_GW := ww_gw (List.mem_of_getElem? (i := 35) (by decide +kernel)) rfl
theorem wx_X6_45_47 : ww_thr RX6 45 47 49 "java/lang/IllegalArgumentException" "melt or mod out of range" ["java/lang/RuntimeException", "java/lang/Exception"] := ⟨by decide +kernel, by decide +kernel, wm_164, wm_35, by decide +kernel, wx_at_X6_49, rfl⟩
theorem wx_at_X6_60 : ∀ w ∈ vx_atS RX6 60 "java/lang/IllegalStateException" ["java/lang/RuntimeException", "java/lang/Exception"], w ∈ ww_GW ∨ (∃ q ∈ ww_ca, w = .castable q.1 q.2) ∨ (∃ x ∈ ww_de, w = .declares x) := by
  have h : (vx_atS RX6 60 "java/lang/IllegalStateException" ["java/lang/RuntimeException", "java/lang/Exception"]).all (fun w => (decide (w ∈ lw_tbl) && goodWord w) || decide (∃ q ∈ ww_ca, w = .castable q.1 q.2) || decide (∃ x ∈ ww_de, w = .declares x)) = true := by decide +kernel
  intro w hw
  have h1 := List.all_eq_true.mp h w hw
  simp only [Bool.or_eq_true, Bool.and_eq_true, decide_eq_true_eq] at h1
  rcases h1 with (h1 | h1) | h1
  · exact Or.inl (ww_gw h1.1 h1.2)
  · exact Or.inr (Or.inl h1)
  · exact Or.inr (Or.inr h1)
theorem wm_36 : Cond.initialized "java/lang/IllegalStateException" ∈ ww_GW := ww_gw (List.mem_of_getElem? (i := 36) (by decide +kernel)) rfl
theorem wx_X6_56_58 : ww_thr RX6 56 58 60 "java/lang/IllegalStateException" "no more parts" ["java/lang/RuntimeException", "java/lang/Exception"] := ⟨by decide +kernel, by decide +kernel, wm_240, wm_36, by decide +kernel, wx_at_X6_60, rfl⟩
theorem wx_X6_45_71 : ww_thr RX6 45 71 49 "java/lang/IllegalArgumentException" "life, interval or window out of range" ["java/lang/RuntimeException", "java/lang/Exception"] := ⟨by decide +kernel, by decide +kernel, wm_164, wm_35, by decide +kernel, wx_at_X6_49, rfl⟩
theorem wx_X6_45_94 : ww_thr RX6 45 94 49 "java/lang/IllegalArgumentException" "no place for such a part" ["java/lang/RuntimeException", "java/lang/Exception"] := ⟨by decide +kernel, by decide +kernel, wm_164, wm_35, by decide +kernel, wx_at_X6_49, rfl⟩
theorem wx_X6_56_104 : ww_thr RX6 56 104 60 "java/lang/IllegalStateException" "the part cannot be fitted" ["java/lang/RuntimeException", "java/lang/Exception"] := ⟨by decide +kernel, by decide +kernel, wm_240, wm_36, by decide +kernel, wx_at_X6_60, rfl⟩
theorem wx_X6_56_116 : ww_thr RX6 56 116 60 "java/lang/IllegalStateException" "the host cannot be fitted to" ["java/lang/RuntimeException", "java/lang/Exception"] := ⟨by decide +kernel, by decide +kernel, wm_240, wm_36, by decide +kernel, wx_at_X6_60, rfl⟩
theorem wx_X6_56_127 : ww_thr RX6 56 127 60 "java/lang/IllegalStateException" "the mods are too far apart" ["java/lang/RuntimeException", "java/lang/Exception"] := ⟨by decide +kernel, by decide +kernel, wm_240, wm_36, by decide +kernel, wx_at_X6_60, rfl⟩
theorem wx_X6_56_147 : ww_thr RX6 56 147 60 "java/lang/IllegalStateException" "in no host, or bound" ["java/lang/RuntimeException", "java/lang/Exception"] := ⟨by decide +kernel, by decide +kernel, wm_240, wm_36, by decide +kernel, wx_at_X6_60, rfl⟩
theorem wx_X6_56_152 : ww_thr RX6 56 152 60 "java/lang/IllegalStateException" "not in the store, or not empty" ["java/lang/RuntimeException", "java/lang/Exception"] := ⟨by decide +kernel, by decide +kernel, wm_240, wm_36, by decide +kernel, wx_at_X6_60, rfl⟩
theorem wx_X6_56_158 : ww_thr RX6 56 158 60 "java/lang/IllegalStateException" "bound, or waits for the night" ["java/lang/RuntimeException", "java/lang/Exception"] := ⟨by decide +kernel, by decide +kernel, wm_240, wm_36, by decide +kernel, wx_at_X6_60, rfl⟩
theorem wx_X6_56_166 : ww_thr RX6 56 166 60 "java/lang/IllegalStateException" "not released, or bound" ["java/lang/RuntimeException", "java/lang/Exception"] := ⟨by decide +kernel, by decide +kernel, wm_240, wm_36, by decide +kernel, wx_at_X6_60, rfl⟩
theorem wx_X6_45_188 : ww_thr RX6 45 188 49 "java/lang/IllegalArgumentException" "no bogie" ["java/lang/RuntimeException", "java/lang/Exception"] := ⟨by decide +kernel, by decide +kernel, wm_164, wm_35, by decide +kernel, wx_at_X6_49, rfl⟩
theorem wx_X6_56_194 : ww_thr RX6 56 194 60 "java/lang/IllegalStateException" "not both wheelsets, or bound" ["java/lang/RuntimeException", "java/lang/Exception"] := ⟨by decide +kernel, by decide +kernel, wm_240, wm_36, by decide +kernel, wx_at_X6_60, rfl⟩
theorem wx_X6_45_211 : ww_thr RX6 45 211 49 "java/lang/IllegalArgumentException" "error out of range" ["java/lang/RuntimeException", "java/lang/Exception"] := ⟨by decide +kernel, by decide +kernel, wm_164, wm_35, by decide +kernel, wx_at_X6_49, rfl⟩
theorem wx_X6_56_222 : ww_thr RX6 56 222 60 "java/lang/IllegalStateException" "no examination is possible" ["java/lang/RuntimeException", "java/lang/Exception"] := ⟨by decide +kernel, by decide +kernel, wm_240, wm_36, by decide +kernel, wx_at_X6_60, rfl⟩
theorem wx_X6_45_230 : ww_thr RX6 45 230 49 "java/lang/IllegalArgumentException" "kilometres out of range" ["java/lang/RuntimeException", "java/lang/Exception"] := ⟨by decide +kernel, by decide +kernel, wm_164, wm_35, by decide +kernel, wx_at_X6_49, rfl⟩
theorem wx_X6_56_236 : ww_thr RX6 56 236 60 "java/lang/IllegalStateException" "nothing can be waived" ["java/lang/RuntimeException", "java/lang/Exception"] := ⟨by decide +kernel, by decide +kernel, wm_240, wm_36, by decide +kernel, wx_at_X6_60, rfl⟩
theorem wx_X6_45_238 : ww_thr RX6 45 238 49 "java/lang/IllegalArgumentException" "neither wheelset nor motor" ["java/lang/RuntimeException", "java/lang/Exception"] := ⟨by decide +kernel, by decide +kernel, wm_164, wm_35, by decide +kernel, wx_at_X6_49, rfl⟩
theorem wx_X6_45_240 : ww_thr RX6 45 240 49 "java/lang/IllegalArgumentException" "size out of range" ["java/lang/RuntimeException", "java/lang/Exception"] := ⟨by decide +kernel, by decide +kernel, wm_164, wm_35, by decide +kernel, wx_at_X6_49, rfl⟩
theorem wx_X6_56_246 : ww_thr RX6 56 246 60 "java/lang/IllegalStateException" "cannot be looked at" ["java/lang/RuntimeException", "java/lang/Exception"] := ⟨by decide +kernel, by decide +kernel, wm_240, wm_36, by decide +kernel, wx_at_X6_60, rfl⟩
theorem wx_X6_56_251 : ww_thr RX6 56 251 60 "java/lang/IllegalStateException" "not quarantined, or bound" ["java/lang/RuntimeException", "java/lang/Exception"] := ⟨by decide +kernel, by decide +kernel, wm_240, wm_36, by decide +kernel, wx_at_X6_60, rfl⟩
theorem wx_X6_45_253 : ww_thr RX6 45 253 49 "java/lang/IllegalArgumentException" "melt out of range" ["java/lang/RuntimeException", "java/lang/Exception"] := ⟨by decide +kernel, by decide +kernel, wm_164, wm_35, by decide +kernel, wx_at_X6_49, rfl⟩
theorem wx_X6_45_261 : ww_thr RX6 45 261 49 "java/lang/IllegalArgumentException" "time out of range" ["java/lang/RuntimeException", "java/lang/Exception"] := ⟨by decide +kernel, by decide +kernel, wm_164, wm_35, by decide +kernel, wx_at_X6_49, rfl⟩
theorem wx_X6_56_270 : ww_thr RX6 56 270 60 "java/lang/IllegalStateException" "no room to wait, or waits" ["java/lang/RuntimeException", "java/lang/Exception"] := ⟨by decide +kernel, by decide +kernel, wm_240, wm_36, by decide +kernel, wx_at_X6_60, rfl⟩
theorem wx_X6_56_272 : ww_thr RX6 56 272 60 "java/lang/IllegalStateException" "stands on a road, or is scrapped" ["java/lang/RuntimeException", "java/lang/Exception"] := ⟨by decide +kernel, by decide +kernel, wm_240, wm_36, by decide +kernel, wx_at_X6_60, rfl⟩
theorem wx_X6_56_283 : ww_thr RX6 56 283 60 "java/lang/IllegalStateException" "none waits, or one stands on a road" ["java/lang/RuntimeException", "java/lang/Exception"] := ⟨by decide +kernel, by decide +kernel, wm_240, wm_36, by decide +kernel, wx_at_X6_60, rfl⟩
theorem wx_X6_56_288 : ww_thr RX6 56 288 60 "java/lang/IllegalStateException" "none stands on a road" ["java/lang/RuntimeException", "java/lang/Exception"] := ⟨by decide +kernel, by decide +kernel, wm_240, wm_36, by decide +kernel, wx_at_X6_60, rfl⟩
theorem wx_X6_45_299 : ww_thr RX6 45 299 49 "java/lang/IllegalArgumentException" "no such thing to tell of a part" ["java/lang/RuntimeException", "java/lang/Exception"] := ⟨by decide +kernel, by decide +kernel, wm_164, wm_35, by decide +kernel, wx_at_X6_49, rfl⟩
theorem wx_at_X6_309 : ∀ w ∈ vx_atS RX6 309 "java/lang/IndexOutOfBoundsException" ["java/lang/RuntimeException", "java/lang/Exception"], w ∈ ww_GW ∨ (∃ q ∈ ww_ca, w = .castable q.1 q.2) ∨ (∃ x ∈ ww_de, w = .declares x) := by
  have h : (vx_atS RX6 309 "java/lang/IndexOutOfBoundsException" ["java/lang/RuntimeException", "java/lang/Exception"]).all (fun w => (decide (w ∈ lw_tbl) && goodWord w) || decide (∃ q ∈ ww_ca, w = .castable q.1 q.2) || decide (∃ x ∈ ww_de, w = .declares x)) = true := by decide +kernel
  intro w hw
  have h1 := List.all_eq_true.mp h w hw
  simp only [Bool.or_eq_true, Bool.and_eq_true, decide_eq_true_eq] at h1
  rcases h1 with (h1 | h1) | h1
  · exact Or.inl (ww_gw h1.1 h1.2)
  · exact Or.inr (Or.inl h1)
  · exact Or.inr (Or.inr h1)
theorem wm_43 : Cond.initialized "java/lang/IndexOutOfBoundsException" ∈ ww_GW := ww_gw (List.mem_of_getElem? (i := 43) (by decide +kernel)) rfl
theorem wx_X6_305_307 : ww_thr RX6 305 307 309 "java/lang/IndexOutOfBoundsException" "no such move" ["java/lang/RuntimeException", "java/lang/Exception"] := ⟨by decide +kernel, by decide +kernel, wm_427, wm_43, by decide +kernel, wx_at_X6_309, rfl⟩
theorem wx_X6_45_318 : ww_thr RX6 45 318 49 "java/lang/IllegalArgumentException" "no such thing to tell of a wheelset" ["java/lang/RuntimeException", "java/lang/Exception"] := ⟨by decide +kernel, by decide +kernel, wm_164, wm_35, by decide +kernel, wx_at_X6_49, rfl⟩
theorem wx_X6_305_332 : ww_thr RX6 305 332 309 "java/lang/IndexOutOfBoundsException" "no such road or place" ["java/lang/RuntimeException", "java/lang/Exception"] := ⟨by decide +kernel, by decide +kernel, wm_427, wm_43, by decide +kernel, wx_at_X6_309, rfl⟩
theorem wx_X6_45_337 : ww_thr RX6 45 337 49 "java/lang/IllegalArgumentException" "kilometres or season out of range" ["java/lang/RuntimeException", "java/lang/Exception"] := ⟨by decide +kernel, by decide +kernel, wm_164, wm_35, by decide +kernel, wx_at_X6_49, rfl⟩
theorem wx_X6_45_339 : ww_thr RX6 45 339 49 "java/lang/IllegalArgumentException" "no such kind" ["java/lang/RuntimeException", "java/lang/Exception"] := ⟨by decide +kernel, by decide +kernel, wm_164, wm_35, by decide +kernel, wx_at_X6_49, rfl⟩
theorem wx_X6_305_341 : ww_thr RX6 305 341 309 "java/lang/IndexOutOfBoundsException" "no such part" ["java/lang/RuntimeException", "java/lang/Exception"] := ⟨by decide +kernel, by decide +kernel, wm_427, wm_43, by decide +kernel, wx_at_X6_309, rfl⟩
theorem wx_X6_45_343 : ww_thr RX6 45 343 49 "java/lang/IllegalArgumentException" "no train" ["java/lang/RuntimeException", "java/lang/Exception"] := ⟨by decide +kernel, by decide +kernel, wm_164, wm_35, by decide +kernel, wx_at_X6_49, rfl⟩
theorem wx_X6_45_349 : ww_thr RX6 45 349 49 "java/lang/IllegalArgumentException" "no wheelset" ["java/lang/RuntimeException", "java/lang/Exception"] := ⟨by decide +kernel, by decide +kernel, wm_164, wm_35, by decide +kernel, wx_at_X6_49, rfl⟩
end
section
/-! ===== small things that every walk uses ===== -/
def ww_ret (v0 : Option Value) (M0 : ww_M) : Option Value → ww_M → Prop := fun v M' => v = v0 ∧ M0 = M'
def ww_no : String → ww_M → Prop := fun _ _ => False
def ww_nr : Option Value → ww_M → Prop := fun _ _ => False
def ww_th (E0 : String) (M0 : ww_M) : String → ww_M → Prop := fun E M' => E = E0 ∧ M0 = M'
def ww_is (σ : List Nat × (Nat → Nat) × (Nat → Nat)) (a κ : Nat) : Prop := a ∈ σ.1 ∧ σ.2.1 a = κ
def ww_c1 : List Value → Prop
  | [] => True
  | v :: t => v.category = 1 ∧ ww_c1 t
theorem ww_c1_all : ∀ (av : List Value) (i : Nat), ww_c1 av → ∀ q ∈ lv_args i av, q.2.category = 1
  | [], _, _, q, hq => by cases hq
  | v :: t, i, h, q, hq => by
    unfold lv_args at hq
    rcases List.mem_cons.mp hq with rfl | hq
    · exact h.1
    · exact ww_c1_all t _ h.2 q hq
theorem ww_ent {g : ww_G} {Y : ww_Yd} {d mc ms : Nat} {av : List Value} {M : ww_M} {Q : Option Value → ww_M → Prop} {X : String → ww_M → Prop} (hn : plainName Y.1.cls = true) (hlen : (lg_sl av).length ≤ Y.2.2.1) (hc : ww_c1 av) (k : ww_A g Y d mc ms M 0 (lv_args 0 av) [] Q X) : ww_C g Y d mc ms av M Q X := ww_enter hn hlen (ww_c1_all av 0 hc) k
theorem ww_subk {g : ww_G} {Y : ww_Yd} {d kc ks : Nat} {M : ww_M} {pc : Nat} {lv lv2 : List (Nat × Value)} {st : List Value} {Q : Option Value → ww_M → Prop} {X : String → ww_M → Prop} (k : ww_A g Y d kc ks M pc lv2 st Q X) (h : ww_le lv2 lv) : ww_A g Y d kc ks M pc lv st Q X := ww_sub h k
theorem ww_top {g : ww_G} {Y : ww_Yd} {d kc ks : Nat} {M : ww_M} {pc : Nat} {lv : List (Nat × Value)} {st : List Value} {Q : Option Value → ww_M → Prop} {X : String → ww_M → Prop} {v : Int32} (v' : Int32) (e : v = v') (k : ww_A g Y d kc ks M pc lv (.int v' :: st) Q X) : ww_A g Y d kc ks M pc lv (.int v :: st) Q X := by rw [e]; exact k
theorem ww_pc {g : ww_G} {Y : ww_Yd} {d kc ks : Nat} {M : ww_M} {pc : Nat} {lv : List (Nat × Value)} {st : List Value} {Q : Option Value → ww_M → Prop} {X : String → ww_M → Prop} (pc' : Nat) (e : pc = pc') (k : ww_A g Y d kc ks M pc' lv st Q X) : ww_A g Y d kc ks M pc lv st Q X := by rw [e]; exact k
theorem ww_mem {g : ww_G} {Y : ww_Yd} {d kc ks : Nat} {M : ww_M} {pc : Nat} {lv : List (Nat × Value)} {st : List Value} {Q : Option Value → ww_M → Prop} {X : String → ww_M → Prop} (M' : ww_M) (e : M = M') (k : ww_A g Y d kc ks M' pc lv st Q X) : ww_A g Y d kc ks M pc lv st Q X := by rw [e]; exact k
/-- a choice by P, decided or not -/
noncomputable def q_if {α : Type} (P : Prop) (a b : α) : α := @ite α P (Classical.propDecidable P) a b
theorem q_if_t {α : Type} {P : Prop} {a b : α} (h : P) : q_if P a b = a := @if_pos P (Classical.propDecidable P) h α a b
theorem q_if_f {α : Type} {P : Prop} {a b : α} (h : ¬ P) : q_if P a b = b := @if_neg P (Classical.propDecidable P) h α a b
theorem q_if_cg {α : Type} {P R : Prop} {a b : α} (h : P ↔ R) : q_if P a b = q_if R a b := by rw [propext h]
/-- the truth of P as an int -/
noncomputable def ww_b (P : Prop) : Int32 := q_if P 1 0
theorem ww_b_t {P : Prop} (h : P) : ww_b P = 1 := q_if_t h
theorem ww_b_f {P : Prop} (h : ¬ P) : ww_b P = 0 := q_if_f h
theorem ww_b_ne {P : Prop} (h : ¬ ww_b P = 0) : P := Classical.byContradiction fun z => h (ww_b_f z)
theorem ww_b_eq {P : Prop} (h : ww_b P = 0) : ¬ P := fun z => by rw [ww_b_t z] at h; exact absurd h (by decide)
theorem ww_b_cg {P R : Prop} (h : P ↔ R) : ww_b P = ww_b R := by rw [propext h]
theorem ww_b_nar {P : Prop} : narrow .boolean (.int (ww_b P)) = .int (ww_b P) := by
  by_cases h : P
  · rw [ww_b_t h]; rfl
  · rw [ww_b_f h]; rfl
theorem ww_b_fit {P : Prop} : fits .boolean (.int (ww_b P)) = true := by
  by_cases h : P
  · rw [ww_b_t h]; rfl
  · rw [ww_b_f h]; rfl
theorem ww_b_vn {P : Prop} : vp_nar .boolean (ww_b P) = ww_b P := by
  by_cases h : P
  · rw [ww_b_t h]; rfl
  · rw [ww_b_f h]; rfl
theorem ww_lt {x y : Int32} : x < y ↔ x.toInt < y.toInt := Int32.lt_iff_toInt_lt
theorem ww_le' {x y : Int32} : x ≤ y ↔ x.toInt ≤ y.toInt := Int32.le_iff_toInt_le
theorem ww_eq {x y : Int32} : x = y ↔ x.toInt = y.toInt := Int32.toInt_inj.symm
theorem ww_nat {p : Int32} {n : Nat} (h0 : 0 ≤ p.toInt) (h1 : p.toInt < n) (hn : n < 2 ^ 31) : ∃ j : Nat, j < n ∧ p = nI j := by
  refine ⟨p.toInt.toNat, by omega, ?_⟩
  rw [ww_eq, nI_toInt (by omega)]
  omega
end
