-- ===== PART A: goes FIRST, ahead of the names: the tables' words, and 'selects' of the private methods out of them =====
/-- a private method of a class that the tables say can be made, by its rows of tables_1 -/
def lw_okq (q : MethodName × Nat) : Prop := (q.1.cls ≠ "java/lang/invoke/MethodHandle" ∧ q.1.cls ≠ "java/lang/invoke/VarHandle") ∧ Cond.instantiable q.1.cls q.2 ∈ tables_1 ∧ Cond.privateMethod q.1 ∈ tables_1 ∧ Cond.instanceMethod q.1 ∈ tables_1
theorem lw_p0 : lw_okq (⟨"java/lang/Throwable", "fillInStackTrace", "(I)Ljava/lang/Throwable;"⟩, 6) := ⟨⟨by decide +kernel, by decide +kernel⟩, List.mem_of_getElem? (i := 215) (by decide +kernel), List.mem_of_getElem? (i := 213) (by decide +kernel), List.mem_of_getElem? (i := 214) (by decide +kernel)⟩
theorem lw_p1 : lw_okq (⟨"SurveyHouse", "needNoInterview", "()V"⟩, 8) := ⟨⟨by decide +kernel, by decide +kernel⟩, List.mem_of_getElem? (i := 17) (by decide +kernel), List.mem_of_getElem? (i := 265) (by decide +kernel), List.mem_of_getElem? (i := 266) (by decide +kernel)⟩
theorem lw_p2 : lw_okq (⟨"SurveyHouse", "needAnswer", "(II)V"⟩, 8) := ⟨⟨by decide +kernel, by decide +kernel⟩, List.mem_of_getElem? (i := 17) (by decide +kernel), List.mem_of_getElem? (i := 282) (by decide +kernel), List.mem_of_getElem? (i := 283) (by decide +kernel)⟩
theorem lw_p3 : lw_okq (⟨"SurveyHouse", "needQuestion", "(I)V"⟩, 8) := ⟨⟨by decide +kernel, by decide +kernel⟩, List.mem_of_getElem? (i := 17) (by decide +kernel), List.mem_of_getElem? (i := 310) (by decide +kernel), List.mem_of_getElem? (i := 311) (by decide +kernel)⟩
theorem lw_p4 : lw_okq (⟨"SurveyHouse$Questionnaire", "orEnd", "(I)I"⟩, 5) := ⟨⟨by decide +kernel, by decide +kernel⟩, List.mem_of_getElem? (i := 25) (by decide +kernel), List.mem_of_getElem? (i := 321) (by decide +kernel), List.mem_of_getElem? (i := 322) (by decide +kernel)⟩
theorem lw_p5 : lw_okq (⟨"SurveyHouse", "reweigh", "()V"⟩, 8) := ⟨⟨by decide +kernel, by decide +kernel⟩, List.mem_of_getElem? (i := 17) (by decide +kernel), List.mem_of_getElem? (i := 381) (by decide +kernel), List.mem_of_getElem? (i := 382) (by decide +kernel)⟩
theorem lw_p6 : lw_okq (⟨"SurveyHouse$Weights", "scale", "(LSurveyHouse$Interviews;II)V"⟩, 1) := ⟨⟨by decide +kernel, by decide +kernel⟩, List.mem_of_getElem? (i := 124) (by decide +kernel), List.mem_of_getElem? (i := 407) (by decide +kernel), List.mem_of_getElem? (i := 408) (by decide +kernel)⟩
theorem lw_p7 : lw_okq (⟨"SurveyHouse$Weights", "sumOf", "(LSurveyHouse$Interviews;I)I"⟩, 1) := ⟨⟨by decide +kernel, by decide +kernel⟩, List.mem_of_getElem? (i := 124) (by decide +kernel), List.mem_of_getElem? (i := 411) (by decide +kernel), List.mem_of_getElem? (i := 412) (by decide +kernel)⟩
theorem lw_p8 : lw_okq (⟨"SurveyHouse", "needPerson", "(I)V"⟩, 8) := ⟨⟨by decide +kernel, by decide +kernel⟩, List.mem_of_getElem? (i := 17) (by decide +kernel), List.mem_of_getElem? (i := 437) (by decide +kernel), List.mem_of_getElem? (i := 438) (by decide +kernel)⟩
theorem lw_p9 : lw_okq (⟨"SurveyHouse", "canBeAsked", "(II)Z"⟩, 8) := ⟨⟨by decide +kernel, by decide +kernel⟩, List.mem_of_getElem? (i := 17) (by decide +kernel), List.mem_of_getElem? (i := 457) (by decide +kernel), List.mem_of_getElem? (i := 458) (by decide +kernel)⟩
theorem lw_p10 : lw_okq (⟨"SurveyHouse", "firstToAsk", "(I)I"⟩, 8) := ⟨⟨by decide +kernel, by decide +kernel⟩, List.mem_of_getElem? (i := 17) (by decide +kernel), List.mem_of_getElem? (i := 485) (by decide +kernel), List.mem_of_getElem? (i := 486) (by decide +kernel)⟩
theorem lw_p11 : lw_okq (⟨"SurveyHouse", "isAhead", "(III)Z"⟩, 8) := ⟨⟨by decide +kernel, by decide +kernel⟩, List.mem_of_getElem? (i := 17) (by decide +kernel), List.mem_of_getElem? (i := 489) (by decide +kernel), List.mem_of_getElem? (i := 490) (by decide +kernel)⟩
theorem lw_p12 : lw_okq (⟨"SurveyHouse", "needInterview", "(I)V"⟩, 8) := ⟨⟨by decide +kernel, by decide +kernel⟩, List.mem_of_getElem? (i := 17) (by decide +kernel), List.mem_of_getElem? (i := 536) (by decide +kernel), List.mem_of_getElem? (i := 537) (by decide +kernel)⟩
theorem lw_p13 : lw_okq (⟨"SurveyHouse", "finish", "(I)V"⟩, 8) := ⟨⟨by decide +kernel, by decide +kernel⟩, List.mem_of_getElem? (i := 17) (by decide +kernel), List.mem_of_getElem? (i := 565) (by decide +kernel), List.mem_of_getElem? (i := 566) (by decide +kernel)⟩
theorem lw_p14 : lw_okq (⟨"SurveyHouse$Interviews", "isTooFast", "(I)Z"⟩, 8) := ⟨⟨by decide +kernel, by decide +kernel⟩, List.mem_of_getElem? (i := 92) (by decide +kernel), List.mem_of_getElem? (i := 603) (by decide +kernel), List.mem_of_getElem? (i := 604) (by decide +kernel)⟩
theorem lw_p15 : lw_okq (⟨"SurveyHouse$Interviews", "isStraightLine", "(I)Z"⟩, 8) := ⟨⟨by decide +kernel, by decide +kernel⟩, List.mem_of_getElem? (i := 92) (by decide +kernel), List.mem_of_getElem? (i := 607) (by decide +kernel), List.mem_of_getElem? (i := 608) (by decide +kernel)⟩
def lw_privs_1 : List (MethodName × Nat) := [(⟨"java/lang/Throwable", "fillInStackTrace", "(I)Ljava/lang/Throwable;"⟩, 6), (⟨"SurveyHouse", "needNoInterview", "()V"⟩, 8), (⟨"SurveyHouse", "needAnswer", "(II)V"⟩, 8), (⟨"SurveyHouse", "needQuestion", "(I)V"⟩, 8), (⟨"SurveyHouse$Questionnaire", "orEnd", "(I)I"⟩, 5), (⟨"SurveyHouse", "reweigh", "()V"⟩, 8), (⟨"SurveyHouse$Weights", "scale", "(LSurveyHouse$Interviews;II)V"⟩, 1), (⟨"SurveyHouse$Weights", "sumOf", "(LSurveyHouse$Interviews;I)I"⟩, 1), (⟨"SurveyHouse", "needPerson", "(I)V"⟩, 8), (⟨"SurveyHouse", "canBeAsked", "(II)Z"⟩, 8), (⟨"SurveyHouse", "firstToAsk", "(I)I"⟩, 8), (⟨"SurveyHouse", "isAhead", "(III)Z"⟩, 8), (⟨"SurveyHouse", "needInterview", "(I)V"⟩, 8), (⟨"SurveyHouse", "finish", "(I)V"⟩, 8), (⟨"SurveyHouse$Interviews", "isTooFast", "(I)Z"⟩, 8), (⟨"SurveyHouse$Interviews", "isStraightLine", "(I)Z"⟩, 8)]
theorem lw_r1 : ∀ q ∈ lw_privs_1, lw_okq q := List.forall_mem_cons.mpr ⟨lw_p0, List.forall_mem_cons.mpr ⟨lw_p1, List.forall_mem_cons.mpr ⟨lw_p2, List.forall_mem_cons.mpr ⟨lw_p3, List.forall_mem_cons.mpr ⟨lw_p4, List.forall_mem_cons.mpr ⟨lw_p5, List.forall_mem_cons.mpr ⟨lw_p6, List.forall_mem_cons.mpr ⟨lw_p7, List.forall_mem_cons.mpr ⟨lw_p8, List.forall_mem_cons.mpr ⟨lw_p9, List.forall_mem_cons.mpr ⟨lw_p10, List.forall_mem_cons.mpr ⟨lw_p11, List.forall_mem_cons.mpr ⟨lw_p12, List.forall_mem_cons.mpr ⟨lw_p13, List.forall_mem_cons.mpr ⟨lw_p14, List.forall_mem_cons.mpr ⟨lw_p15, fun _ h => absurd h List.not_mem_nil⟩⟩⟩⟩⟩⟩⟩⟩⟩⟩⟩⟩⟩⟩⟩⟩
theorem lw_p16 : lw_okq (⟨"SurveyHouse", "countAllToAsk", "()I"⟩, 8) := ⟨⟨by decide +kernel, by decide +kernel⟩, List.mem_of_getElem? (i := 17) (by decide +kernel), List.mem_of_getElem? (i := 642) (by decide +kernel), List.mem_of_getElem? (i := 643) (by decide +kernel)⟩
theorem lw_p17 : lw_okq (⟨"SurveyHouse", "countToAsk", "(I)I"⟩, 8) := ⟨⟨by decide +kernel, by decide +kernel⟩, List.mem_of_getElem? (i := 17) (by decide +kernel), List.mem_of_getElem? (i := 646) (by decide +kernel), List.mem_of_getElem? (i := 647) (by decide +kernel)⟩
theorem lw_p18 : lw_okq (⟨"SurveyHouse", "digestCells", "(J)J"⟩, 8) := ⟨⟨by decide +kernel, by decide +kernel⟩, List.mem_of_getElem? (i := 17) (by decide +kernel), List.mem_of_getElem? (i := 752) (by decide +kernel), List.mem_of_getElem? (i := 753) (by decide +kernel)⟩
theorem lw_p19 : lw_okq (⟨"SurveyHouse", "digestPeople", "(J)J"⟩, 8) := ⟨⟨by decide +kernel, by decide +kernel⟩, List.mem_of_getElem? (i := 17) (by decide +kernel), List.mem_of_getElem? (i := 769) (by decide +kernel), List.mem_of_getElem? (i := 770) (by decide +kernel)⟩
theorem lw_p20 : lw_okq (⟨"SurveyHouse", "digestInterviews", "(J)J"⟩, 8) := ⟨⟨by decide +kernel, by decide +kernel⟩, List.mem_of_getElem? (i := 17) (by decide +kernel), List.mem_of_getElem? (i := 774) (by decide +kernel), List.mem_of_getElem? (i := 775) (by decide +kernel)⟩
theorem lw_p21 : lw_okq (⟨"SurveyHouse", "digestQuestions", "(J)J"⟩, 8) := ⟨⟨by decide +kernel, by decide +kernel⟩, List.mem_of_getElem? (i := 17) (by decide +kernel), List.mem_of_getElem? (i := 780) (by decide +kernel), List.mem_of_getElem? (i := 781) (by decide +kernel)⟩
def lw_privs_2 : List (MethodName × Nat) := [(⟨"SurveyHouse", "countAllToAsk", "()I"⟩, 8), (⟨"SurveyHouse", "countToAsk", "(I)I"⟩, 8), (⟨"SurveyHouse", "digestCells", "(J)J"⟩, 8), (⟨"SurveyHouse", "digestPeople", "(J)J"⟩, 8), (⟨"SurveyHouse", "digestInterviews", "(J)J"⟩, 8), (⟨"SurveyHouse", "digestQuestions", "(J)J"⟩, 8)]
theorem lw_r2 : ∀ q ∈ lw_privs_2, lw_okq q := List.forall_mem_cons.mpr ⟨lw_p16, List.forall_mem_cons.mpr ⟨lw_p17, List.forall_mem_cons.mpr ⟨lw_p18, List.forall_mem_cons.mpr ⟨lw_p19, List.forall_mem_cons.mpr ⟨lw_p20, List.forall_mem_cons.mpr ⟨lw_p21, fun _ h => absurd h List.not_mem_nil⟩⟩⟩⟩⟩⟩
def lw_privs : List (MethodName × Nat) := lw_privs_1 ++ (lw_privs_2)
def lw_tbl : List Cond := k2_sels lw_privs ++ tables_1
theorem lw_privs_ok : ∀ q ∈ lw_privs, lw_okq q := by
  show ∀ q ∈ lw_privs_1 ++ (lw_privs_2), lw_okq q
  exact List.forall_mem_append.mpr ⟨lw_r1, lw_r2⟩
-- ===== end of PART A; then your names; then what follows =====
/-! ===== BEGIN words of one list among another's, by their places ===== -/
theorem goodIn_r {big : List Cond} (ws : List Cond) (ps : List Nat) (hp : ws = ps.filterMap (fun i => big[i]?)) (h : ws.all goodWord = true) : GoodIn big ws := by
  intro w hw
  have h1 := List.all_eq_true.mp h w hw
  rw [hp] at hw
  obtain ⟨i, -, hi⟩ := List.mem_filterMap.mp hw
  have hm : w ∈ big := by first | exact List.mem_of_getElem? hi | exact List.getElem?_mem hi
  exact ⟨hm, good_of_word h1⟩
theorem goodIn_app {big a b : List Cond} (ha : GoodIn big a) (hb : GoodIn big b) : GoodIn big (a ++ b) := fun w h => (List.mem_append.mp h).elim (ha w) (hb w)
theorem goodIn_ca {big a b : List Cond} {c : Cond} (ha : GoodIn big (c :: a)) (hb : GoodIn big b) : GoodIn big (c :: (a ++ b)) := fun w h => (List.mem_cons.mp h).elim (fun e => ha w (List.mem_cons.mpr (Or.inl e))) (fun h => (List.mem_append.mp h).elim (fun h => ha w (List.mem_cons.mpr (Or.inr h))) (hb w))
theorem goodIn_sub {big ws : List Cond} (hm : ∀ w ∈ ws, w ∈ big) (h : ws.all goodWord = true) : GoodIn big ws := fun w hw => ⟨hm w hw, good_of_word (List.all_eq_true.mp h w hw)⟩
/-! ===== END ===== -/

/-! ===== BEGIN exceptions that leave a method, and their catching by the caller (launches without stack traces) ===== -/
section VXA
/-! The laws vx_back, vx_callV, vx_callS, vx_callSW, vx_throw0, vx_throwS follow proofs of the library, with one case more: JvmDerived/Free/Laws.lean (Back.of_free), Shelf42/LK1.lean (callV, callS), Shelf/KitTraced.lean (throwNew0V, throwNewS). -/
/-- where a method has thrown q: the class by its name, the cell, what was written, the world -/
def vx_T (XC : String → State → State → Prop) (st : State) (q : Addr) (t : State) (mc ms : Nat) (free : Addr → Prop) : Prop :=
  ∃ (E : String) (ce : Cell) (L : List Loc), XC E st t ∧ t.heap[q]? = some ce ∧ ce.vm = .none ∧ st.vm.findClass E = some ce.cls ∧ st.WarmedH t.vm ∧ st.sameButNew ({ t with vm := st.vm } : State) L mc ms ∧ ∀ z ∈ L, free z.base
def vx_Q (Qc : Array Value → State → Outcome → State → Prop) (XC : String → State → State → Prop) (mc ms : Nat) (free : Addr → Prop) : Array Value → State → Outcome → State → Prop := fun a st o t =>
  (Qc a st o t ∧ ∃ L, FrameEnd st o t L mc ms ∧ ∀ q ∈ L, free q.base) ∨ ∃ q, o = .threw q ∧ vx_T XC st q t mc ms free
/-- a callee that returns or throws -/
def vx_Met (l : Launch) (y : MethodName) (ws : List Cond) (rm : Room) (Pc : Array Value → State → Prop) (Qc : Array Value → State → Outcome → State → Prop) (XC : String → State → State → Prop) (mc ms : Nat) (free : Addr → Prop) : Prop :=
  MetFree l y (headSpec ws rm) Pc (fun _ _ _ _ _ => True) (vx_Q Qc XC mc ms free)
def vx_Post (XC : String → State → State → Prop) (mc ms : Nat) (free : Addr → Prop) : Pt → Array Value → Addr → Pt → Prop := fun A a q B =>
  ∃ (g : JFrame) (mk : MethodId) (t : State) (L : List Loc) (E : String) (ce : Cell), B.U.heap = t.heap ∧ B.U.vm = t.vm ∧ XC E (A.U.calling g mk a) t ∧ t.heap[q]? = some ce ∧ ce.vm = .none ∧ A.U.vm.findClass E = some ce.cls ∧ B.locs = A.locs ++ L ∧ (∀ z ∈ L, free z.base) ∧ B.cells = A.cells + mc ∧ B.slots = A.slots + ms
def vx_Back (l : Launch) (R : Room) (p : Program) (e : Env) (below : List Frame) (s : State) (sargs : Array Value) (y : MethodName) (len W9 : Nat)
    (Pre : Pt → Array Value → Prop) (Post : Pt → Array Value → Option Value → Pt → Prop) (PostX : Pt → Array Value → Addr → Pt → Prop) : Prop :=
  ∀ (m : MethodId) (meth : Method) (c : Code) (A : Pt) (g : JFrame) (ig : Instr) (mk : MethodId) (a : Array Value),
    Stand p l e R s m sargs below meth c A.U A.locs A.cells A.slots → g.method = m → g.locals.size = c.maxLocals → decode c.code g.pc = .ok (ig, len) →
    2 * g.monitorRoom + (g.stack.map fun v => v.category).sum ≤ W9 → A.U.methodNamed? y = some mk → Pre A a →
    (∃ (v : Option Value) (B : Pt), Stand p l e R s m sargs below meth c B.U B.locs B.cells B.slots ∧ Post A a v B ∧
      Steps p.tables e below (doInvoke e (A.U.setTop g) [] mk a).1 (B.U.setTop { g with pc := g.pc + len, stack := v.toList ++ g.stack })) ∨
    (∃ (q : Addr) (B : Pt), Stand p l e R s m sargs below meth c B.U B.locs B.cells B.slots ∧ PostX A a q B ∧
      Steps p.tables e below (doInvoke e (A.U.setTop g) [] mk a).1 ((B.U.setTop g).pushFrame (.throwing q)))
section Payer
variable {l : Launch} {R : Room} {p : Program} {e : Env} {below : List Frame} {s : State} {sargs : Array Value} {y : MethodName} {len W9 : Nat}
theorem vx_back {ws : List Cond} {rm : Room} {Pc : Array Value → State → Prop} {Qc : Array Value → State → Outcome → State → Prop} {XC : String → State → State → Prop} {mc ms : Nat} {free : Addr → Prop} {bytes : ByteArray} {maxL : Nat} {ret : Option FieldType}
    (hM : vx_Met l y ws rm Pc Qc XC mc ms free) (hblind : FrameBlind Pc) (hrc : rm.cells = mc) (hrs : rm.slots = ms)
    (hframes : rm.frames + 1 ≤ R.frames) (hlocals : W9 + (maxL + 11) + rm.locals ≤ R.locals)
    (hws : ∀ w ∈ ws, ∀ a' U, s.WarmedH U.vm → w.before a' U = true) (hcode : Cond.code y bytes maxL ret ∈ ws) (hinit : ∀ a' U, s.WarmedH U.vm → (Cond.initialized y.cls).before a' U = true) :
    vx_Back l R p e below s sargs y len W9 (PreOf R mc ms Pc) (PostOf Qc mc ms free) (vx_Post XC mc ms free) := by
  intro m meth c A g ig mk a X hg hsize hdg hW hn hp
  have h1 : (headSpec ws rm).pre.before a A.U = true := atoms_intro fun w hw => hws w hw _ _ X.warmed
  have h2 : (Cond.code y bytes maxL ret).before a A.U = true := hws _ hcode _ _ X.warmed
  have h3 : (Cond.initialized y.cls).before a A.U = true := hinit _ _ X.warmed
  have h4 : A.cells + (headSpec ws rm).room.cells ≤ R.cells := by rw [show (headSpec ws rm).room.cells = mc from hrc]; exact hp.1
  have h5 : A.slots + (headSpec ws rm).room.slots ≤ R.slots := by rw [show (headSpec ws rm).room.slots = ms from hrs]; exact hp.2.1
  have hPc : Pc a (A.U.calling g mk a) := hblind _ _ _ _ hp.2.2
  obtain ⟨U, Ls, c0, s0⟩ := A
  dsimp only [Pt.U, Pt.locs, Pt.cells, Pt.slots] at h1 h2 h3 h4 h5 X hn hPc ⊢
  obtain ⟨methY, cY, hmY, hcY, -, hlY, -, -, -, -⟩ := Cond.code_spec hn h2
  obtain ⟨kY, hkY, -⟩ := className_of_methodNamed hn
  have hinitY : kY.init = .initialized := Cond.initialized_spec (findClass_of_methodNamed hn) hkY h3
  have h : At U g.method c below := by rw [hg]; exact X.here
  have hlocals9 : W9 + (maxL + 11) + (headSpec ws rm).room.locals ≤ R.locals := hlocals
  have happ : (headSpec ws rm).appliesLoose y e.platform (U.calling g mk a) = true :=
    Spec.appliesLoose_calling (g := g) h hdg hn hkY hinitY
      (X.room_calling (g := g) (R' := (headSpec ws rm).room) hsize hmY hcY hframes (by rw [hlY]; omega) h4 h5) h1
  obtain ⟨mid, hmid⟩ := h.above
  have hfr : (U.setTop g).frames = (.java g :: mid) ++ below := by rw [State.frames_setTop' g h.top, hmid]; rfl
  obtain ⟨o, s₂, hsteps, -, hend, hq⟩ := Steps.callFree hM p X.admits X.cas X.clock (acts := []) hfr happ hPc trivial
  have hq' : vx_Q Qc XC mc ms free a (U.calling g mk a) o s₂ := hq
  rw [State.frames_setTop' g h.top] at hend
  obtain ⟨g₀, hg0⟩ := Option.isSome_iff_exists.mp h.top
  obtain ⟨r, hr⟩ := State.topJava?_eq_some.mp hg0
  have hr' : (({ U with heap := s₂.heap, slotsUsed := s₂.slotsUsed } : State).setVm s₂.vm).frames = .java g₀ :: r := hr
  rcases hq' with ⟨hqc, L, hfe, hL⟩ | ⟨q, rfl, E, ce, L, hx, hce, hcv, hcl, hW₂, hsm, hL⟩
  · obtain ⟨⟨v, rfl⟩, hW₂, e2, q2, q3, q4, q5, q6⟩ := id hfe
    have e3 : s₂ = ({ (U.calling g mk a).setFrames s₂.frames with heap := s₂.heap, slotsUsed := s₂.slotsUsed } : State).setVm s₂.vm := by
      have : s₂ = ({ s₂ with vm := (U.calling g mk a).vm } : State).setVm s₂.vm := rfl
      rw [e2] at this
      exact this
    obtain ⟨c₂, i₂, len₂, hc₂, hd₂, hf₂⟩ := hend
    have hW' : U.WarmedH s₂.vm := hW₂
    have hcc : c₂ = c := by
      have h1 : s₂.code? g.method = U.code? g.method := by
        rw [State.code?_eq, State.code?_eq, hW'.alike.method?]
      exact Option.some.inj (hc₂.symm.trans (h1.trans h.code))
    subst hcc
    have hlen : len₂ = len := by rw [hdg] at hd₂; cases hd₂; rfl
    subst hlen
    have hs₂ : s₂ = (({ U with heap := s₂.heap, slotsUsed := s₂.slotsUsed } : State).setVm s₂.vm).setTop { g with pc := g.pc + len₂, stack := v.toList ++ g.stack } := by
      refine e3.trans ?_
      rw [hf₂, State.calling_eq h.top, State.setFrames_setFrames, State.setTop_of_frames _ hr', hr]
      rfl
    have hsame : U.sameButNew ({ U with heap := s₂.heap, slotsUsed := s₂.slotsUsed } : State) L mc ms := by
      refine ⟨?_, q2, q3, q4, q5, q6⟩
      obtain ⟨t, ht, -⟩ := State.frames_cons hr
      show ({ U with heap := s₂.heap, slotsUsed := s₂.slotsUsed } : State) = { U.setFrames U.frames with heap := s₂.heap, slotsUsed := s₂.slotsUsed }
      rw [State.setFrames_self ht]
    subst hg
    refine Or.inl ⟨v, ⟨(({ U with heap := s₂.heap, slotsUsed := s₂.slotsUsed } : State).setVm s₂.vm), Ls ++ L, c0 + mc, s0 + ms⟩,
      ⟨X.admits, X.cas, X.clock, X.frames, X.room, X.hears, X.method, X.code, (X.here.setHeapUsed s₂.heap s₂.slotsUsed).setVm hW'.alike, X.tail, State.WarmedH.trans X.warmed hW', X.limits, X.bytes, X.same.trans (hsame.setVm s.vm)⟩,
      ⟨g, mk, s₂, L, rfl, rfl, hqc, rfl, hL, rfl, rfl⟩, ?_⟩
    show Steps p.tables e below _ ((({ U with heap := s₂.heap, slotsUsed := s₂.slotsUsed } : State).setVm s₂.vm).setTop { g with pc := g.pc + len₂, stack := v.toList ++ g.stack })
    rw [← hs₂]
    exact hsteps
  · obtain ⟨e2, q2, q3, q4, q5, q6⟩ := id hsm
    have e3 : s₂ = ({ (U.calling g mk a).setFrames s₂.frames with heap := s₂.heap, slotsUsed := s₂.slotsUsed } : State).setVm s₂.vm := by
      have : s₂ = ({ s₂ with vm := (U.calling g mk a).vm } : State).setVm s₂.vm := rfl
      rw [e2] at this
      exact this
    have hf₂ : s₂.frames = .throwing q :: .java g :: U.frames.tail := hend
    have hW' : U.WarmedH s₂.vm := hW₂
    have hs₂ : s₂ = ((({ U with heap := s₂.heap, slotsUsed := s₂.slotsUsed } : State).setVm s₂.vm).setTop g).pushFrame (.throwing q) := by
      refine e3.trans ?_
      rw [hf₂, State.calling_eq h.top, State.setFrames_setFrames, State.pushFrame, State.frames_setTop _ hr', State.setTop_of_frames _ hr', State.setFrames_setFrames, hr]
      rfl
    have hsame : U.sameButNew ({ U with heap := s₂.heap, slotsUsed := s₂.slotsUsed } : State) L mc ms := by
      refine ⟨?_, q2, q3, q4, q5, q6⟩
      obtain ⟨t, ht, -⟩ := State.frames_cons hr
      show ({ U with heap := s₂.heap, slotsUsed := s₂.slotsUsed } : State) = { U.setFrames U.frames with heap := s₂.heap, slotsUsed := s₂.slotsUsed }
      rw [State.setFrames_self ht]
    subst hg
    refine Or.inr ⟨q, ⟨(({ U with heap := s₂.heap, slotsUsed := s₂.slotsUsed } : State).setVm s₂.vm), Ls ++ L, c0 + mc, s0 + ms⟩,
      ⟨X.admits, X.cas, X.clock, X.frames, X.room, X.hears, X.method, X.code, (X.here.setHeapUsed s₂.heap s₂.slotsUsed).setVm hW'.alike, X.tail, State.WarmedH.trans X.warmed hW', X.limits, X.bytes, X.same.trans (hsame.setVm s.vm)⟩,
      ⟨g, mk, s₂, L, E, ce, rfl, rfl, hx, hce, hcv, hcl, rfl, hL, rfl, rfl⟩, ?_⟩
    show Steps p.tables e below _ (((({ U with heap := s₂.heap, slotsUsed := s₂.slotsUsed } : State).setVm s₂.vm).setTop g).pushFrame (.throwing q))
    rw [← hs₂]
    exact hsteps
end Payer
section Calls
variable {p : Program} {l : Launch} {e : Env} {R : Room} {s : State} {m : MethodId} {args : Array Value} {below : List Frame} {meth : Method} {c : Code} {T : State} {locs : List Loc} {cells slots : Nat}
theorem vx_callV (X : Stand p l e R s m args below meth c T locs cells slots) (hexec : p.tables.exec = Jvm.exec) {own C : String} {index : Nat} {y : MethodName} {bytes : ByteArray} {maxL : Nat} {ret : Option FieldType}
    (hown : s.vm.findClass own = some m.cls) (hlink : (Cond.methodLink own index y).before args s = true) (hinst : (Cond.instanceMethod y).before args s = true) (hsel : (Cond.selects C y y).before args s = true)
    (hcode : (Cond.code y bytes maxL ret).before args s = true) (hy : y.cls ≠ "java/lang/invoke/MethodHandle" ∧ y.cls ≠ "java/lang/invoke/VarHandle")
    {W9 : Nat} {Pre : Pt → Array Value → Prop} {Post : Pt → Array Value → Option Value → Pt → Prop} {PostX : Pt → Array Value → Addr → Pt → Prop} (hK : vx_Back l R p e below s args y 3 W9 Pre Post PostX)
    {b : Addr} {cellB : Cell} (hcell : T.heap[b]? = some cellB) (hobj : cellB.vm.isStatics = false) (hcls : s.vm.findClass C = some cellB.cls)
    {g : JFrame} (hg : g.method = m) (hsize : g.locals.size = c.maxLocals) {argsL rest : List Value} (hlen : ∀ sig, parseMethodDescriptor y.desc = some sig → argsL.length = sig.parameters.length)
    (hstack : g.stack = argsL.reverse ++ .ref b :: rest) (hW : 2 * g.monitorRoom + (rest.map fun v => v.category).sum ≤ W9) (hdg : decode c.code g.pc = .ok (.invokevirtual index, 3))
    (hpre : ∀ vm₁, s.WarmedH vm₁ → Pre ⟨T.setVm vm₁, locs, cells, slots⟩ (Value.ref b :: argsL).toArray) :
    (∃ (v : Option Value) (vm₁ : Vm) (B : Pt), s.WarmedH vm₁ ∧ Stand p l e R s m args below meth c B.U B.locs B.cells B.slots ∧ Post ⟨T.setVm vm₁, locs, cells, slots⟩ (Value.ref b :: argsL).toArray v B ∧
      ∀ target, Steps p.tables e below (B.U.setTop { g with pc := g.pc + 3, stack := v.toList ++ rest }) target → Steps p.tables e below (T.setTop g) target) ∨
    (∃ (q : Addr) (vm₁ : Vm) (B : Pt), s.WarmedH vm₁ ∧ Stand p l e R s m args below meth c B.U B.locs B.cells B.slots ∧ PostX ⟨T.setVm vm₁, locs, cells, slots⟩ (Value.ref b :: argsL).toArray q B ∧
      Steps p.tables e below (T.setTop g) ((B.U.setTop { g with stack := rest }).pushFrame (.throwing q))) := by
  obtain ⟨mk, methM, hnamed, hmethM, hstM, habM⟩ := Cond.instanceMethod_spec hinst
  obtain ⟨methM', cM, hmethM', -, -, -, -, -, -, hsigM⟩ := Cond.code_spec hnamed hcode
  cases hmethM.symm.trans hmethM'
  obtain ⟨c2, r2, m2, q1, q2, q3, q4, kP, hkP, hkPi⟩ := Cond.selects_spec hsel
  cases hcls.symm.trans q1
  cases (State.methodFound?_of_named hnamed hy).symm.trans q2
  cases hnamed.symm.trans q3
  have hselP : selectMethod e.platform s.vm cellB.cls mk = .method mk := by rw [Launch.admits_selectMethod X.admits]; exact q4
  obtain ⟨vm₁, X₁, hstep₁⟩ := X.invokevirtual hexec hown hlink hnamed hmethM hstM hkP hkPi hy (a := b) (cell := cellB) hcell
    (fun z h => by rw [h] at hobj; cases hobj) hselP hmethM habM hkP hkPi (g := g) hg (argsL := argsL) (rest := rest) (hlen _ hsigM) hstack hdg
  rcases hK m meth c ⟨T.setVm vm₁, locs, cells, slots⟩ { g with stack := rest } (.invokevirtual index) mk (Value.ref b :: argsL).toArray X₁ hg hsize hdg hW (X₁.named hnamed) (hpre vm₁ X₁.warmed) with ⟨v, B, X', hpost, hsteps⟩ | ⟨q, B, X', hpost, hsteps⟩
  · exact Or.inl ⟨v, vm₁, B, X₁.warmed, X', hpost, fun target h => hstep₁ _ fun acts => by rw [doInvoke_state]; exact hsteps.trans h⟩
  · exact Or.inr ⟨q, vm₁, B, X₁.warmed, X', hpost, hstep₁ _ fun acts => by rw [doInvoke_state]; exact hsteps⟩
theorem vx_callS (X : Stand p l e R s m args below meth c T locs cells slots) (hexec : p.tables.exec = Jvm.exec) {own : String} {index : Nat} {y : MethodName} {bytes : ByteArray} {maxL : Nat} {ret : Option FieldType}
    (hown : s.vm.findClass own = some m.cls) (hlink : (Cond.methodLink own index y).before args s = true) (hstat : (Cond.static y).before args s = true) (hinit : (Cond.initialized y.cls).before args s = true)
    (hcode : (Cond.code y bytes maxL ret).before args s = true) (hy : y.cls ≠ "java/lang/invoke/MethodHandle" ∧ y.cls ≠ "java/lang/invoke/VarHandle")
    {W9 : Nat} {Pre : Pt → Array Value → Prop} {Post : Pt → Array Value → Option Value → Pt → Prop} {PostX : Pt → Array Value → Addr → Pt → Prop} (hK : vx_Back l R p e below s args y 3 W9 Pre Post PostX)
    {g : JFrame} (hg : g.method = m) (hsize : g.locals.size = c.maxLocals) {argsL rest : List Value} (hlen : ∀ sig, parseMethodDescriptor y.desc = some sig → argsL.length = sig.parameters.length)
    (hstack : g.stack = argsL.reverse ++ rest) (hW : 2 * g.monitorRoom + (rest.map fun v => v.category).sum ≤ W9) (hdg : decode c.code g.pc = .ok (.invokestatic index, 3))
    (hpre : ∀ vm₁, s.WarmedH vm₁ → Pre ⟨T.setVm vm₁, locs, cells, slots⟩ argsL.toArray) :
    (∃ (v : Option Value) (vm₁ : Vm) (B : Pt), s.WarmedH vm₁ ∧ Stand p l e R s m args below meth c B.U B.locs B.cells B.slots ∧ Post ⟨T.setVm vm₁, locs, cells, slots⟩ argsL.toArray v B ∧
      ∀ target, Steps p.tables e below (B.U.setTop { g with pc := g.pc + 3, stack := v.toList ++ rest }) target → Steps p.tables e below (T.setTop g) target) ∨
    (∃ (q : Addr) (vm₁ : Vm) (B : Pt), s.WarmedH vm₁ ∧ Stand p l e R s m args below meth c B.U B.locs B.cells B.slots ∧ PostX ⟨T.setVm vm₁, locs, cells, slots⟩ argsL.toArray q B ∧
      Steps p.tables e below (T.setTop g) ((B.U.setTop { g with stack := rest }).pushFrame (.throwing q))) := by
  obtain ⟨mk, hnamed⟩ := Cond.code_named hcode
  obtain ⟨methM, cM, hmethM, -, -, -, -, -, -, hsigM⟩ := Cond.code_spec hnamed hcode
  have hstatic : methM.isStatic = true := Cond.static_spec hnamed hmethM hstat
  obtain ⟨kP, hkP, -⟩ := className_of_methodNamed hnamed
  have hinitP : kP.init = .initialized := Cond.initialized_spec (findClass_of_methodNamed hnamed) hkP hinit
  obtain ⟨vm₁, X₁, hstep₁⟩ := X.invokestatic hexec hown hlink hnamed hmethM hstatic hkP hinitP hy (g := g) hg (argsL := argsL) (rest := rest) (hlen _ hsigM) hstack hdg
  rcases hK m meth c ⟨T.setVm vm₁, locs, cells, slots⟩ { g with stack := rest } (.invokestatic index) mk argsL.toArray X₁ hg hsize hdg hW (X₁.named hnamed) (hpre vm₁ X₁.warmed) with ⟨v, B, X', hpost, hsteps⟩ | ⟨q, B, X', hpost, hsteps⟩
  · exact Or.inl ⟨v, vm₁, B, X₁.warmed, X', hpost, fun target h => hstep₁ _ fun acts => by rw [doInvoke_state]; exact hsteps.trans h⟩
  · exact Or.inr ⟨q, vm₁, B, X₁.warmed, X', hpost, hstep₁ _ fun acts => by rw [doInvoke_state]; exact hsteps⟩
end Calls
theorem vx_cls {s : State} {T : State} {vm₁ : Vm} {E : String} {k : ClassId} (hW : s.WarmedH vm₁) (h : (T.setVm vm₁).vm.findClass E = some k) : s.vm.findClass E = some k := by
  have h1 : vm₁.findClass E = some k := h
  rw [hW.alike.findClass] at h1
  exact h1
/-- the method's frame g, with q thrown over it -/
def vx_W (p : Program) (l : Launch) (e : Env) (R : Room) (s : State) (m : MethodId) (args : Array Value) (below : List Frame) (meth : Method) (c : Code) (H : Heap) (locs : List Loc) (cells slots : Nat) (Q : State → Prop) (g : JFrame) (q : Addr) : Prop :=
  ∀ T : State, T.heap = H → Stand p l e R s m args below meth c T locs cells slots → ∃ t, Steps p.tables e below ((T.setTop g).pushFrame (.throwing q)) t ∧ Q t
def vx_Run (p : Program) (l : Launch) (e : Env) (R : Room) (s : State) (m : MethodId) (args : Array Value) (below : List Frame) (meth : Method) (c : Code) (H : Heap) (locs : List Loc) (cells slots mc ms : Nat) (g : JFrame) (rest : List Value) (Qa : State → Outcome → State → Prop) (XC : String → State → State → Prop) (free : Addr → Prop) : Prop :=
  ∀ T : State, T.heap = H → Stand p l e R s m args below meth c T locs cells slots →
    (∃ (v : Option Value) (st₀ t T' : State) (L : List Loc), st₀.heap = H ∧ Stand p l e R s m args below meth c T' (locs ++ L) (cells + mc) (slots + ms) ∧ (∀ q ∈ L, free q.base) ∧ T'.heap = t.heap ∧ T'.vm = t.vm ∧ Qa st₀ (.returned v) t ∧
      Goes p e below T g T' { g with pc := g.pc + 3, stack := v.toList ++ rest }) ∨
    (∃ (q : Addr) (st₀ t T' : State) (L : List Loc) (E : String) (ce : Cell), st₀.heap = H ∧ Stand p l e R s m args below meth c T' (locs ++ L) (cells + mc) (slots + ms) ∧ (∀ z ∈ L, free z.base) ∧ T'.heap = t.heap ∧ T'.vm = t.vm ∧ XC E st₀ t ∧ t.heap[q]? = some ce ∧ ce.vm = .none ∧ s.vm.findClass E = some ce.cls ∧
      Steps p.tables e below (T.setTop g) ((T'.setTop { g with stack := rest }).pushFrame (.throwing q)))
def vx_X {S : Type} (px : S → Prop) (B : String → S → State → Prop) (A : Nat → Prop) : String → State → State → Prop := fun E st t => ∃ u : S, px u ∧ B E u t ∧ va_F A st t
section Runs
variable {p : Program} {l : Launch} {e : Env} {R : Room} {s : State} {m : MethodId} {args : Array Value} {below : List Frame} {meth : Method} {c : Code} {H : Heap} {locs : List Loc} {cells slots : Nat}
variable {y : MethodName} {bytes cc : ByteArray} {maxL nL mc ms n index : Nat} {ret : Option FieldType} {ws : List Cond} {rm : Room} {Pc : Array Value → State → Prop} {Qc : Array Value → State → Outcome → State → Prop} {XC : String → State → State → Prop} {free : Addr → Prop} {Ts : List Cond} {own C : String} {b : Addr} {As rest : List Value} {g : JFrame}
theorem vx_callBack (cb : CallB R s args own index y bytes maxL ret ws rm mc ms n) (hM : vx_Met l y ws rm Pc Qc XC mc ms free) (hbl : FrameBlind Pc) : vx_Back l R p e below s args y 3 8 (PreOf R mc ms Pc) (PostOf Qc mc ms free) (vx_Post XC mc ms free) := by
  obtain ⟨hrc, hrs, hfr, hlo, hws, hcw, -, hini, -⟩ := cb
  exact vx_back (bytes := bytes) (maxL := maxL) (ret := ret) hM hbl hrc hrs hfr hlo hws hcw (fun a' U hW => word_at hW (Or.inl (by first | rfl | simp [Cond.onTables, Cond.keeps, Cond.steady])) hini)
theorem vx_runV (S : CallFix p m c cc nL s args Ts own) (hM : vx_Met l y ws rm Pc Qc XC mc ms free) (cw : CallW R s args own C index y bytes maxL ret ws rm mc ms n) (hp : PreV s H C b Pc As)
    (hg : g.method = m) (hn : As.length = n) (hsize : g.locals.size = nL) (hstack : g.stack = As.reverse ++ .ref b :: rest) (hW : 2 * g.monitorRoom + (rest.map fun v => v.category).sum ≤ 8) (hdg : decode cc g.pc = .ok (.invokevirtual index, 3)) (hf : cells + mc ≤ R.cells ∧ slots + ms ≤ R.slots) :
    vx_Run p l e R s m args below meth c H locs cells slots mc ms g rest (Qc (Value.ref b :: As).toArray) XC free := by
  have hK : vx_Back l R p e below s args y 3 8 (PreOf R mc ms Pc) (PostOf Qc mc ms free) (vx_Post XC mc ms free) := vx_callBack cw.1 hM hp.1
  obtain ⟨⟨-, -, -, -, -, -, hcode, -, hy, hlen, hl⟩, hin, hse⟩ := cw
  obtain ⟨hx, hb, hml, ho, -⟩ := S
  obtain ⟨-, ⟨cellB, hcB, hoB, hclB⟩, hPc⟩ := hp
  intro T hT X
  rcases vx_callV X hx (C := C) (bytes := bytes) (maxL := maxL) (ret := ret) ho hl hin hse hcode hy hK (by rw [hT]; exact hcB) hoB hclB hg (hsize.trans hml.symm) (argsL := As) (rest := rest) (fun sig h => hn.trans (hlen sig h)) hstack hW (by rw [hb]; exact hdg)
    (fun vm₁ hW₁ => ⟨hf.1, hf.2, hPc (T.setVm vm₁) hT hW₁⟩) with ⟨v, vm₁, ⟨U', l2, c2, s2⟩, hW₁, X', ⟨g', mk, t, L, e1, e2, hq, h1, hL, h2, h3⟩, st⟩ | ⟨q, vm₁, ⟨U', l2, c2, s2⟩, hW₁, X', ⟨g', mk, t, L, E, ce, e1, e2, hq, hce, hcv, hcl, h1, hL, h2, h3⟩, st⟩
  · dsimp only [Pt.U, Pt.locs, Pt.cells, Pt.slots] at X' e1 e2 h1 h2 h3 st
    subst h1; subst h2; subst h3
    exact Or.inl ⟨v, (T.setVm vm₁).calling g' mk (Value.ref b :: As).toArray, t, U', L, hT, X', hL, e1, e2, hq, st⟩
  · dsimp only [Pt.U, Pt.locs, Pt.cells, Pt.slots] at X' e1 e2 h1 h2 h3 st hcl
    subst h1; subst h2; subst h3
    exact Or.inr ⟨q, (T.setVm vm₁).calling g' mk (Value.ref b :: As).toArray, t, U', L, E, ce, hT, X', hL, e1, e2, hq, hce, hcv, vx_cls hW₁ hcl, st⟩
theorem vx_runS (S : CallFix p m c cc nL s args Ts own) (hM : vx_Met l y ws rm Pc Qc XC mc ms free) (cw : CallB R s args own index y bytes maxL ret ws rm mc ms n ∧ (Cond.static y).before args s = true) (hp : PreS s H Pc As)
    (hg : g.method = m) (hn : As.length = n) (hsize : g.locals.size = nL) (hstack : g.stack = As.reverse ++ rest) (hW : 2 * g.monitorRoom + (rest.map fun v => v.category).sum ≤ 8) (hdg : decode cc g.pc = .ok (.invokestatic index, 3)) (hf : cells + mc ≤ R.cells ∧ slots + ms ≤ R.slots) :
    vx_Run p l e R s m args below meth c H locs cells slots mc ms g rest (Qc As.toArray) XC free := by
  have hK : vx_Back l R p e below s args y 3 8 (PreOf R mc ms Pc) (PostOf Qc mc ms free) (vx_Post XC mc ms free) := vx_callBack cw.1 hM hp.1
  obtain ⟨⟨-, -, -, -, -, -, hcode, hini, hy, hlen, hl⟩, hstt⟩ := cw
  obtain ⟨hx, hb, hml, ho, -⟩ := S
  intro T hT X
  rcases vx_callS X hx (bytes := bytes) (maxL := maxL) (ret := ret) ho hl hstt hini hcode hy hK hg (hsize.trans hml.symm) (argsL := As) (rest := rest) (fun sig h => hn.trans (hlen sig h)) hstack hW (by rw [hb]; exact hdg)
    (fun vm₁ hW₁ => ⟨hf.1, hf.2, hp.2 (T.setVm vm₁) hT hW₁⟩) with ⟨v, vm₁, ⟨U', l2, c2, s2⟩, hW₁, X', ⟨g', mk, t, L, e1, e2, hq, h1, hL, h2, h3⟩, st⟩ | ⟨q, vm₁, ⟨U', l2, c2, s2⟩, hW₁, X', ⟨g', mk, t, L, E, ce, e1, e2, hq, hce, hcv, hcl, h1, hL, h2, h3⟩, st⟩
  · dsimp only [Pt.U, Pt.locs, Pt.cells, Pt.slots] at X' e1 e2 h1 h2 h3 st
    subst h1; subst h2; subst h3
    exact Or.inl ⟨v, (T.setVm vm₁).calling g' mk As.toArray, t, U', L, hT, X', hL, e1, e2, hq, st⟩
  · dsimp only [Pt.U, Pt.locs, Pt.cells, Pt.slots] at X' e1 e2 h1 h2 h3 st hcl
    subst h1; subst h2; subst h3
    exact Or.inr ⟨q, (T.setVm vm₁).calling g' mk As.toArray, t, U', L, E, ce, hT, X', hL, e1, e2, hq, hce, hcv, vx_cls hW₁ hcl, st⟩
end Runs
section Rows
variable {p : Program} {l : Launch} {e : Env} {R : Room} {s : State} {m : MethodId} {args : Array Value} {below : List Frame} {meth : Method} {c : Code} {H : Heap} {locs : List Loc} {cells slots : Nat} {Q : State → Prop}
variable {mc ms : Nat} {free : Addr → Prop} {A0 A1 : Nat → Prop} {H0 : Heap} {a : Array Value} {pc : Nat} {ls : Array Slot} {st0 rest : List Value}
theorem vx_keep {st₀ t T' : State} {L : List Loc} (h0 : st₀.heap = H) (e1 : T'.heap = t.heap) (hS : va_S A0 H0 H locs) (hA : ∀ q, q < H.size → A1 q → A0 q) (hf : ∀ q, free q → A0 q) (hL : ∀ q ∈ L, free q.base) (hF : va_F A1 st₀ t) :
    H.size ≤ T'.heap.size ∧ (∀ q : Nat, q < H.size → ¬ A1 q → T'.heap[q]? = H[q]?) ∧ va_S A0 H0 T'.heap (locs ++ L) := by
  obtain ⟨hz, hk⟩ := hF
  rw [h0] at hz hk
  exact ⟨by rw [e1]; exact hz, fun q h1 h2 => by rw [e1]; exact hk q h1 h2,
    ⟨Nat.le_trans hS.1 (by rw [e1]; exact hz), fun q h1 h2 => by rw [e1, hk q (Nat.lt_of_lt_of_le h1 hS.1) (fun z => h2 (hA q (Nat.lt_of_lt_of_le h1 hS.1) z))]; exact hS.2.1 q h1 h2, fun q hq => by
      rcases List.mem_append.mp hq with h | h
      · exact hS.2.2 q h
      · exact hf _ (hL q h)⟩⟩
theorem vx_calli {S SX : Type} {post : Int32 → S → Prop} {px : SX → Prop} {B : S → State → Prop} {BX : String → SX → State → Prop} {AX : Nat → Prop} (hr : vx_Run p l e R s m args below meth c H locs cells slots mc ms (F0 m pc ls st0) rest (va_Qi post B A1 a) (vx_X px BX AX) free) (hS : va_S A0 H0 H locs) (hA : ∀ q, q < H.size → A1 q → A0 q) (hf : ∀ q, free q → A0 q) (hAX : ∀ q, q < H.size → AX q → A0 q)
    (kx : ∀ (E : String) (ce : Cell) (q9 : Addr) (u : SX) (t : State) (H1 : Heap) (locs1 : List Loc), t.heap = H1 → s.vm.Alike t.vm → px u → BX E u t → H.size ≤ H1.size → (∀ q : Nat, q < H.size → ¬ AX q → H1[q]? = H[q]?) → va_S A0 H0 H1 locs1 → H1[q9]? = some ce → ce.vm = .none → s.vm.findClass E = some ce.cls → vx_W p l e R s m args below meth c H1 locs1 (cells + mc) (slots + ms) Q (F0 m pc ls rest) q9)
    (kk : ∀ (r : Int32) (u : S) (t : State) (H1 : Heap) (locs1 : List Loc), t.heap = H1 → s.vm.Alike t.vm → post r u → B u t → H.size ≤ H1.size → (∀ q : Nat, q < H.size → ¬ A1 q → H1[q]? = H[q]?) → va_S A0 H0 H1 locs1 → W p l e R s m args below meth c H1 locs1 (cells + mc) (slots + ms) Q (F0 m (pc + 3) ls (.int r :: rest))) : W p l e R s m args below meth c H locs cells slots Q (F0 m pc ls st0) := by
  intro T hT X
  rcases hr T hT X with ⟨v, st₀, t, T', L, h0, X', hL, e1, e2, ⟨⟨r, u, hv, hp, hb⟩, hF⟩, st⟩ | ⟨q, st₀, t, T', L, E, ce, h0, X', hL, e1, e2, ⟨u, hp, hb, hF⟩, hce, hcv, hcl, st⟩
  · cases hv
    obtain ⟨k1, k2, k3⟩ := vx_keep h0 e1 hS hA hf hL hF
    obtain ⟨t2, a1, b1⟩ := kk r u t T'.heap (locs ++ L) e1.symm (by rw [← e2]; exact X'.warmed.alike) hp hb k1 k2 k3 T' rfl X'
    exact ⟨t2, st t2 a1, b1⟩
  · obtain ⟨k1, k2, k3⟩ := vx_keep h0 e1 hS hAX hf hL hF
    obtain ⟨t2, a1, b1⟩ := kx E ce q u t T'.heap (locs ++ L) e1.symm (by rw [← e2]; exact X'.warmed.alike) hp hb k1 k2 k3 (by rw [e1]; exact hce) hcv hcl T' rfl X'
    exact ⟨t2, st.trans a1, b1⟩
theorem vx_calll {S SX : Type} {post : Int64 → S → Prop} {px : SX → Prop} {B : S → State → Prop} {BX : String → SX → State → Prop} {AX : Nat → Prop} (hr : vx_Run p l e R s m args below meth c H locs cells slots mc ms (F0 m pc ls st0) rest (va_Ql post B A1 a) (vx_X px BX AX) free) (hS : va_S A0 H0 H locs) (hA : ∀ q, q < H.size → A1 q → A0 q) (hf : ∀ q, free q → A0 q) (hAX : ∀ q, q < H.size → AX q → A0 q)
    (kx : ∀ (E : String) (ce : Cell) (q9 : Addr) (u : SX) (t : State) (H1 : Heap) (locs1 : List Loc), t.heap = H1 → s.vm.Alike t.vm → px u → BX E u t → H.size ≤ H1.size → (∀ q : Nat, q < H.size → ¬ AX q → H1[q]? = H[q]?) → va_S A0 H0 H1 locs1 → H1[q9]? = some ce → ce.vm = .none → s.vm.findClass E = some ce.cls → vx_W p l e R s m args below meth c H1 locs1 (cells + mc) (slots + ms) Q (F0 m pc ls rest) q9)
    (kk : ∀ (r : Int64) (u : S) (t : State) (H1 : Heap) (locs1 : List Loc), t.heap = H1 → s.vm.Alike t.vm → post r u → B u t → H.size ≤ H1.size → (∀ q : Nat, q < H.size → ¬ A1 q → H1[q]? = H[q]?) → va_S A0 H0 H1 locs1 → W p l e R s m args below meth c H1 locs1 (cells + mc) (slots + ms) Q (F0 m (pc + 3) ls (.long r :: rest))) : W p l e R s m args below meth c H locs cells slots Q (F0 m pc ls st0) := by
  intro T hT X
  rcases hr T hT X with ⟨v, st₀, t, T', L, h0, X', hL, e1, e2, ⟨⟨r, u, hv, hp, hb⟩, hF⟩, st⟩ | ⟨q, st₀, t, T', L, E, ce, h0, X', hL, e1, e2, ⟨u, hp, hb, hF⟩, hce, hcv, hcl, st⟩
  · cases hv
    obtain ⟨k1, k2, k3⟩ := vx_keep h0 e1 hS hA hf hL hF
    obtain ⟨t2, a1, b1⟩ := kk r u t T'.heap (locs ++ L) e1.symm (by rw [← e2]; exact X'.warmed.alike) hp hb k1 k2 k3 T' rfl X'
    exact ⟨t2, st t2 a1, b1⟩
  · obtain ⟨k1, k2, k3⟩ := vx_keep h0 e1 hS hAX hf hL hF
    obtain ⟨t2, a1, b1⟩ := kx E ce q u t T'.heap (locs ++ L) e1.symm (by rw [← e2]; exact X'.warmed.alike) hp hb k1 k2 k3 (by rw [e1]; exact hce) hcv hcl T' rfl X'
    exact ⟨t2, st.trans a1, b1⟩
theorem vx_callf {S SX : Type} {post : UInt32 → S → Prop} {px : SX → Prop} {B : S → State → Prop} {BX : String → SX → State → Prop} {AX : Nat → Prop} (hr : vx_Run p l e R s m args below meth c H locs cells slots mc ms (F0 m pc ls st0) rest (va_Qf post B A1 a) (vx_X px BX AX) free) (hS : va_S A0 H0 H locs) (hA : ∀ q, q < H.size → A1 q → A0 q) (hf : ∀ q, free q → A0 q) (hAX : ∀ q, q < H.size → AX q → A0 q)
    (kx : ∀ (E : String) (ce : Cell) (q9 : Addr) (u : SX) (t : State) (H1 : Heap) (locs1 : List Loc), t.heap = H1 → s.vm.Alike t.vm → px u → BX E u t → H.size ≤ H1.size → (∀ q : Nat, q < H.size → ¬ AX q → H1[q]? = H[q]?) → va_S A0 H0 H1 locs1 → H1[q9]? = some ce → ce.vm = .none → s.vm.findClass E = some ce.cls → vx_W p l e R s m args below meth c H1 locs1 (cells + mc) (slots + ms) Q (F0 m pc ls rest) q9)
    (kk : ∀ (r : UInt32) (u : S) (t : State) (H1 : Heap) (locs1 : List Loc), t.heap = H1 → s.vm.Alike t.vm → post r u → B u t → H.size ≤ H1.size → (∀ q : Nat, q < H.size → ¬ A1 q → H1[q]? = H[q]?) → va_S A0 H0 H1 locs1 → W p l e R s m args below meth c H1 locs1 (cells + mc) (slots + ms) Q (F0 m (pc + 3) ls (.float r :: rest))) : W p l e R s m args below meth c H locs cells slots Q (F0 m pc ls st0) := by
  intro T hT X
  rcases hr T hT X with ⟨v, st₀, t, T', L, h0, X', hL, e1, e2, ⟨⟨r, u, hv, hp, hb⟩, hF⟩, st⟩ | ⟨q, st₀, t, T', L, E, ce, h0, X', hL, e1, e2, ⟨u, hp, hb, hF⟩, hce, hcv, hcl, st⟩
  · cases hv
    obtain ⟨k1, k2, k3⟩ := vx_keep h0 e1 hS hA hf hL hF
    obtain ⟨t2, a1, b1⟩ := kk r u t T'.heap (locs ++ L) e1.symm (by rw [← e2]; exact X'.warmed.alike) hp hb k1 k2 k3 T' rfl X'
    exact ⟨t2, st t2 a1, b1⟩
  · obtain ⟨k1, k2, k3⟩ := vx_keep h0 e1 hS hAX hf hL hF
    obtain ⟨t2, a1, b1⟩ := kx E ce q u t T'.heap (locs ++ L) e1.symm (by rw [← e2]; exact X'.warmed.alike) hp hb k1 k2 k3 (by rw [e1]; exact hce) hcv hcl T' rfl X'
    exact ⟨t2, st.trans a1, b1⟩
theorem vx_calld {S SX : Type} {post : UInt64 → S → Prop} {px : SX → Prop} {B : S → State → Prop} {BX : String → SX → State → Prop} {AX : Nat → Prop} (hr : vx_Run p l e R s m args below meth c H locs cells slots mc ms (F0 m pc ls st0) rest (va_Qd post B A1 a) (vx_X px BX AX) free) (hS : va_S A0 H0 H locs) (hA : ∀ q, q < H.size → A1 q → A0 q) (hf : ∀ q, free q → A0 q) (hAX : ∀ q, q < H.size → AX q → A0 q)
    (kx : ∀ (E : String) (ce : Cell) (q9 : Addr) (u : SX) (t : State) (H1 : Heap) (locs1 : List Loc), t.heap = H1 → s.vm.Alike t.vm → px u → BX E u t → H.size ≤ H1.size → (∀ q : Nat, q < H.size → ¬ AX q → H1[q]? = H[q]?) → va_S A0 H0 H1 locs1 → H1[q9]? = some ce → ce.vm = .none → s.vm.findClass E = some ce.cls → vx_W p l e R s m args below meth c H1 locs1 (cells + mc) (slots + ms) Q (F0 m pc ls rest) q9)
    (kk : ∀ (r : UInt64) (u : S) (t : State) (H1 : Heap) (locs1 : List Loc), t.heap = H1 → s.vm.Alike t.vm → post r u → B u t → H.size ≤ H1.size → (∀ q : Nat, q < H.size → ¬ A1 q → H1[q]? = H[q]?) → va_S A0 H0 H1 locs1 → W p l e R s m args below meth c H1 locs1 (cells + mc) (slots + ms) Q (F0 m (pc + 3) ls (.double r :: rest))) : W p l e R s m args below meth c H locs cells slots Q (F0 m pc ls st0) := by
  intro T hT X
  rcases hr T hT X with ⟨v, st₀, t, T', L, h0, X', hL, e1, e2, ⟨⟨r, u, hv, hp, hb⟩, hF⟩, st⟩ | ⟨q, st₀, t, T', L, E, ce, h0, X', hL, e1, e2, ⟨u, hp, hb, hF⟩, hce, hcv, hcl, st⟩
  · cases hv
    obtain ⟨k1, k2, k3⟩ := vx_keep h0 e1 hS hA hf hL hF
    obtain ⟨t2, a1, b1⟩ := kk r u t T'.heap (locs ++ L) e1.symm (by rw [← e2]; exact X'.warmed.alike) hp hb k1 k2 k3 T' rfl X'
    exact ⟨t2, st t2 a1, b1⟩
  · obtain ⟨k1, k2, k3⟩ := vx_keep h0 e1 hS hAX hf hL hF
    obtain ⟨t2, a1, b1⟩ := kx E ce q u t T'.heap (locs ++ L) e1.symm (by rw [← e2]; exact X'.warmed.alike) hp hb k1 k2 k3 (by rw [e1]; exact hce) hcv hcl T' rfl X'
    exact ⟨t2, st.trans a1, b1⟩
theorem vx_callv {S SX : Type} {post : S → Prop} {px : SX → Prop} {B : S → State → Prop} {BX : String → SX → State → Prop} {AX : Nat → Prop} (hr : vx_Run p l e R s m args below meth c H locs cells slots mc ms (F0 m pc ls st0) rest (va_Qv post B A1 a) (vx_X px BX AX) free) (hS : va_S A0 H0 H locs) (hA : ∀ q, q < H.size → A1 q → A0 q) (hf : ∀ q, free q → A0 q) (hAX : ∀ q, q < H.size → AX q → A0 q)
    (kx : ∀ (E : String) (ce : Cell) (q9 : Addr) (u : SX) (t : State) (H1 : Heap) (locs1 : List Loc), t.heap = H1 → s.vm.Alike t.vm → px u → BX E u t → H.size ≤ H1.size → (∀ q : Nat, q < H.size → ¬ AX q → H1[q]? = H[q]?) → va_S A0 H0 H1 locs1 → H1[q9]? = some ce → ce.vm = .none → s.vm.findClass E = some ce.cls → vx_W p l e R s m args below meth c H1 locs1 (cells + mc) (slots + ms) Q (F0 m pc ls rest) q9)
    (kk : ∀ (u : S) (t : State) (H1 : Heap) (locs1 : List Loc), t.heap = H1 → s.vm.Alike t.vm → post u → B u t → H.size ≤ H1.size → (∀ q : Nat, q < H.size → ¬ A1 q → H1[q]? = H[q]?) → va_S A0 H0 H1 locs1 → W p l e R s m args below meth c H1 locs1 (cells + mc) (slots + ms) Q (F0 m (pc + 3) ls (rest))) : W p l e R s m args below meth c H locs cells slots Q (F0 m pc ls st0) := by
  intro T hT X
  rcases hr T hT X with ⟨v, st₀, t, T', L, h0, X', hL, e1, e2, ⟨⟨u, hv, hp, hb⟩, hF⟩, st⟩ | ⟨q, st₀, t, T', L, E, ce, h0, X', hL, e1, e2, ⟨u, hp, hb, hF⟩, hce, hcv, hcl, st⟩
  · cases hv
    obtain ⟨k1, k2, k3⟩ := vx_keep h0 e1 hS hA hf hL hF
    obtain ⟨t2, a1, b1⟩ := kk u t T'.heap (locs ++ L) e1.symm (by rw [← e2]; exact X'.warmed.alike) hp hb k1 k2 k3 T' rfl X'
    exact ⟨t2, st t2 a1, b1⟩
  · obtain ⟨k1, k2, k3⟩ := vx_keep h0 e1 hS hAX hf hL hF
    obtain ⟨t2, a1, b1⟩ := kx E ce q u t T'.heap (locs ++ L) e1.symm (by rw [← e2]; exact X'.warmed.alike) hp hb k1 k2 k3 (by rw [e1]; exact hce) hcv hcl T' rfl X'
    exact ⟨t2, st.trans a1, b1⟩
/-- caught by the row x of this method's table; the rows ahead don't take it -/
theorem vx_catch {own name : String} {E : String} {ce : Cell} {q : Addr} (hown : s.vm.findClass own = some m.cls) (pre : List ExceptionTableEntry) (x : ExceptionTableEntry) (suf : List ExceptionTableEntry) (hsplit : c.exceptionTable.toList = pre ++ x :: suf)
    (hpass : ∀ z ∈ pre, covers z pc = false ∨ (z.catchType ≠ 0 ∧ ∃ nm : String, (Cond.classLink own z.catchType nm).before args s = true ∧ va_Nc E nm s)) (hx : covers x pc = true) (h0 : x.catchType ≠ 0)
    (hlink : (Cond.classLink own x.catchType name).before args s = true) (hcast : (Cond.castable E name).before args s = true) (hcell : H[q]? = some ce) (hv : ce.vm = .none) (hcl : s.vm.findClass E = some ce.cls)
    (kk : W p l e R s m args below meth c H locs cells slots Q (F0 m x.handlerPc ls [.ref q])) : vx_W p l e R s m args below meth c H locs cells slots Q (F0 m pc ls rest) q := by
  intro T hT X
  have hpl : e.platform.magicAccessors = ({} : Platform).magicAccessors := by rw [X.admits.platform]
  obtain ⟨c3, c4, hc3, hc4, hasg⟩ := Cond.castable_spec hcast
  cases Option.some.inj (hc3.symm.trans hcl)
  obtain ⟨c5, hc5, hcl5⟩ := Cond.classLink_spec hown hlink e.platform hpl
  cases Option.some.inj (hc4.symm.trans hc5)
  obtain ⟨vm', X', st⟩ := X.thenCaughtThrough q (g := F0 m pc ls rest) rfl (Steps.refl _) (by rw [hT]; exact hcell) (by rw [hv]; rfl) (by obtain ⟨k9, h9, -⟩ := Vm.findClass_spec hcl; exact ⟨k9, h9⟩) pre x suf hsplit
    (fun z hz => by
      rcases hpass z hz with h | ⟨hz0, nm, hl1, hn1⟩
      · exact Or.inl h
      · obtain ⟨c6, hc6, hcl6⟩ := Cond.classLink_spec hown hl1 e.platform hpl
        obtain ⟨a8, b8, h1, h2, h3⟩ := hn1
        cases Option.some.inj (h1.symm.trans hcl)
        cases Option.some.inj (h2.symm.trans hc6)
        exact Or.inr ⟨hz0, _, hcl6, h3⟩) hx (Or.inr ⟨h0, c4, hcl5, hasg⟩)
  obtain ⟨t, a1, b1⟩ := kk (T.setVm vm') hT X'
  exact ⟨t, st.trans a1, b1⟩
end Rows
section Ends
variable {p : Program} {l : Launch} {e : Env} {R : Room} {s : State} {m : MethodId} {args : Array Value} {below : List Frame} {meth : Method} {c : Code} {H : Heap} {locs : List Loc} {cells slots : Nat} {Q : State → Prop}
variable {mc ms : Nat} {free : Addr → Prop} {A0 A1 : Nat → Prop} {H0 : Heap} {a : Array Value} {ls : Array Slot} {st0 rest : List Value}
variable {Qc : Array Value → State → Outcome → State → Prop} {XC : String → State → State → Prop}
/-- what a body that may throw owes at its end -/
def vx_MQ (below : List Frame) (Qc : Array Value → State → Outcome → State → Prop) (XC : String → State → State → Prop) (a : Array Value) (s : State) (mc ms : Nat) (free : Addr → Prop) : State → Prop := fun t =>
  ∃ o, t.status = .running ∧ Ended t below o ∧ vx_Q Qc XC mc ms free a s o t
theorem vx_ret {g : JFrame} {mc ms : Nat} (k : W p l e R s m args below meth c H locs cells slots (MQ below Qc args s mc ms free) g) : W p l e R s m args below meth c H locs cells slots (vx_MQ below Qc XC args s mc ms free) g := by
  intro T hT X
  obtain ⟨t, a1, o, b1, b2, b3, b4⟩ := k T hT X
  exact ⟨t, a1, o, b1, b2, Or.inl ⟨b3, b4⟩⟩
/-- not caught here: it goes on to the caller -/
theorem vx_widen {g : JFrame} {q : Addr} {k n : Nat} (h1 : cells ≤ k) (h2 : slots ≤ n) (kk : vx_W p l e R s m args below meth c H locs k n Q g q) : vx_W p l e R s m args below meth c H locs cells slots Q g q := fun T hT X => kk T hT (stand_widen X h1 h2)
theorem vx_out {pc : Nat} {E : String} {ce : Cell} {q : Addr} {mc ms : Nat} (hout : ∀ x ∈ c.exceptionTable.toList, covers x pc = false) (hlocks : meth.locks = false) (hcell : H[q]? = some ce) (hv : ce.vm = .none) (hcl : s.vm.findClass E = some ce.cls)
    (hx : ∀ t : State, t.heap = H → s.vm.Alike t.vm → XC E s t) (hf : ∀ z ∈ locs, free z.base) (hc : cells ≤ mc) (hs : slots ≤ ms) :
    vx_W p l e R s m args below meth c H locs cells slots (vx_MQ below Qc XC args s mc ms free) (F0 m pc ls rest) q := by
  intro T hT X
  obtain ⟨st1, hrun, hend, hW, hsm⟩ := X.leaveThrown q (g := F0 m pc ls rest) rfl rfl rfl hout hlocks
  have hcell9 : (T.setFrames (.throwing q :: below)).heap[q]? = some ce := by
    show T.heap[q]? = some ce
    rw [hT]; exact hcell
  exact ⟨_, st1, .threw q, hrun, hend, Or.inr ⟨q, rfl, E, ce, locs, hx _ hT hW.alike, hcell9, hv, hcl, hW, hsm.mono hc hs, hf⟩⟩
theorem vx_frame {U : State} {k n : Nat} (h : s.sameButNew ({ U with vm := s.vm } : State) locs k n) : s.heap.size ≤ U.heap.size ∧ ∀ q : Nat, q < s.heap.size → (∀ z ∈ locs, z.base ≠ q) → U.heap[q]? = s.heap[q]? := by
  obtain ⟨-, h2, -, -, -, h6⟩ := h
  refine ⟨h2, fun q hq hz => ?_⟩
  obtain ⟨c9, e1, e2, e3, e4⟩ := h6 q _ (Array.getElem?_eq_getElem hq)
  have hs : c9.slots = (s.heap[q]).slots := Array.ext_getElem? fun i => e4 i fun hm => hz _ hm rfl
  have h9 : c9 = s.heap[q] := by
    rw [hs] at e2
    exact e2
  have e5 : U.heap[q]? = some c9 := e1
  rw [e5, h9, Array.getElem?_eq_getElem hq]
/-- the words of a throw but the four that speak of the heap -/
def vx_no (w : Cond) : Bool := decide (w ≠ .isRef (.static Bundle.tN "UNASSIGNED_STACK" Bundle.steD)) && decide (w ≠ .isRef (.static Bundle.tN "SUPPRESSED_SENTINEL" Bundle.listD)) && decide (w ≠ .laysStatic Bundle.tN "UNASSIGNED_STACK" Bundle.steD) && decide (w ≠ .laysStatic Bundle.tN "SUPPRESSED_SENTINEL" Bundle.listD)
def vx_at0 (own : String) (ic : Nat) (X : String) (names : List String) : List Cond := (Bundle.ownAtoms0 own ic X names).filter vx_no
def vx_atS (own : String) (ic : Nat) (X : String) (names : List String) : List Cond := (Bundle.ownAtoms own ic X names).filter vx_no
/-- a word that the tables alone decide, or a good one -/
def vx_ot (w : Cond) : Bool := w.onTables || goodWord w
theorem vx_ot_at {args a' : Array Value} {s U : State} {w : Cond} (hW : s.WarmedH U.vm) (hvm : s.vm = U.vm) (hg : vx_ot w = true) (h : w.before args s = true) : w.before a' U = true := by
  simp only [vx_ot, Bool.or_eq_true] at hg
  rcases hg with hg | hg
  · exact va_tabs hg hvm h
  · exact word_at hW (good_of_word hg) h
/-- a list's words: the good ones out of the method's own list, the others by premises of their own -/
theorem vx_hat {args : Array Value} {s : State} {L B : List Cond} (h1 : ∀ w ∈ L.filter goodWord, w.before args s = true) (h2 : ∀ w ∈ L.filter (fun w => !goodWord w), w ∈ B) (h3 : ∀ w ∈ B, w.before args s = true) : ∀ w ∈ L, w.before args s = true := by
  intro w hw
  by_cases g : goodWord w = true
  · exact h1 w (List.mem_filter.mpr ⟨hw, g⟩)
  · refine h3 w (h2 w (List.mem_filter.mpr ⟨hw, ?_⟩))
    show (!goodWord w) = true
    cases hgw : goodWord w
    · rfl
    · exact absurd hgw g
theorem vx_c {args : Array Value} {s : State} {w : Cond} {B : List Cond} (h : w.before args s = true) (t : ∀ w ∈ B, w.before args s = true) : ∀ w' ∈ w :: B, w'.before args s = true := fun w' h' => (List.mem_cons.mp h').elim (fun e => by rw [e]; exact h) (t w')
theorem vx_n {args : Array Value} {s : State} : ∀ w ∈ ([] : List Cond), w.before args s = true := fun _ h => nomatch h
theorem vx_own {args : Array Value} {s : State} {L : List Cond} (h1 : ∀ w ∈ L.filter vx_no, w.before args s = true)
    (hU : (Cond.isRef (.static Bundle.tN "UNASSIGNED_STACK" Bundle.steD)).before args s = true) (hN : (Cond.isRef (.static Bundle.tN "SUPPRESSED_SENTINEL" Bundle.listD)).before args s = true)
    (lU : (Cond.laysStatic Bundle.tN "UNASSIGNED_STACK" Bundle.steD).before args s = true) (lN : (Cond.laysStatic Bundle.tN "SUPPRESSED_SENTINEL" Bundle.listD).before args s = true) : ∀ w ∈ L, w.before args s = true := by
  intro w hw
  by_cases e1 : w = .isRef (.static Bundle.tN "UNASSIGNED_STACK" Bundle.steD)
  · rw [e1]; exact hU
  · by_cases e2 : w = .isRef (.static Bundle.tN "SUPPRESSED_SENTINEL" Bundle.listD)
    · rw [e2]; exact hN
    · by_cases e3 : w = .laysStatic Bundle.tN "UNASSIGNED_STACK" Bundle.steD
      · rw [e3]; exact lU
      · by_cases e4 : w = .laysStatic Bundle.tN "SUPPRESSED_SENTINEL" Bundle.listD
        · rw [e4]; exact lN
        · exact h1 w (List.mem_filter.mpr ⟨hw, by unfold vx_no; rw [decide_eq_true e1, decide_eq_true e2, decide_eq_true e3, decide_eq_true e4]; rfl⟩)
/-- where a static field lies, its class's statics cell in H -/
def vx_L (C n d : String) (A : Nat → Prop) (U : State) (H : Heap) : Prop := ∃ (c : ClassId) (k : Class) (i : Nat) (f : Field) (a : Nat) (cell : Cell), U.vm.findClass C = some c ∧ U.fieldFound? C n d = some (c, k, i, f) ∧ f.isStatic = true ∧ k.statics = some a ∧ H[a]? = some cell ∧ cell.vm.isStatics = true ∧ cell.cls = c ∧ f.slot < cell.slots.size ∧ k.staticTypes[f.slot]? = some f.type ∧ ¬ A a
theorem vx_L.moved {C n d : String} {A : Nat → Prop} {u U : State} {H : Heap} (hvm : u.vm.Alike U.vm) (h : vx_L C n d A u H) : vx_L C n d A U H := by
  obtain ⟨c, k, i, f, a, cell, h1, h2, h3, h4, h5, h6, h7, h8, h9, h10⟩ := h
  obtain ⟨k', hi', he⟩ := State.fieldFound?_setVm hvm h2
  exact ⟨c, k', i, f, a, cell, by rw [hvm.findClass]; exact h1, hi', h3, by rw [he]; exact h4, h5, h6, h7, h8, by rw [he]; exact h9, h10⟩
theorem vx_L.kept {C n d : String} {A : Nat → Prop} {U : State} {H H1 : Heap} (h : vx_L C n d A U H) (hq : ∀ a : Nat, a < H.size → ¬ A a → H1[a]? = H[a]?) : vx_L C n d A U H1 := by
  obtain ⟨c, k, i, f, a, cell, h1, h2, h3, h4, h5, h6, h7, h8, h9, h10⟩ := h
  exact ⟨c, k, i, f, a, cell, h1, h2, h3, h4, by rw [hq a (Array.getElem?_eq_some_iff.mp h5).1 h10]; exact h5, h6, h7, h8, h9, h10⟩
theorem vx_L.narrow {C n d : String} {A B : Nat → Prop} {U : State} {H : Heap} (h : vx_L C n d A U H) (hAB : ∀ q, B q → A q) : vx_L C n d B U H := by
  obtain ⟨c, k, i, f, a, cell, h1, h2, h3, h4, h5, h6, h7, h8, h9, h10⟩ := h
  exact ⟨c, k, i, f, a, cell, h1, h2, h3, h4, h5, h6, h7, h8, h9, fun z => h10 (hAB _ z)⟩
theorem vx_L.word {C n d : String} {A : Nat → Prop} {s : State} {args : Array Value} (h : vx_L C n d A s s.heap) : (Cond.laysStatic C n d).before args s = true := by
  obtain ⟨c, k, i, f, a, cell, h1, h2, h3, h4, h5, h6, h7, h8, h9, -⟩ := h
  show (Cond.laysStatic C n d).holds args s none s [] = true
  exact Cond.laysStatic_of h1 h2 h3 h4 h5 h6 h7 h8 h9
/-- .. and what it holds: null or some reference -/
def vx_Zq (C n d : String) (A : Nat → Prop) (U : State) (H : Heap) : Prop := va_Zq C n d A U H ∧ vx_L C n d A U H
theorem vx_Zq.moved {C n d : String} {A : Nat → Prop} {u U : State} {H : Heap} (hvm : u.vm.Alike U.vm) (h : vx_Zq C n d A u H) : vx_Zq C n d A U H := ⟨va_Zq.moved hvm h.1, vx_L.moved hvm h.2⟩
theorem vx_Zq.kept {C n d : String} {A : Nat → Prop} {U : State} {H H1 : Heap} (h : vx_Zq C n d A U H) (hq : ∀ a : Nat, a < H.size → ¬ A a → H1[a]? = H[a]?) : vx_Zq C n d A U H1 := ⟨va_Zq.kept h.1 hq, vx_L.kept h.2 hq⟩
theorem vx_Zq.narrow {C n d : String} {A B : Nat → Prop} {U : State} {H : Heap} (h : vx_Zq C n d A U H) (hAB : ∀ q, B q → A q) : vx_Zq C n d B U H := ⟨va_Zq.narrow h.1 hAB, vx_L.narrow h.2 hAB⟩
theorem vx_Zqof {args : Array Value} {s : State} {C n d : String} {A : Nat → Prop} (hl : (Cond.laysStatic C n d).before args s = true) (hini : (Cond.initialized C).before args s = true) (h : (Cond.isRef (.static C n d)).before args s = true) (hA : ∀ a : Nat, a < s.heap.size → ¬ A a) : vx_Zq C n d A s s.heap := by
  refine ⟨va_Zqof hl hini h hA, ?_⟩
  obtain ⟨c, k, i, f, a, cell, h1, h2, h3, h4, h5, h6, h7, h8, h9⟩ := Cond.laysStatic_spec hl
  exact ⟨c, k, i, f, a, cell, h1, h2, h3, h4, h5, h6, h7, h8, h9, hA a (Array.getElem?_eq_some_iff.mp h5).1⟩
theorem vx_isRef {C n d : String} {v : Value} {A : Nat → Prop} {s : State} {args : Array Value} (h : va_Z C n d v A s s.heap) (hv : v.isRef = true) : (Cond.isRef (.static C n d)).before args s = true := by
  obtain ⟨cf, kf, fi, f, a, cell, h1, h2, h3, h4, h5, h6, h7, -⟩ := h
  have he : (Term.static C n d).eval args s none [] s = some v := by
    simp [Term.eval, State.fieldNamed?, h1, h2, h4, h5, h6, h7]
  simp only [Cond.before, Cond.holds, Cond.value, he]
  cases v <;> simp_all [Value.isRef]
theorem vx_isRefq {C n d : String} {A : Nat → Prop} {s : State} {args : Array Value} (h : va_Zq C n d A s s.heap) : (Cond.isRef (.static C n d)).before args s = true := by
  rcases h with h | ⟨t, h⟩
  · exact vx_isRef h rfl
  · exact vx_isRef h rfl
/-- the same frame, seen from here: as if the method were called anew in this heap -/
theorem vx_rebase {T : State} (X : Stand p l e R s m args below meth c T locs cells slots) {R' : Room} (hf : R'.frames ≤ R.frames) (hl : R'.locals ≤ R.locals) (hc : cells + R'.cells ≤ R.cells) (hs : slots + R'.slots ≤ R.slots) :
    Stand p l e R' ((T.setVm s.vm).setFrames (.invoking m args :: below)) m args below meth c T [] 0 0 := by
  have htop : (T.setVm s.vm).topJava?.isSome := X.here.top
  have hF : ((T.setVm s.vm).setFrames (.invoking m args :: below)).frames = .invoking m args :: below := State.frames_setFrames _ (State.cur_lt_of_top htop)
  obtain ⟨g₀, hg0⟩ := Option.isSome_iff_exists.mp htop
  obtain ⟨r, hr⟩ := State.topJava?_eq_some.mp hg0
  have hl9 : e.platform.stackLimits (T.setVm s.vm).me = e.platform.stackLimits s.me := X.limits
  have hb9 : (T.setVm s.vm).me.stackBytes = s.me.stackBytes := X.bytes
  refine ⟨X.admits, X.cas, X.clock, hF, ?_, X.hears, X.method, X.code, X.here, X.tail, X.warmed, ?_, ?_, ?_⟩
  · have h := X.room
    have hU : ((T.setVm s.vm).setFrames (.invoking m args :: below)).localsInUse = s.localsInUse := by
      rw [State.localsInUse_invoking hF (meth := meth) (c := c) X.method X.code, State.localsInUse_invoking X.frames X.method X.code]
    simp only [State.hasRoom, Bool.and_eq_true, decide_eq_true_eq] at h ⊢
    obtain ⟨⟨⟨⟨h1, h2, h3, h4, h5, h6⟩, h7⟩, h8⟩, h9⟩ := h
    rw [X.frames, List.length_cons] at h2 h3
    have q1 := X.heapSize
    have q2 := X.used
    simp only [hF, hU, List.length_cons, State.stackLimits_setFrames, State.stackBytes_setFrames, hl9, hb9]
    refine ⟨⟨⟨⟨by omega, by omega, by omega, by omega, by omega, h6⟩, ?_⟩, ?_⟩, X.book⟩
    · show T.heap.size + R'.cells ≤ e.platform.maxCells
      omega
    · show T.slotsUsed + R'.slots ≤ e.platform.maxSlots
      omega
  · rw [State.stackLimits_setFrames]; rfl
  · rw [State.stackBytes_setFrames]; rfl
  · refine ⟨?_, Nat.le_refl _, Nat.le_refl _, ?_, ?_, fun a c9 h9 => ⟨c9, h9, rfl, rfl, fun _ _ => rfl⟩⟩
    · obtain ⟨t, ht, -⟩ := State.frames_cons hr
      show T.setVm s.vm = { ((T.setVm s.vm).setFrames (.invoking m args :: below)).setFrames (T.setVm s.vm).frames with heap := T.heap, slotsUsed := T.slotsUsed }
      rw [State.setFrames_setFrames, State.setFrames_self ht]
      rfl
    · show T.slotsUsed = T.slotsUsed + ((T.heap.toList.drop T.heap.size).map (·.slots.size)).sum
      rw [List.drop_eq_nil_of_le (Nat.le_of_eq Array.length_toList)]
      rfl
    · show ((T.heap.toList.drop T.heap.size).map (·.slots.size)).sum ≤ 0
      rw [List.drop_eq_nil_of_le (Nat.le_of_eq Array.length_toList)]
      exact Nat.le_refl _
/-- 'throw new E()': new; dup; invokespecial; athrow -/
theorem vx_throw0 {cc : ByteArray} {pc : Nat} (hexec : p.tables.exec = Jvm.exec) (hb : c.code = cc) (hl : l.stackTraces = false) {own cls : String} {names : List String} {ik ic mc ms : Nat} {A : Nat → Prop}
    (hown : s.vm.findClass own = some m.cls) (hcls : Bundle.fit cls = true) (hnames : ∀ n ∈ names, Bundle.fit n = true)
    (hk : (Cond.classLink own ik cls).before args s = true) (hini : (Cond.initialized cls).before args s = true) (hat : ∀ w ∈ vx_at0 own ic cls names, w.before args s = true)
    (hgood : ∀ w ∈ Cond.classLink own ik cls :: Cond.initialized cls :: vx_at0 own ic cls names, vx_ot w = true)
    (hU : vx_Zq Bundle.tN "UNASSIGNED_STACK" Bundle.steD A s s.heap) (hN : vx_Zq Bundle.tN "SUPPRESSED_SENTINEL" Bundle.listD A s s.heap) (hS : va_S A s.heap H locs) (hsize : ls.size = c.maxLocals)
    (d0 : decode cc pc = .ok (.new ik, 3)) (d3 : decode cc (pc + 3) = .ok (.dup, 1)) (d4 : decode cc (pc + 4) = .ok (.invokespecial ic, 3)) (d7 : decode cc (pc + 7) = .ok (.athrow, 1))
    (hout : ∀ x ∈ c.exceptionTable.toList, covers x (pc + 7) = false)
    (hRframes : names.length + 3 < R.frames) (hRlocals : (rest.map fun v => v.category).sum + (13 * (names.length + 1) + 42) ≤ R.locals) (hRcells : cells + 1 ≤ R.cells) (hRslots : slots + 6 ≤ R.slots) (hlocks : meth.locks = false)
    (hx : ∀ t : State, s.vm.Alike t.vm → H.size ≤ t.heap.size → (∀ q : Nat, q < H.size → t.heap[q]? = H[q]?) → XC cls s t)
    (hf : ∀ z ∈ locs, free z.base) (hc : cells + 1 ≤ mc) (hs : slots + 6 ≤ ms) :
    W p l e R s m args below meth c H locs cells slots (vx_MQ below Qc XC args s mc ms free) (F0 m pc ls rest) := by
  intro T hT X
  have htr : e.platform.stackTraces = false := (show e.platform.stackTraces = l.stackTraces by rw [X.admits.platform]).trans hl
  have Y := vx_rebase X (R' := { frames := R.frames, locals := R.locals, cells := 1, slots := 6 }) (Nat.le_refl _) (Nat.le_refl _) hRcells hRslots
  obtain ⟨s', hA⟩ : ∃ z, z = (T.setVm s.vm).setFrames (.invoking m args :: below) := ⟨_, rfl⟩
  rw [← hA] at Y
  have hvm : s'.vm = s.vm := by rw [hA]; rfl
  have hhp : s'.heap = H := by rw [hA]; exact hT
  have hW0 : s.WarmedH s'.vm := by rw [hvm]; exact State.WarmedH.refl s
  have hat' : ∀ w ∈ vx_at0 own ic cls names, w.before args s' = true := fun w hw => vx_ot_at hW0 hvm.symm (hgood w (List.mem_cons_of_mem _ (List.mem_cons_of_mem _ hw))) (hat w hw)
  have hk' : (Cond.classLink own ik cls).before args s' = true := vx_ot_at hW0 hvm.symm (hgood _ List.mem_cons_self) hk
  have hini' : (Cond.initialized cls).before args s' = true := vx_ot_at hW0 hvm.symm (hgood _ (List.mem_cons_of_mem _ List.mem_cons_self)) hini
  have hU' : vx_Zq Bundle.tN "UNASSIGNED_STACK" Bundle.steD A s' s'.heap := by rw [hhp]; exact vx_Zq.moved hW0.alike (hU.kept hS.2.1)
  have hN' : vx_Zq Bundle.tN "SUPPRESSED_SENTINEL" Bundle.listD A s' s'.heap := by rw [hhp]; exact vx_Zq.moved hW0.alike (hN.kept hS.2.1)
  have h : ∀ w ∈ Bundle.ownAtoms0 own ic cls names, w.before args s' = true := vx_own hat' (vx_isRefq hU'.1) (vx_isRefq hN'.1) hU'.2.word hN'.2.word
  have hown' : s'.vm.findClass own = some m.cls := by rw [hvm]; exact hown
  have hins : (Cond.instantiable cls 6).before args s' = true := h _ (by simp [Bundle.ownAtoms0])
  obtain ⟨vm₁, cX, kX, hfX, hkX, -, -, X₁, st1⟩ := Y.newCold hexec (own := own) (C := cls) (index := ik) (n := 6) hown' hk' hins hini'
    (g := F0 m pc ls rest) rfl (by rw [hb]; exact d0) (Nat.le_refl _) (Nat.le_refl _)
  generalize hT1 : (T.setVm vm₁).pushCell { cls := cX, slots := kX.instanceTypes.map defaultValue, vm := .none } = T1 at X₁ st1
  have hcat : (Value.ref T.heap.size).category = 1 := rfl
  have hcellA : T1.heap[T.heap.size]? = some (freshCell cX kX) := by rw [← hT1]; exact State.heap_pushCell_size _ _
  have d3' : decode c.code (pc + 3) = .ok (.dup, 1) := by rw [hb]; exact d3
  obtain ⟨U, hsteps, hrun, hend, hW, hsame, ce, hce, hO⟩ := X₁.ctorThrow0 hexec htr (own := own) (cls := cls) (names := names) (ic := ic) hown' hcls hnames h (fun x hx => nomatch hx) hfX hkX hcellA (by rw [hhp, hT]; exact Nat.le_refl _)
    (g := { method := m, pc := pc + 4, locals := ls, stack := .ref T.heap.size :: .ref T.heap.size :: rest, locked := none }) rfl hsize rfl rfl (rest := rest) rfl
    (by rw [hb]; exact d4) (by rw [hb]; exact d7) hout hRframes (by simp only [List.map_cons, List.sum_cons, hcat]; omega) hlocks
  obtain ⟨f1, f2⟩ := vx_frame hsame
  rw [hhp] at f1 f2
  have hWs : s.WarmedH U.vm := State.WarmedH.trans hW0 hW
  have hcl : s.vm.findClass cls = some ce.cls := by
    have h9 := hO.cls
    rw [hvm] at h9
    exact h9
  have hall : s.sameButNew ({ U with vm := s.vm } : State) locs mc ms := by
    subst hA
    obtain ⟨e1, e2⟩ := hsame
    rw [State.setFrames_setFrames] at e1
    have h2 : (T.setVm s.vm).sameButNew ({ U with vm := s.vm } : State) [] (0 + 1) (0 + 6) := ⟨e1, e2⟩
    have h3 := X.same.trans h2
    rw [List.append_nil] at h3
    exact h3.mono hc hs
  refine ⟨U, ?_, .threw T.heap.size, hrun, hend, Or.inr ⟨T.heap.size, rfl, cls, ce, locs, hx U hWs.alike f1 (fun q hq => f2 q hq (fun z hz => nomatch hz)), hce, hO.vm, hcl, hWs, hall, hf⟩⟩
  refine st1 _ ?_
  show Steps p.tables e below (T1.setTop { method := m, pc := pc + 3, locals := ls, stack := .ref T.heap.size :: rest, locked := none }) _
  jvm_step X₁.here [X₁.here.top, hexec, d3', Value.category]
  exact hsteps
/-- 'throw new E("text")': new; dup; ldc; invokespecial; athrow -/
theorem vx_throwS {cc : ByteArray} {pc : Nat} (hexec : p.tables.exec = Jvm.exec) (hb : c.code = cc) (hl : l.stackTraces = false) {own cls text : String} {names : List String} {ik is ic mc ms sa : Nat} {A : Nat → Prop}
    (hown : s.vm.findClass own = some m.cls) (hcls : Bundle.fit cls = true) (hnames : ∀ n ∈ names, Bundle.fit n = true)
    (hk : (Cond.classLink own ik cls).before args s = true) (hini : (Cond.initialized cls).before args s = true) (hstr : vk_R own is text sa s) (hat : ∀ w ∈ vx_atS own ic cls names, w.before args s = true)
    (hgood : ∀ w ∈ Cond.classLink own ik cls :: Cond.initialized cls :: vx_atS own ic cls names, vx_ot w = true)
    (hU : vx_Zq Bundle.tN "UNASSIGNED_STACK" Bundle.steD A s s.heap) (hN : vx_Zq Bundle.tN "SUPPRESSED_SENTINEL" Bundle.listD A s s.heap) (hS : va_S A s.heap H locs) (hsize : ls.size = c.maxLocals)
    (d0 : decode cc pc = .ok (.new ik, 3)) (d3 : decode cc (pc + 3) = .ok (.dup, 1)) (d4 : decode cc (pc + 4) = .ok (.ldc is, 2)) (d6 : decode cc (pc + 6) = .ok (.invokespecial ic, 3)) (d9 : decode cc (pc + 9) = .ok (.athrow, 1))
    (hout : ∀ x ∈ c.exceptionTable.toList, covers x (pc + 9) = false)
    (hRframes : names.length + 3 < R.frames) (hRlocals : (rest.map fun v => v.category).sum + (13 * (names.length + 1) + 43) ≤ R.locals) (hRcells : cells + 1 ≤ R.cells) (hRslots : slots + 6 ≤ R.slots) (hlocks : meth.locks = false)
    (hx : ∀ t : State, s.vm.Alike t.vm → H.size ≤ t.heap.size → (∀ q : Nat, q < H.size → t.heap[q]? = H[q]?) → XC cls s t)
    (hf : ∀ z ∈ locs, free z.base) (hc : cells + 1 ≤ mc) (hs : slots + 6 ≤ ms) :
    W p l e R s m args below meth c H locs cells slots (vx_MQ below Qc XC args s mc ms free) (F0 m pc ls rest) := by
  intro T hT X
  have htr : e.platform.stackTraces = false := (show e.platform.stackTraces = l.stackTraces by rw [X.admits.platform]).trans hl
  have Y := vx_rebase X (R' := { frames := R.frames, locals := R.locals, cells := 1, slots := 6 }) (Nat.le_refl _) (Nat.le_refl _) hRcells hRslots
  obtain ⟨s', hA⟩ : ∃ z, z = (T.setVm s.vm).setFrames (.invoking m args :: below) := ⟨_, rfl⟩
  rw [← hA] at Y
  have hvm : s'.vm = s.vm := by rw [hA]; rfl
  have hhp : s'.heap = H := by rw [hA]; exact hT
  have hW0 : s.WarmedH s'.vm := by rw [hvm]; exact State.WarmedH.refl s
  have hat' : ∀ w ∈ vx_atS own ic cls names, w.before args s' = true := fun w hw => vx_ot_at hW0 hvm.symm (hgood w (List.mem_cons_of_mem _ (List.mem_cons_of_mem _ hw))) (hat w hw)
  have hk' : (Cond.classLink own ik cls).before args s' = true := vx_ot_at hW0 hvm.symm (hgood _ List.mem_cons_self) hk
  have hini' : (Cond.initialized cls).before args s' = true := vx_ot_at hW0 hvm.symm (hgood _ (List.mem_cons_of_mem _ List.mem_cons_self)) hini
  have hU' : vx_Zq Bundle.tN "UNASSIGNED_STACK" Bundle.steD A s' s'.heap := by rw [hhp]; exact vx_Zq.moved hW0.alike (hU.kept hS.2.1)
  have hN' : vx_Zq Bundle.tN "SUPPRESSED_SENTINEL" Bundle.listD A s' s'.heap := by rw [hhp]; exact vx_Zq.moved hW0.alike (hN.kept hS.2.1)
  have h : ∀ w ∈ Bundle.ownAtoms own ic cls names, w.before args s' = true := vx_own hat' (vx_isRefq hU'.1) (vx_isRefq hN'.1) hU'.2.word hN'.2.word
  have hown' : s'.vm.findClass own = some m.cls := by rw [hvm]; exact hown
  have hins : (Cond.instantiable cls 6).before args s' = true := h _ (by simp [Bundle.ownAtoms])
  obtain ⟨vm₁, cX, kX, hfX, hkX, -, -, X₁, st1⟩ := Y.newCold hexec (own := own) (C := cls) (index := ik) (n := 6) hown' hk' hins hini'
    (g := F0 m pc ls rest) rfl (by rw [hb]; exact d0) (Nat.le_refl _) (Nat.le_refl _)
  generalize hT1 : (T.setVm vm₁).pushCell { cls := cX, slots := kX.instanceTypes.map defaultValue, vm := .none } = T1 at X₁ st1
  have hcat : (Value.ref T.heap.size).category = 1 := rfl
  have hcellA : T1.heap[T.heap.size]? = some (freshCell cX kX) := by rw [← hT1]; exact State.heap_pushCell_size _ _
  have d3' : decode c.code (pc + 3) = .ok (.dup, 1) := by rw [hb]; exact d3
  have d4' : decode c.code (pc + 4) = .ok (.ldc is, 2) := by rw [hb]; exact d4
  have hstr' : vk_R own is text sa s' := vk_R.warm hW0 hstr
  obtain ⟨U, hsteps, hrun, hend, hW, hsame, ce, hce, hO⟩ := X₁.ctorThrowS hexec htr (own := own) (cls := cls) (names := names) (ic := ic) hown' hcls hnames h (fun x hx => nomatch hx) hfX hkX hcellA (by rw [hhp, hT]; exact Nat.le_refl _) (msg := .ref sa) rfl
    (g := { method := m, pc := pc + 6, locals := ls, stack := .ref sa :: .ref T.heap.size :: .ref T.heap.size :: rest, locked := none }) rfl hsize rfl rfl (rest := rest) rfl
    (by rw [hb]; exact d6) (by rw [hb]; exact d9) hout hRframes (by simp only [List.map_cons, List.sum_cons, hcat]; omega) hlocks
  obtain ⟨f1, f2⟩ := vx_frame hsame
  rw [hhp] at f1 f2
  have hWs : s.WarmedH U.vm := State.WarmedH.trans hW0 hW
  have hcl : s.vm.findClass cls = some ce.cls := by
    have h9 := hO.cls
    rw [hvm] at h9
    exact h9
  have hall : s.sameButNew ({ U with vm := s.vm } : State) locs mc ms := by
    subst hA
    obtain ⟨e1, e2⟩ := hsame
    rw [State.setFrames_setFrames] at e1
    have h2 : (T.setVm s.vm).sameButNew ({ U with vm := s.vm } : State) [] (0 + 1) (0 + 6) := ⟨e1, e2⟩
    have h3 := X.same.trans h2
    rw [List.append_nil] at h3
    exact h3.mono hc hs
  refine ⟨U, ?_, .threw T.heap.size, hrun, hend, Or.inr ⟨T.heap.size, rfl, cls, ce, locs, hx U hWs.alike f1 (fun q hq => f2 q hq (fun z hz => nomatch hz)), hce, hO.vm, hcl, hWs, hall, hf⟩⟩
  refine st1 _ ?_
  show Steps p.tables e below (T1.setTop { method := m, pc := pc + 3, locals := ls, stack := .ref T.heap.size :: rest, locked := none }) _
  jvm_step X₁.here [X₁.here.top, hexec, d3', Value.category]
  exact X₁.ldcString hexec (own := own) (text := text) (index := is) (a := sa) hown' hstr'.1 hstr'.2
    (g := { method := m, pc := pc + 4, locals := ls, stack := .ref T.heap.size :: .ref T.heap.size :: rest, locked := none }) rfl d4' _ hsteps
/-- 'throw new E("text")', the text by a wide index -/
theorem vx_throwSW {cc : ByteArray} {pc : Nat} (hexec : p.tables.exec = Jvm.exec) (hb : c.code = cc) (hl : l.stackTraces = false) {own cls text : String} {names : List String} {ik is ic mc ms sa : Nat} {A : Nat → Prop}
    (hown : s.vm.findClass own = some m.cls) (hcls : Bundle.fit cls = true) (hnames : ∀ n ∈ names, Bundle.fit n = true)
    (hk : (Cond.classLink own ik cls).before args s = true) (hini : (Cond.initialized cls).before args s = true) (hstr : vk_R own is text sa s) (hat : ∀ w ∈ vx_atS own ic cls names, w.before args s = true)
    (hgood : ∀ w ∈ Cond.classLink own ik cls :: Cond.initialized cls :: vx_atS own ic cls names, vx_ot w = true)
    (hU : vx_Zq Bundle.tN "UNASSIGNED_STACK" Bundle.steD A s s.heap) (hN : vx_Zq Bundle.tN "SUPPRESSED_SENTINEL" Bundle.listD A s s.heap) (hS : va_S A s.heap H locs) (hsize : ls.size = c.maxLocals)
    (d0 : decode cc pc = .ok (.new ik, 3)) (d3 : decode cc (pc + 3) = .ok (.dup, 1)) (d4 : decode cc (pc + 4) = .ok (.ldc_w is, 3)) (d7 : decode cc (pc + 7) = .ok (.invokespecial ic, 3)) (d10 : decode cc (pc + 10) = .ok (.athrow, 1))
    (hout : ∀ x ∈ c.exceptionTable.toList, covers x (pc + 10) = false)
    (hRframes : names.length + 3 < R.frames) (hRlocals : (rest.map fun v => v.category).sum + (13 * (names.length + 1) + 43) ≤ R.locals) (hRcells : cells + 1 ≤ R.cells) (hRslots : slots + 6 ≤ R.slots) (hlocks : meth.locks = false)
    (hx : ∀ t : State, s.vm.Alike t.vm → H.size ≤ t.heap.size → (∀ q : Nat, q < H.size → t.heap[q]? = H[q]?) → XC cls s t)
    (hf : ∀ z ∈ locs, free z.base) (hc : cells + 1 ≤ mc) (hs : slots + 6 ≤ ms) :
    W p l e R s m args below meth c H locs cells slots (vx_MQ below Qc XC args s mc ms free) (F0 m pc ls rest) := by
  intro T hT X
  have htr : e.platform.stackTraces = false := (show e.platform.stackTraces = l.stackTraces by rw [X.admits.platform]).trans hl
  have Y := vx_rebase X (R' := { frames := R.frames, locals := R.locals, cells := 1, slots := 6 }) (Nat.le_refl _) (Nat.le_refl _) hRcells hRslots
  obtain ⟨s', hA⟩ : ∃ z, z = (T.setVm s.vm).setFrames (.invoking m args :: below) := ⟨_, rfl⟩
  rw [← hA] at Y
  have hvm : s'.vm = s.vm := by rw [hA]; rfl
  have hhp : s'.heap = H := by rw [hA]; exact hT
  have hW0 : s.WarmedH s'.vm := by rw [hvm]; exact State.WarmedH.refl s
  have hat' : ∀ w ∈ vx_atS own ic cls names, w.before args s' = true := fun w hw => vx_ot_at hW0 hvm.symm (hgood w (List.mem_cons_of_mem _ (List.mem_cons_of_mem _ hw))) (hat w hw)
  have hk' : (Cond.classLink own ik cls).before args s' = true := vx_ot_at hW0 hvm.symm (hgood _ List.mem_cons_self) hk
  have hini' : (Cond.initialized cls).before args s' = true := vx_ot_at hW0 hvm.symm (hgood _ (List.mem_cons_of_mem _ List.mem_cons_self)) hini
  have hU' : vx_Zq Bundle.tN "UNASSIGNED_STACK" Bundle.steD A s' s'.heap := by rw [hhp]; exact vx_Zq.moved hW0.alike (hU.kept hS.2.1)
  have hN' : vx_Zq Bundle.tN "SUPPRESSED_SENTINEL" Bundle.listD A s' s'.heap := by rw [hhp]; exact vx_Zq.moved hW0.alike (hN.kept hS.2.1)
  have h : ∀ w ∈ Bundle.ownAtoms own ic cls names, w.before args s' = true := vx_own hat' (vx_isRefq hU'.1) (vx_isRefq hN'.1) hU'.2.word hN'.2.word
  have hown' : s'.vm.findClass own = some m.cls := by rw [hvm]; exact hown
  have hins : (Cond.instantiable cls 6).before args s' = true := h _ (by simp [Bundle.ownAtoms])
  obtain ⟨vm₁, cX, kX, hfX, hkX, -, -, X₁, st1⟩ := Y.newCold hexec (own := own) (C := cls) (index := ik) (n := 6) hown' hk' hins hini'
    (g := F0 m pc ls rest) rfl (by rw [hb]; exact d0) (Nat.le_refl _) (Nat.le_refl _)
  generalize hT1 : (T.setVm vm₁).pushCell { cls := cX, slots := kX.instanceTypes.map defaultValue, vm := .none } = T1 at X₁ st1
  have hcat : (Value.ref T.heap.size).category = 1 := rfl
  have hcellA : T1.heap[T.heap.size]? = some (freshCell cX kX) := by rw [← hT1]; exact State.heap_pushCell_size _ _
  have d3' : decode c.code (pc + 3) = .ok (.dup, 1) := by rw [hb]; exact d3
  have d4' : decode c.code (pc + 4) = .ok (.ldc_w is, 3) := by rw [hb]; exact d4
  have hstr' : vk_R own is text sa s' := vk_R.warm hW0 hstr
  obtain ⟨U, hsteps, hrun, hend, hW, hsame, ce, hce, hO⟩ := X₁.ctorThrowS hexec htr (own := own) (cls := cls) (names := names) (ic := ic) hown' hcls hnames h (fun x hx => nomatch hx) hfX hkX hcellA (by rw [hhp, hT]; exact Nat.le_refl _) (msg := .ref sa) rfl
    (g := { method := m, pc := pc + 7, locals := ls, stack := .ref sa :: .ref T.heap.size :: .ref T.heap.size :: rest, locked := none }) rfl hsize rfl rfl (rest := rest) rfl
    (by rw [hb]; exact d7) (by rw [hb]; exact d10) hout hRframes (by simp only [List.map_cons, List.sum_cons, hcat]; omega) hlocks
  obtain ⟨f1, f2⟩ := vx_frame hsame
  rw [hhp] at f1 f2
  have hWs : s.WarmedH U.vm := State.WarmedH.trans hW0 hW
  have hcl : s.vm.findClass cls = some ce.cls := by
    have h9 := hO.cls
    rw [hvm] at h9
    exact h9
  have hall : s.sameButNew ({ U with vm := s.vm } : State) locs mc ms := by
    subst hA
    obtain ⟨e1, e2⟩ := hsame
    rw [State.setFrames_setFrames] at e1
    have h2 : (T.setVm s.vm).sameButNew ({ U with vm := s.vm } : State) [] (0 + 1) (0 + 6) := ⟨e1, e2⟩
    have h3 := X.same.trans h2
    rw [List.append_nil] at h3
    exact h3.mono hc hs
  refine ⟨U, ?_, .threw T.heap.size, hrun, hend, Or.inr ⟨T.heap.size, rfl, cls, ce, locs, hx U hWs.alike f1 (fun q hq => f2 q hq (fun z hz => nomatch hz)), hce, hO.vm, hcl, hWs, hall, hf⟩⟩
  refine st1 _ ?_
  show Steps p.tables e below (T1.setTop { method := m, pc := pc + 3, locals := ls, stack := .ref T.heap.size :: rest, locked := none }) _
  jvm_step X₁.here [X₁.here.top, hexec, d3', Value.category]
  exact X₁.ldcStringW hexec (own := own) (text := text) (index := is) (a := sa) hown' hstr'.1 hstr'.2
    (g := { method := m, pc := pc + 4, locals := ls, stack := .ref T.heap.size :: .ref T.heap.size :: rest, locked := none }) rfl d4' _ hsteps
end Ends
section Bodies
variable {l : Launch}
theorem vx_ofW {y : MethodName} {ws ws' : List Cond} {rm : Room} {Pc : Array Value → State → Prop} {Qc : Array Value → State → Outcome → State → Prop} {XC : String → State → State → Prop} {mc ms : Nat} {free : Addr → Prop} {cc : ByteArray} {maxL : Nat} {ret : Option FieldType}
    (hy : plainName y.cls = true) (hw : ws = Cond.code y cc maxL ret :: ws')
    (body : ∀ p e s m args below meth c s₁, BodyLoose p l y (headSpec ws rm) cc maxL ret e s m args below meth c s₁ → c.maxLocals = maxL → (∀ x ∈ c.exceptionTable.toList, False) → Pc args s →
      W p l e (headSpec ws rm).room s m args below meth c s.heap [] 0 0 (vx_MQ below Qc XC args s mc ms free) (entryFrame m args maxL)) : vx_Met l y ws rm Pc Qc XC mc ms free := by
  refine MetFree.of_bodyS (code := cc) (maxLocals := maxL) (ret := ret) hy ?_ ?_
  · intro args s m h hn
    obtain ⟨meth, c, h1, h2, h3, h4, h5, h6, -, -⟩ := Cond.code_spec hn (atoms_spec (ws := ws) h _ (by rw [hw]; exact List.mem_cons_self))
    exact ⟨meth, c, h1, h2, h3, h4, h5, h6⟩
  · intro p e s m args below meth c s₁ B hml hP _
    have hh0 : s₁.heap = s.heap := by rw [B.state]; rfl
    have ht : ∀ x ∈ c.exceptionTable.toList, False := by
      obtain ⟨meth9, c9, h1, h2, -, -, -, -, h7, -⟩ := Cond.code_spec B.named (atoms_spec (ws := ws) B.pre _ (by rw [hw]; exact List.mem_cons_self))
      cases Option.some.inj (h1.symm.trans B.method)
      cases Option.some.inj (h2.symm.trans (Stand.of_body B).code)
      intro x hx
      rw [Array.isEmpty_iff.mp h7] at hx
      cases hx
    obtain ⟨t, a1, o, b1, b2, b3⟩ := body p e s m args below meth c s₁ B hml ht hP s₁ hh0 (Stand.of_body B)
    exact ⟨t, o, a1, b1, b2, b3⟩
/-- the table of a body with handlers -/
theorem vx_table {p : Program} {x y : MethodName} {S : Spec} {cc bytes : ByteArray} {maxL maxL' : Nat} {ret ret' : Option FieldType} {e : Env} {s s₁ : State} {m : MethodId} {args : Array Value} {below : List Frame} {meth : Method} {c : Code} {hh : List (Nat × Nat × Nat × Nat)}
    (B : BodyLoose p l y S cc maxL ret e s m args below meth c s₁) (h : (Cond.codeWith y bytes maxL' ret' hh).before args s = true) : c.exceptionTable.toList = tableOf hh := by
  obtain ⟨m9, meth9, c9, hn9, h1, h2, -, -, h6, -⟩ := Cond.codeWith_spec h
  cases Option.some.inj (hn9.symm.trans B.named)
  cases Option.some.inj (h1.symm.trans B.method)
  cases Option.some.inj (h2.symm.trans (Stand.of_body B).code)
  rw [← h6, table_eq]
end Bodies
end VXA
/-! ===== END ===== -/
/-! ===== BEGIN a static call of a method with an exception table ===== -/
section VXS
variable {p : Program} {l : Launch} {e : Env} {R : Room} {s : State} {m : MethodId} {args : Array Value} {below : List Frame} {meth : Method} {c : Code} {T : State} {H : Heap} {locs : List Loc} {cells slots : Nat}
abbrev vx_CSW (R : Room) (s : State) (args : Array Value) (own : String) (index : Nat) (y : MethodName) (bytes : ByteArray) (maxL : Nat) (ret : Option FieldType) (hh : List (Nat × Nat × Nat × Nat)) (ws : List Cond) (rm : Room) (mc ms n : Nat) : Prop :=
  (rm.cells = mc ∧ rm.slots = ms ∧ rm.frames + 1 ≤ R.frames ∧ 8 + (maxL + 11) + rm.locals ≤ R.locals ∧ (∀ w ∈ ws, ∀ (a' : Array Value) (U : State), s.WarmedH U.vm → w.before a' U = true) ∧ Cond.codeWith y bytes maxL ret hh ∈ ws) ∧
  (Cond.codeWith y bytes maxL ret hh).before args s = true ∧ (Cond.initialized y.cls).before args s = true ∧ (y.cls ≠ "java/lang/invoke/MethodHandle" ∧ y.cls ≠ "java/lang/invoke/VarHandle") ∧
  (∀ sig, parseMethodDescriptor y.desc = some sig → n = sig.parameters.length) ∧ (Cond.methodLink own index y).before args s = true ∧ (Cond.static y).before args s = true
theorem vx_cwSW {own : String} {index maxL mc ms : Nat} {y : MethodName} {bytes : ByteArray} {ret : Option FieldType} {hh : List (Nat × Nat × Nat × Nat)} {Ts ws ws' : List Cond} {rm : Room} (n : Nat) (ht : ∀ w ∈ Ts, w.before args s = true) (hT : GoodIn Ts (va_wsS own index y ws)) (hw : ws = Cond.codeWith y bytes maxL ret hh :: ws') (hrc : rm.cells = mc) (hrs : rm.slots = ms)
    (hd : y.cls ≠ "java/lang/invoke/MethodHandle" ∧ y.cls ≠ "java/lang/invoke/VarHandle" ∧ (parseMethodDescriptor y.desc).map (fun d => d.parameters.length) = some n) (hR : rm.frames + 1 ≤ R.frames ∧ 8 + (maxL + 11) + rm.locals ≤ R.locals) :
    vx_CSW R s args own index y bytes maxL ret hh ws rm mc ms n := by
  have ok : ∀ w ∈ va_wsS own index y ws, w.before args s = true := fun w h => ht w (hT w h).1
  have hG : GoodIn Ts ws := fun w h => hT w (by unfold va_wsS; exact List.mem_append_right _ h)
  have hc : Cond.codeWith y bytes maxL ret hh ∈ ws := by rw [hw]; exact List.mem_cons_self
  refine ⟨⟨hrc, hrs, hR.1, hR.2, pay_in ht hG, hc⟩, ht _ (hG _ hc).1, ok _ (by simp [va_wsS]), ⟨hd.1, hd.2.1⟩, fun sig h => ?_, ok _ (by simp [va_wsS]), ok _ (by simp [va_wsS])⟩
  have h2 := hd.2.2
  rw [h] at h2
  exact (Option.some.inj h2).symm
theorem vx_callSW (X : Stand p l e R s m args below meth c T locs cells slots) (hexec : p.tables.exec = Jvm.exec) {own : String} {index : Nat} {y : MethodName} {bytes : ByteArray} {maxL : Nat} {ret : Option FieldType} {hh : List (Nat × Nat × Nat × Nat)}
    (hown : s.vm.findClass own = some m.cls) (hlink : (Cond.methodLink own index y).before args s = true) (hstat : (Cond.static y).before args s = true) (hinit : (Cond.initialized y.cls).before args s = true)
    (hcode : (Cond.codeWith y bytes maxL ret hh).before args s = true) (hy : y.cls ≠ "java/lang/invoke/MethodHandle" ∧ y.cls ≠ "java/lang/invoke/VarHandle")
    {W9 : Nat} {Pre : Pt → Array Value → Prop} {Post : Pt → Array Value → Option Value → Pt → Prop} (hK : Back l R p e below s args y 3 W9 Pre Post)
    {g : JFrame} (hg : g.method = m) (hsize : g.locals.size = c.maxLocals) {argsL rest : List Value} (hlen : ∀ sig, parseMethodDescriptor y.desc = some sig → argsL.length = sig.parameters.length)
    (hstack : g.stack = argsL.reverse ++ rest) (hW : 2 * g.monitorRoom + (rest.map fun v => v.category).sum ≤ W9) (hdg : decode c.code g.pc = .ok (.invokestatic index, 3))
    (hpre : ∀ vm₁, s.WarmedH vm₁ → Pre ⟨T.setVm vm₁, locs, cells, slots⟩ argsL.toArray) :
    ∃ (v : Option Value) (vm₁ : Vm) (B : Pt), s.WarmedH vm₁ ∧ Stand p l e R s m args below meth c B.U B.locs B.cells B.slots ∧ Post ⟨T.setVm vm₁, locs, cells, slots⟩ argsL.toArray v B ∧
      ∀ target, Steps p.tables e below (B.U.setTop { g with pc := g.pc + 3, stack := v.toList ++ rest }) target → Steps p.tables e below (T.setTop g) target := by
  obtain ⟨mk, methM, cM, hnamed, hmethM, -, -, -, -, -, -, hsigM⟩ := Cond.codeWith_spec hcode
  have hstatic : methM.isStatic = true := Cond.static_spec hnamed hmethM hstat
  obtain ⟨kP, hkP, -⟩ := className_of_methodNamed hnamed
  have hinitP : kP.init = .initialized := Cond.initialized_spec (findClass_of_methodNamed hnamed) hkP hinit
  obtain ⟨vm₁, X₁, hstep₁⟩ := X.invokestatic hexec hown hlink hnamed hmethM hstatic hkP hinitP hy (g := g) hg (argsL := argsL) (rest := rest) (hlen _ hsigM) hstack hdg
  obtain ⟨v, B, X', hpost, hsteps⟩ := hK m meth c ⟨T.setVm vm₁, locs, cells, slots⟩ { g with stack := rest } (.invokestatic index) mk argsL.toArray X₁ hg hsize hdg hW (X₁.named hnamed) (hpre vm₁ X₁.warmed)
  exact ⟨v, vm₁, B, X₁.warmed, X', hpost, fun target h => hstep₁ _ fun acts => by rw [doInvoke_state]; exact hsteps.trans h⟩
theorem vx_runSW {y : MethodName} {bytes cc : ByteArray} {maxL nL mc ms n index : Nat} {ret : Option FieldType} {hh : List (Nat × Nat × Nat × Nat)} {ws : List Cond} {rm : Room} {Pc : Array Value → State → Prop} {Qc : Array Value → State → Outcome → State → Prop} {free : Addr → Prop} {Ts : List Cond} {own : String} {As rest : List Value} {g : JFrame}
    (S : CallFix p m c cc nL s args Ts own) (hM : Met l y ws rm Pc Qc mc ms free) (cw : vx_CSW R s args own index y bytes maxL ret hh ws rm mc ms n) (hp : PreS s H Pc As)
    (hg : g.method = m) (hn : As.length = n) (hsize : g.locals.size = nL) (hstack : g.stack = As.reverse ++ rest) (hW : 2 * g.monitorRoom + (rest.map fun v => v.category).sum ≤ 8) (hdg : decode cc g.pc = .ok (.invokestatic index, 3)) (hf : cells + mc ≤ R.cells ∧ slots + ms ≤ R.slots) :
    va_Run p l e R s m args below meth c H locs cells slots mc ms g rest (Qc As.toArray) (free) := by
  obtain ⟨⟨hrc, hrs, hfr, hlo, hws, hcw⟩, hcode, hini, hy, hlen, hl, hstt⟩ := cw
  have hK : Back l R p e below s args y 3 8 (PreOf R mc ms Pc) (PostOf Qc mc ms free) := va_backW (hh := hh) (bytes := bytes) (maxL := maxL) (ret := ret) hM hp.1 hrc hrs hfr hlo hws hcw (fun a' U hW => word_at hW (Or.inl (by first | rfl | simp [Cond.onTables, Cond.keeps, Cond.steady])) hini)
  obtain ⟨hx, hb, hml, ho, -⟩ := S
  intro T hT X
  obtain ⟨v, vm₁, ⟨U', l2, c2, s2⟩, hW₁, X', ⟨g', mk, t, L, e1, e2, hq, h1, hL, h2, h3⟩, st⟩ := vx_callSW X hx (hh := hh) (bytes := bytes) (maxL := maxL) (ret := ret) ho hl hstt hini hcode hy hK hg (hsize.trans hml.symm) (argsL := As) (rest := rest) (fun sig h => hn.trans (hlen sig h)) hstack hW (by rw [hb]; exact hdg)
    (fun vm₁ hW₁ => ⟨hf.1, hf.2, hp.2 (T.setVm vm₁) hT hW₁⟩)
  dsimp only [Pt.U, Pt.locs, Pt.cells, Pt.slots] at X' e1 e2 h1 h2 h3 st
  subst h1; subst h2; subst h3
  exact ⟨v, (T.setVm vm₁).calling g' mk As.toArray, t, U', L, hT, X', hL, e1, e2, hq, st⟩
/-- not caught here, past rows that name other classes: it goes on to the caller -/
theorem vx_outP {p : Program} {l : Launch} {e : Env} {R : Room} {s : State} {m : MethodId} {args : Array Value} {below : List Frame} {meth : Method} {c : Code} {H : Heap} {locs : List Loc} {cells slots : Nat} {free : Addr → Prop} {ls : Array Slot} {rest : List Value} {Qc : Array Value → State → Outcome → State → Prop} {XC : String → State → State → Prop}
    {pc : Nat} {own E : String} {ce : Cell} {q : Addr} {mc ms : Nat} (hown : s.vm.findClass own = some m.cls) (hlocks : meth.locks = false)
    (hpass : ∀ z ∈ c.exceptionTable.toList, covers z pc = false ∨ (z.catchType ≠ 0 ∧ ∃ nm : String, (Cond.classLink own z.catchType nm).before args s = true ∧ va_Nc E nm s)) (hcell : H[q]? = some ce) (hv : ce.vm = .none) (hcl : s.vm.findClass E = some ce.cls)
    (hx : ∀ t : State, t.heap = H → s.vm.Alike t.vm → XC E s t) (hf : ∀ z ∈ locs, free z.base) (hc : cells ≤ mc) (hs : slots ≤ ms) :
    vx_W p l e R s m args below meth c H locs cells slots (vx_MQ below Qc XC args s mc ms free) (F0 m pc ls rest) q := by
  intro T hT X
  have hpl : e.platform.magicAccessors = ({} : Platform).magicAccessors := by rw [X.admits.platform]
  obtain ⟨vm', hW', X', st⟩ := X.outThrough hlocks q (g := F0 m pc ls rest) rfl rfl rfl (cell := ce) (by rw [hT]; exact hcell) (by rw [hv]; rfl)
    (by obtain ⟨k9, h9, -⟩ := Vm.findClass_spec hcl; exact ⟨k9, h9⟩) (fun z hz => by
      rcases hpass z hz with h | ⟨hz0, nm, hl1, hn1⟩
      · exact Or.inl h
      · obtain ⟨c6, hc6, hcl6⟩ := Cond.classLink_spec hown hl1 e.platform hpl
        obtain ⟨a8, b8, h1, h2, h3⟩ := hn1
        cases Option.some.inj (h1.symm.trans hcl)
        cases Option.some.inj (h2.symm.trans hc6)
        exact Or.inr ⟨hz0, _, hcl6, h3⟩)
  obtain ⟨g₀, hfr⟩ := X'.frames_eq
  have hcell9 : ((T.setVm vm').setFrames (.throwing q :: below)).heap[q]? = some ce := by
    show T.heap[q]? = some ce
    rw [hT]; exact hcell
  have hend : Ended ((T.setVm vm').setFrames (.throwing q :: below)) below (.threw q) := State.frames_setFrames _ (State.cur_lt_of_frames hfr)
  refine ⟨(T.setVm vm').setFrames (.throwing q :: below), ?_, .threw q, X'.here.running, hend, Or.inr ⟨q, rfl, E, ce, locs, hx _ hT (X'.ends _).1.alike, hcell9, hv, hcl, (X'.ends _).1, (X'.ends _).2.mono hc hs, hf⟩⟩
  rw [X.pushThrowing_eq]
  exact st
/-- a thing of a world lies in the heap -/
theorem vx_lt {D : va_G} {cl : List vw_C} {ws : va_W} {H1 : Heap} (h : va_P D cl ws H1) {k : Nat} {q : Nat × va_E} (hk : ws[k]? = some q) : q.1 < H1.size := (h k q hk).lt
end VXS
/-! ===== END ===== -/
/-! ===== BEGIN methods with a table of their own: called by a name, returning or throwing ===== -/
section VXH
/-! vx_backW, vx_callVX, vx_callSX, vx_callVW, vx_runVW, vx_runVX, vx_runSX, vx_ofWH follow the same proofs as their sisters above (Free/Laws.lean, Shelf42/LK1.lean); vx_outP calls Shelf42/NT130.lean (outThrough). -/
section
variable {l : Launch} {R : Room} {p : Program} {e : Env} {below : List Frame} {s : State} {sargs : Array Value} {y : MethodName} {len W9 : Nat}
theorem vx_backW {ws : List Cond} {rm : Room} {Pc : Array Value → State → Prop} {Qc : Array Value → State → Outcome → State → Prop} {XC : String → State → State → Prop} {mc ms : Nat} {free : Addr → Prop} {bytes : ByteArray} {maxL : Nat} {ret : Option FieldType} {hh : List (Nat × Nat × Nat × Nat)}
    (hM : vx_Met l y ws rm Pc Qc XC mc ms free) (hblind : FrameBlind Pc) (hrc : rm.cells = mc) (hrs : rm.slots = ms)
    (hframes : rm.frames + 1 ≤ R.frames) (hlocals : W9 + (maxL + 11) + rm.locals ≤ R.locals)
    (hws : ∀ w ∈ ws, ∀ a' U, s.WarmedH U.vm → w.before a' U = true) (hcode : Cond.codeWith y bytes maxL ret hh ∈ ws) (hinit : ∀ a' U, s.WarmedH U.vm → (Cond.initialized y.cls).before a' U = true) :
    vx_Back l R p e below s sargs y len W9 (PreOf R mc ms Pc) (PostOf Qc mc ms free) (vx_Post XC mc ms free) := by
  intro m meth c A g ig mk a X hg hsize hdg hW hn hp
  have h1 : (headSpec ws rm).pre.before a A.U = true := atoms_intro fun w hw => hws w hw _ _ X.warmed
  have h2 : (Cond.codeWith y bytes maxL ret hh).before a A.U = true := hws _ hcode _ _ X.warmed
  have h3 : (Cond.initialized y.cls).before a A.U = true := hinit _ _ X.warmed
  have h4 : A.cells + (headSpec ws rm).room.cells ≤ R.cells := by rw [show (headSpec ws rm).room.cells = mc from hrc]; exact hp.1
  have h5 : A.slots + (headSpec ws rm).room.slots ≤ R.slots := by rw [show (headSpec ws rm).room.slots = ms from hrs]; exact hp.2.1
  have hPc : Pc a (A.U.calling g mk a) := hblind _ _ _ _ hp.2.2
  obtain ⟨U, Ls, c0, s0⟩ := A
  dsimp only [Pt.U, Pt.locs, Pt.cells, Pt.slots] at h1 h2 h3 h4 h5 X hn hPc ⊢
  obtain ⟨m9, methY, cY, hn9, hmY, hcY, -, hlY, -⟩ := Cond.codeWith_spec h2
  cases Option.some.inj (hn9.symm.trans hn)
  obtain ⟨kY, hkY, -⟩ := className_of_methodNamed hn
  have hinitY : kY.init = .initialized := Cond.initialized_spec (findClass_of_methodNamed hn) hkY h3
  have h : At U g.method c below := by rw [hg]; exact X.here
  have hlocals9 : W9 + (maxL + 11) + (headSpec ws rm).room.locals ≤ R.locals := hlocals
  have happ : (headSpec ws rm).appliesLoose y e.platform (U.calling g mk a) = true :=
    Spec.appliesLoose_calling (g := g) h hdg hn hkY hinitY
      (X.room_calling (g := g) (R' := (headSpec ws rm).room) hsize hmY hcY hframes (by rw [hlY]; omega) h4 h5) h1
  obtain ⟨mid, hmid⟩ := h.above
  have hfr : (U.setTop g).frames = (.java g :: mid) ++ below := by rw [State.frames_setTop' g h.top, hmid]; rfl
  obtain ⟨o, s₂, hsteps, -, hend, hq⟩ := Steps.callFree hM p X.admits X.cas X.clock (acts := []) hfr happ hPc trivial
  have hq' : vx_Q Qc XC mc ms free a (U.calling g mk a) o s₂ := hq
  rw [State.frames_setTop' g h.top] at hend
  obtain ⟨g₀, hg0⟩ := Option.isSome_iff_exists.mp h.top
  obtain ⟨r, hr⟩ := State.topJava?_eq_some.mp hg0
  have hr' : (({ U with heap := s₂.heap, slotsUsed := s₂.slotsUsed } : State).setVm s₂.vm).frames = .java g₀ :: r := hr
  rcases hq' with ⟨hqc, L, hfe, hL⟩ | ⟨q, rfl, E, ce, L, hx, hce, hcv, hcl, hW₂, hsm, hL⟩
  · obtain ⟨⟨v, rfl⟩, hW₂, e2, q2, q3, q4, q5, q6⟩ := id hfe
    have e3 : s₂ = ({ (U.calling g mk a).setFrames s₂.frames with heap := s₂.heap, slotsUsed := s₂.slotsUsed } : State).setVm s₂.vm := by
      have : s₂ = ({ s₂ with vm := (U.calling g mk a).vm } : State).setVm s₂.vm := rfl
      rw [e2] at this
      exact this
    obtain ⟨c₂, i₂, len₂, hc₂, hd₂, hf₂⟩ := hend
    have hW' : U.WarmedH s₂.vm := hW₂
    have hcc : c₂ = c := by
      have h1 : s₂.code? g.method = U.code? g.method := by
        rw [State.code?_eq, State.code?_eq, hW'.alike.method?]
      exact Option.some.inj (hc₂.symm.trans (h1.trans h.code))
    subst hcc
    have hlen : len₂ = len := by rw [hdg] at hd₂; cases hd₂; rfl
    subst hlen
    have hs₂ : s₂ = (({ U with heap := s₂.heap, slotsUsed := s₂.slotsUsed } : State).setVm s₂.vm).setTop { g with pc := g.pc + len₂, stack := v.toList ++ g.stack } := by
      refine e3.trans ?_
      rw [hf₂, State.calling_eq h.top, State.setFrames_setFrames, State.setTop_of_frames _ hr', hr]
      rfl
    have hsame : U.sameButNew ({ U with heap := s₂.heap, slotsUsed := s₂.slotsUsed } : State) L mc ms := by
      refine ⟨?_, q2, q3, q4, q5, q6⟩
      obtain ⟨t, ht, -⟩ := State.frames_cons hr
      show ({ U with heap := s₂.heap, slotsUsed := s₂.slotsUsed } : State) = { U.setFrames U.frames with heap := s₂.heap, slotsUsed := s₂.slotsUsed }
      rw [State.setFrames_self ht]
    subst hg
    refine Or.inl ⟨v, ⟨(({ U with heap := s₂.heap, slotsUsed := s₂.slotsUsed } : State).setVm s₂.vm), Ls ++ L, c0 + mc, s0 + ms⟩,
      ⟨X.admits, X.cas, X.clock, X.frames, X.room, X.hears, X.method, X.code, (X.here.setHeapUsed s₂.heap s₂.slotsUsed).setVm hW'.alike, X.tail, State.WarmedH.trans X.warmed hW', X.limits, X.bytes, X.same.trans (hsame.setVm s.vm)⟩,
      ⟨g, mk, s₂, L, rfl, rfl, hqc, rfl, hL, rfl, rfl⟩, ?_⟩
    show Steps p.tables e below _ ((({ U with heap := s₂.heap, slotsUsed := s₂.slotsUsed } : State).setVm s₂.vm).setTop { g with pc := g.pc + len₂, stack := v.toList ++ g.stack })
    rw [← hs₂]
    exact hsteps
  · obtain ⟨e2, q2, q3, q4, q5, q6⟩ := id hsm
    have e3 : s₂ = ({ (U.calling g mk a).setFrames s₂.frames with heap := s₂.heap, slotsUsed := s₂.slotsUsed } : State).setVm s₂.vm := by
      have : s₂ = ({ s₂ with vm := (U.calling g mk a).vm } : State).setVm s₂.vm := rfl
      rw [e2] at this
      exact this
    have hf₂ : s₂.frames = .throwing q :: .java g :: U.frames.tail := hend
    have hW' : U.WarmedH s₂.vm := hW₂
    have hs₂ : s₂ = ((({ U with heap := s₂.heap, slotsUsed := s₂.slotsUsed } : State).setVm s₂.vm).setTop g).pushFrame (.throwing q) := by
      refine e3.trans ?_
      rw [hf₂, State.calling_eq h.top, State.setFrames_setFrames, State.pushFrame, State.frames_setTop _ hr', State.setTop_of_frames _ hr', State.setFrames_setFrames, hr]
      rfl
    have hsame : U.sameButNew ({ U with heap := s₂.heap, slotsUsed := s₂.slotsUsed } : State) L mc ms := by
      refine ⟨?_, q2, q3, q4, q5, q6⟩
      obtain ⟨t, ht, -⟩ := State.frames_cons hr
      show ({ U with heap := s₂.heap, slotsUsed := s₂.slotsUsed } : State) = { U.setFrames U.frames with heap := s₂.heap, slotsUsed := s₂.slotsUsed }
      rw [State.setFrames_self ht]
    subst hg
    refine Or.inr ⟨q, ⟨(({ U with heap := s₂.heap, slotsUsed := s₂.slotsUsed } : State).setVm s₂.vm), Ls ++ L, c0 + mc, s0 + ms⟩,
      ⟨X.admits, X.cas, X.clock, X.frames, X.room, X.hears, X.method, X.code, (X.here.setHeapUsed s₂.heap s₂.slotsUsed).setVm hW'.alike, X.tail, State.WarmedH.trans X.warmed hW', X.limits, X.bytes, X.same.trans (hsame.setVm s.vm)⟩,
      ⟨g, mk, s₂, L, E, ce, rfl, rfl, hx, hce, hcv, hcl, rfl, hL, rfl, rfl⟩, ?_⟩
    show Steps p.tables e below _ (((({ U with heap := s₂.heap, slotsUsed := s₂.slotsUsed } : State).setVm s₂.vm).setTop g).pushFrame (.throwing q))
    rw [← hs₂]
    exact hsteps
end
variable {p : Program} {l : Launch} {e : Env} {R : Room} {s : State} {m : MethodId} {args : Array Value} {below : List Frame} {meth : Method} {c : Code} {T : State} {H : Heap} {locs : List Loc} {cells slots : Nat}
theorem vx_callVX (X : Stand p l e R s m args below meth c T locs cells slots) (hexec : p.tables.exec = Jvm.exec) {own C : String} {index : Nat} {y : MethodName} {bytes : ByteArray} {maxL : Nat} {ret : Option FieldType} {hh : List (Nat × Nat × Nat × Nat)}
    (hown : s.vm.findClass own = some m.cls) (hlink : (Cond.methodLink own index y).before args s = true) (hinst : (Cond.instanceMethod y).before args s = true) (hsel : (Cond.selects C y y).before args s = true)
    (hcode : (Cond.codeWith y bytes maxL ret hh).before args s = true) (hy : y.cls ≠ "java/lang/invoke/MethodHandle" ∧ y.cls ≠ "java/lang/invoke/VarHandle")
    {W9 : Nat} {Pre : Pt → Array Value → Prop} {Post : Pt → Array Value → Option Value → Pt → Prop} {PostX : Pt → Array Value → Addr → Pt → Prop} (hK : vx_Back l R p e below s args y 3 W9 Pre Post PostX)
    {b : Addr} {cellB : Cell} (hcell : T.heap[b]? = some cellB) (hobj : cellB.vm.isStatics = false) (hcls : s.vm.findClass C = some cellB.cls)
    {g : JFrame} (hg : g.method = m) (hsize : g.locals.size = c.maxLocals) {argsL rest : List Value} (hlen : ∀ sig, parseMethodDescriptor y.desc = some sig → argsL.length = sig.parameters.length)
    (hstack : g.stack = argsL.reverse ++ .ref b :: rest) (hW : 2 * g.monitorRoom + (rest.map fun v => v.category).sum ≤ W9) (hdg : decode c.code g.pc = .ok (.invokevirtual index, 3))
    (hpre : ∀ vm₁, s.WarmedH vm₁ → Pre ⟨T.setVm vm₁, locs, cells, slots⟩ (Value.ref b :: argsL).toArray) :
    (∃ (v : Option Value) (vm₁ : Vm) (B : Pt), s.WarmedH vm₁ ∧ Stand p l e R s m args below meth c B.U B.locs B.cells B.slots ∧ Post ⟨T.setVm vm₁, locs, cells, slots⟩ (Value.ref b :: argsL).toArray v B ∧
      ∀ target, Steps p.tables e below (B.U.setTop { g with pc := g.pc + 3, stack := v.toList ++ rest }) target → Steps p.tables e below (T.setTop g) target) ∨
    (∃ (q : Addr) (vm₁ : Vm) (B : Pt), s.WarmedH vm₁ ∧ Stand p l e R s m args below meth c B.U B.locs B.cells B.slots ∧ PostX ⟨T.setVm vm₁, locs, cells, slots⟩ (Value.ref b :: argsL).toArray q B ∧
      Steps p.tables e below (T.setTop g) ((B.U.setTop { g with stack := rest }).pushFrame (.throwing q))) := by
  obtain ⟨mk, methM, hnamed, hmethM, hstM, habM⟩ := Cond.instanceMethod_spec hinst
  obtain ⟨m8, methM', cM, hn8, hmethM', -, -, -, -, -, -, hsigM⟩ := Cond.codeWith_spec hcode
  cases Option.some.inj (hn8.symm.trans hnamed)
  cases hmethM.symm.trans hmethM'
  obtain ⟨c2, r2, m2, q1, q2, q3, q4, kP, hkP, hkPi⟩ := Cond.selects_spec hsel
  cases hcls.symm.trans q1
  cases (State.methodFound?_of_named hnamed hy).symm.trans q2
  cases hnamed.symm.trans q3
  have hselP : selectMethod e.platform s.vm cellB.cls mk = .method mk := by rw [Launch.admits_selectMethod X.admits]; exact q4
  obtain ⟨vm₁, X₁, hstep₁⟩ := X.invokevirtual hexec hown hlink hnamed hmethM hstM hkP hkPi hy (a := b) (cell := cellB) hcell
    (fun z h => by rw [h] at hobj; cases hobj) hselP hmethM habM hkP hkPi (g := g) hg (argsL := argsL) (rest := rest) (hlen _ hsigM) hstack hdg
  rcases hK m meth c ⟨T.setVm vm₁, locs, cells, slots⟩ { g with stack := rest } (.invokevirtual index) mk (Value.ref b :: argsL).toArray X₁ hg hsize hdg hW (X₁.named hnamed) (hpre vm₁ X₁.warmed) with ⟨v, B, X', hpost, hsteps⟩ | ⟨q, B, X', hpost, hsteps⟩
  · exact Or.inl ⟨v, vm₁, B, X₁.warmed, X', hpost, fun target h => hstep₁ _ fun acts => by rw [doInvoke_state]; exact hsteps.trans h⟩
  · exact Or.inr ⟨q, vm₁, B, X₁.warmed, X', hpost, hstep₁ _ fun acts => by rw [doInvoke_state]; exact hsteps⟩
theorem vx_callSX (X : Stand p l e R s m args below meth c T locs cells slots) (hexec : p.tables.exec = Jvm.exec) {own : String} {index : Nat} {y : MethodName} {bytes : ByteArray} {maxL : Nat} {ret : Option FieldType} {hh : List (Nat × Nat × Nat × Nat)}
    (hown : s.vm.findClass own = some m.cls) (hlink : (Cond.methodLink own index y).before args s = true) (hstat : (Cond.static y).before args s = true) (hinit : (Cond.initialized y.cls).before args s = true)
    (hcode : (Cond.codeWith y bytes maxL ret hh).before args s = true) (hy : y.cls ≠ "java/lang/invoke/MethodHandle" ∧ y.cls ≠ "java/lang/invoke/VarHandle")
    {W9 : Nat} {Pre : Pt → Array Value → Prop} {Post : Pt → Array Value → Option Value → Pt → Prop} {PostX : Pt → Array Value → Addr → Pt → Prop} (hK : vx_Back l R p e below s args y 3 W9 Pre Post PostX)
    {g : JFrame} (hg : g.method = m) (hsize : g.locals.size = c.maxLocals) {argsL rest : List Value} (hlen : ∀ sig, parseMethodDescriptor y.desc = some sig → argsL.length = sig.parameters.length)
    (hstack : g.stack = argsL.reverse ++ rest) (hW : 2 * g.monitorRoom + (rest.map fun v => v.category).sum ≤ W9) (hdg : decode c.code g.pc = .ok (.invokestatic index, 3))
    (hpre : ∀ vm₁, s.WarmedH vm₁ → Pre ⟨T.setVm vm₁, locs, cells, slots⟩ argsL.toArray) :
    (∃ (v : Option Value) (vm₁ : Vm) (B : Pt), s.WarmedH vm₁ ∧ Stand p l e R s m args below meth c B.U B.locs B.cells B.slots ∧ Post ⟨T.setVm vm₁, locs, cells, slots⟩ argsL.toArray v B ∧
      ∀ target, Steps p.tables e below (B.U.setTop { g with pc := g.pc + 3, stack := v.toList ++ rest }) target → Steps p.tables e below (T.setTop g) target) ∨
    (∃ (q : Addr) (vm₁ : Vm) (B : Pt), s.WarmedH vm₁ ∧ Stand p l e R s m args below meth c B.U B.locs B.cells B.slots ∧ PostX ⟨T.setVm vm₁, locs, cells, slots⟩ argsL.toArray q B ∧
      Steps p.tables e below (T.setTop g) ((B.U.setTop { g with stack := rest }).pushFrame (.throwing q))) := by
  obtain ⟨mk, methM, cM, hnamed, hmethM, -, -, -, -, -, -, hsigM⟩ := Cond.codeWith_spec hcode
  have hstatic : methM.isStatic = true := Cond.static_spec hnamed hmethM hstat
  obtain ⟨kP, hkP, -⟩ := className_of_methodNamed hnamed
  have hinitP : kP.init = .initialized := Cond.initialized_spec (findClass_of_methodNamed hnamed) hkP hinit
  obtain ⟨vm₁, X₁, hstep₁⟩ := X.invokestatic hexec hown hlink hnamed hmethM hstatic hkP hinitP hy (g := g) hg (argsL := argsL) (rest := rest) (hlen _ hsigM) hstack hdg
  rcases hK m meth c ⟨T.setVm vm₁, locs, cells, slots⟩ { g with stack := rest } (.invokestatic index) mk argsL.toArray X₁ hg hsize hdg hW (X₁.named hnamed) (hpre vm₁ X₁.warmed) with ⟨v, B, X', hpost, hsteps⟩ | ⟨q, B, X', hpost, hsteps⟩
  · exact Or.inl ⟨v, vm₁, B, X₁.warmed, X', hpost, fun target h => hstep₁ _ fun acts => by rw [doInvoke_state]; exact hsteps.trans h⟩
  · exact Or.inr ⟨q, vm₁, B, X₁.warmed, X', hpost, hstep₁ _ fun acts => by rw [doInvoke_state]; exact hsteps⟩
theorem vx_callVW (X : Stand p l e R s m args below meth c T locs cells slots) (hexec : p.tables.exec = Jvm.exec) {own C : String} {index : Nat} {y : MethodName} {bytes : ByteArray} {maxL : Nat} {ret : Option FieldType} {hh : List (Nat × Nat × Nat × Nat)}
    (hown : s.vm.findClass own = some m.cls) (hlink : (Cond.methodLink own index y).before args s = true) (hinst : (Cond.instanceMethod y).before args s = true) (hsel : (Cond.selects C y y).before args s = true)
    (hcode : (Cond.codeWith y bytes maxL ret hh).before args s = true) (hy : y.cls ≠ "java/lang/invoke/MethodHandle" ∧ y.cls ≠ "java/lang/invoke/VarHandle")
    {W9 : Nat} {Pre : Pt → Array Value → Prop} {Post : Pt → Array Value → Option Value → Pt → Prop} (hK : Back l R p e below s args y 3 W9 Pre Post)
    {b : Addr} {cellB : Cell} (hcell : T.heap[b]? = some cellB) (hobj : cellB.vm.isStatics = false) (hcls : s.vm.findClass C = some cellB.cls)
    {g : JFrame} (hg : g.method = m) (hsize : g.locals.size = c.maxLocals) {argsL rest : List Value} (hlen : ∀ sig, parseMethodDescriptor y.desc = some sig → argsL.length = sig.parameters.length)
    (hstack : g.stack = argsL.reverse ++ .ref b :: rest) (hW : 2 * g.monitorRoom + (rest.map fun v => v.category).sum ≤ W9) (hdg : decode c.code g.pc = .ok (.invokevirtual index, 3))
    (hpre : ∀ vm₁, s.WarmedH vm₁ → Pre ⟨T.setVm vm₁, locs, cells, slots⟩ (Value.ref b :: argsL).toArray) :
    ∃ (v : Option Value) (vm₁ : Vm) (B : Pt), s.WarmedH vm₁ ∧ Stand p l e R s m args below meth c B.U B.locs B.cells B.slots ∧ Post ⟨T.setVm vm₁, locs, cells, slots⟩ (Value.ref b :: argsL).toArray v B ∧
      ∀ target, Steps p.tables e below (B.U.setTop { g with pc := g.pc + 3, stack := v.toList ++ rest }) target → Steps p.tables e below (T.setTop g) target := by
  obtain ⟨mk, methM, hnamed, hmethM, hstM, habM⟩ := Cond.instanceMethod_spec hinst
  obtain ⟨m8, methM', cM, hn8, hmethM', -, -, -, -, -, -, hsigM⟩ := Cond.codeWith_spec hcode
  cases Option.some.inj (hn8.symm.trans hnamed)
  cases hmethM.symm.trans hmethM'
  obtain ⟨c2, r2, m2, q1, q2, q3, q4, kP, hkP, hkPi⟩ := Cond.selects_spec hsel
  cases hcls.symm.trans q1
  cases (State.methodFound?_of_named hnamed hy).symm.trans q2
  cases hnamed.symm.trans q3
  have hselP : selectMethod e.platform s.vm cellB.cls mk = .method mk := by rw [Launch.admits_selectMethod X.admits]; exact q4
  obtain ⟨vm₁, X₁, hstep₁⟩ := X.invokevirtual hexec hown hlink hnamed hmethM hstM hkP hkPi hy (a := b) (cell := cellB) hcell
    (fun z h => by rw [h] at hobj; cases hobj) hselP hmethM habM hkP hkPi (g := g) hg (argsL := argsL) (rest := rest) (hlen _ hsigM) hstack hdg
  obtain ⟨v, B, X', hpost, hsteps⟩ := hK m meth c ⟨T.setVm vm₁, locs, cells, slots⟩ { g with stack := rest } (.invokevirtual index) mk (Value.ref b :: argsL).toArray X₁ hg hsize hdg hW (X₁.named hnamed) (hpre vm₁ X₁.warmed)
  exact ⟨v, vm₁, B, X₁.warmed, X', hpost, fun target h => hstep₁ _ fun acts => by rw [doInvoke_state]; exact hsteps.trans h⟩
abbrev vx_CVW (R : Room) (s : State) (args : Array Value) (own C : String) (index : Nat) (y : MethodName) (bytes : ByteArray) (maxL : Nat) (ret : Option FieldType) (hh : List (Nat × Nat × Nat × Nat)) (ws : List Cond) (rm : Room) (mc ms n : Nat) : Prop :=
  (rm.cells = mc ∧ rm.slots = ms ∧ rm.frames + 1 ≤ R.frames ∧ 8 + (maxL + 11) + rm.locals ≤ R.locals ∧ (∀ w ∈ ws, ∀ (a' : Array Value) (U : State), s.WarmedH U.vm → w.before a' U = true) ∧ Cond.codeWith y bytes maxL ret hh ∈ ws) ∧
  (Cond.codeWith y bytes maxL ret hh).before args s = true ∧ (Cond.initialized y.cls).before args s = true ∧ (y.cls ≠ "java/lang/invoke/MethodHandle" ∧ y.cls ≠ "java/lang/invoke/VarHandle") ∧
  (∀ sig, parseMethodDescriptor y.desc = some sig → n = sig.parameters.length) ∧ (Cond.methodLink own index y).before args s = true ∧ (Cond.instanceMethod y).before args s = true ∧ (Cond.selects C y y).before args s = true
theorem vx_cwVW {own C : String} {index maxL mc ms : Nat} {y : MethodName} {bytes : ByteArray} {ret : Option FieldType} {hh : List (Nat × Nat × Nat × Nat)} {Ts ws ws' : List Cond} {rm : Room} (n : Nat) (ht : ∀ w ∈ Ts, w.before args s = true) (hT : GoodIn Ts (wsV own index C y ws)) (hw : ws = Cond.codeWith y bytes maxL ret hh :: ws') (hrc : rm.cells = mc) (hrs : rm.slots = ms)
    (hd : y.cls = C ∧ y.cls ≠ "java/lang/invoke/MethodHandle" ∧ y.cls ≠ "java/lang/invoke/VarHandle" ∧ (parseMethodDescriptor y.desc).map (fun d => d.parameters.length) = some n) (hR : rm.frames + 1 ≤ R.frames ∧ 8 + (maxL + 11) + rm.locals ≤ R.locals) :
    vx_CVW R s args own C index y bytes maxL ret hh ws rm mc ms n := by
  obtain ⟨hC, hd⟩ := hd
  subst hC
  have ok : ∀ w ∈ wsV own index y.cls y ws, w.before args s = true := fun w h => ht w (hT w h).1
  have hG : GoodIn Ts ws := fun w h => hT w (by unfold wsV; exact List.mem_append_right _ h)
  have hc : Cond.codeWith y bytes maxL ret hh ∈ ws := by rw [hw]; exact List.mem_cons_self
  refine ⟨⟨hrc, hrs, hR.1, hR.2, pay_in ht hG, hc⟩, ht _ (hG _ hc).1, ok _ (by simp [wsV]), ⟨hd.1, hd.2.1⟩, fun sig h => ?_, ok _ (by simp [wsV]), ok _ (by simp [wsV]), ok _ (by simp [wsV])⟩
  have h2 := hd.2.2
  rw [h] at h2
  exact (Option.some.inj h2).symm
theorem vx_runVW {y : MethodName} {bytes cc : ByteArray} {maxL nL mc ms n index : Nat} {ret : Option FieldType} {hh : List (Nat × Nat × Nat × Nat)} {ws : List Cond} {rm : Room} {Pc : Array Value → State → Prop} {Qc : Array Value → State → Outcome → State → Prop} {free : Addr → Prop} {Ts : List Cond} {own C : String} {b : Addr} {As rest : List Value} {g : JFrame}
    (S : CallFix p m c cc nL s args Ts own) (hM : Met l y ws rm Pc Qc mc ms free) (cw : vx_CVW R s args own C index y bytes maxL ret hh ws rm mc ms n) (hp : PreV s H C b Pc As)
    (hg : g.method = m) (hn : As.length = n) (hsize : g.locals.size = nL) (hstack : g.stack = As.reverse ++ .ref b :: rest) (hW : 2 * g.monitorRoom + (rest.map fun v => v.category).sum ≤ 8) (hdg : decode cc g.pc = .ok (.invokevirtual index, 3)) (hf : cells + mc ≤ R.cells ∧ slots + ms ≤ R.slots) :
    va_Run p l e R s m args below meth c H locs cells slots mc ms g rest (Qc (Value.ref b :: As).toArray) free := by
  obtain ⟨⟨hrc, hrs, hfr, hlo, hws, hcw⟩, hcode, hini, hy, hlen, hl, hin, hse⟩ := cw
  have hK : Back l R p e below s args y 3 8 (PreOf R mc ms Pc) (PostOf Qc mc ms free) := va_backW (hh := hh) (bytes := bytes) (maxL := maxL) (ret := ret) hM hp.1 hrc hrs hfr hlo hws hcw (fun a' U hW => word_at hW (Or.inl (by first | rfl | simp [Cond.onTables, Cond.keeps, Cond.steady])) hini)
  obtain ⟨hx, hb, hml, ho, -⟩ := S
  obtain ⟨-, ⟨cellB, hcB, hoB, hclB⟩, hPc⟩ := hp
  intro T hT X
  obtain ⟨v, vm₁, ⟨U', l2, c2, s2⟩, hW₁, X', ⟨g', mk, t, L, e1, e2, hq, h1, hL, h2, h3⟩, st⟩ := vx_callVW X hx (C := C) (hh := hh) (bytes := bytes) (maxL := maxL) (ret := ret) ho hl hin hse hcode hy hK (by rw [hT]; exact hcB) hoB hclB hg (hsize.trans hml.symm) (argsL := As) (rest := rest) (fun sig h => hn.trans (hlen sig h)) hstack hW (by rw [hb]; exact hdg)
    (fun vm₁ hW₁ => ⟨hf.1, hf.2, hPc (T.setVm vm₁) hT hW₁⟩)
  dsimp only [Pt.U, Pt.locs, Pt.cells, Pt.slots] at X' e1 e2 h1 h2 h3 st
  subst h1; subst h2; subst h3
  exact ⟨v, (T.setVm vm₁).calling g' mk (Value.ref b :: As).toArray, t, U', L, hT, X', hL, e1, e2, hq, st⟩
section
variable {y : MethodName} {bytes cc : ByteArray} {maxL nL mc ms n index : Nat} {ret : Option FieldType} {ws : List Cond} {rm : Room} {Pc : Array Value → State → Prop} {Qc : Array Value → State → Outcome → State → Prop} {XC : String → State → State → Prop} {free : Addr → Prop} {Ts : List Cond} {own C : String} {b : Addr} {As rest : List Value} {g : JFrame}
theorem vx_runVX {hh : List (Nat × Nat × Nat × Nat)} (S : CallFix p m c cc nL s args Ts own) (hM : vx_Met l y ws rm Pc Qc XC mc ms free) (cw : vx_CVW R s args own C index y bytes maxL ret hh ws rm mc ms n) (hp : PreV s H C b Pc As)
    (hg : g.method = m) (hn : As.length = n) (hsize : g.locals.size = nL) (hstack : g.stack = As.reverse ++ .ref b :: rest) (hW : 2 * g.monitorRoom + (rest.map fun v => v.category).sum ≤ 8) (hdg : decode cc g.pc = .ok (.invokevirtual index, 3)) (hf : cells + mc ≤ R.cells ∧ slots + ms ≤ R.slots) :
    vx_Run p l e R s m args below meth c H locs cells slots mc ms g rest (Qc (Value.ref b :: As).toArray) XC free := by
  obtain ⟨⟨hrc, hrs, hfr, hlo, hws, hcw⟩, hcode, hini, hy, hlen, hl, hin, hse⟩ := cw
  have hK : vx_Back l R p e below s args y 3 8 (PreOf R mc ms Pc) (PostOf Qc mc ms free) (vx_Post XC mc ms free) := vx_backW (hh := hh) (bytes := bytes) (maxL := maxL) (ret := ret) hM hp.1 hrc hrs hfr hlo hws hcw (fun a' U hW => word_at hW (Or.inl (by first | rfl | simp [Cond.onTables, Cond.keeps, Cond.steady])) hini)
  obtain ⟨hx, hb, hml, ho, -⟩ := S
  obtain ⟨-, ⟨cellB, hcB, hoB, hclB⟩, hPc⟩ := hp
  intro T hT X
  rcases vx_callVX X hx (C := C) (hh := hh) (bytes := bytes) (maxL := maxL) (ret := ret) ho hl hin hse hcode hy hK (by rw [hT]; exact hcB) hoB hclB hg (hsize.trans hml.symm) (argsL := As) (rest := rest) (fun sig h => hn.trans (hlen sig h)) hstack hW (by rw [hb]; exact hdg)
    (fun vm₁ hW₁ => ⟨hf.1, hf.2, hPc (T.setVm vm₁) hT hW₁⟩) with ⟨v, vm₁, ⟨U', l2, c2, s2⟩, hW₁, X', ⟨g', mk, t, L, e1, e2, hq, h1, hL, h2, h3⟩, st⟩ | ⟨q, vm₁, ⟨U', l2, c2, s2⟩, hW₁, X', ⟨g', mk, t, L, E, ce, e1, e2, hq, hce, hcv, hcl, h1, hL, h2, h3⟩, st⟩
  · dsimp only [Pt.U, Pt.locs, Pt.cells, Pt.slots] at X' e1 e2 h1 h2 h3 st
    subst h1; subst h2; subst h3
    exact Or.inl ⟨v, (T.setVm vm₁).calling g' mk (Value.ref b :: As).toArray, t, U', L, hT, X', hL, e1, e2, hq, st⟩
  · dsimp only [Pt.U, Pt.locs, Pt.cells, Pt.slots] at X' e1 e2 h1 h2 h3 st hcl
    subst h1; subst h2; subst h3
    exact Or.inr ⟨q, (T.setVm vm₁).calling g' mk (Value.ref b :: As).toArray, t, U', L, E, ce, hT, X', hL, e1, e2, hq, hce, hcv, vx_cls hW₁ hcl, st⟩
theorem vx_runSX {hh : List (Nat × Nat × Nat × Nat)} (S : CallFix p m c cc nL s args Ts own) (hM : vx_Met l y ws rm Pc Qc XC mc ms free) (cw : vx_CSW R s args own index y bytes maxL ret hh ws rm mc ms n) (hp : PreS s H Pc As)
    (hg : g.method = m) (hn : As.length = n) (hsize : g.locals.size = nL) (hstack : g.stack = As.reverse ++ rest) (hW : 2 * g.monitorRoom + (rest.map fun v => v.category).sum ≤ 8) (hdg : decode cc g.pc = .ok (.invokestatic index, 3)) (hf : cells + mc ≤ R.cells ∧ slots + ms ≤ R.slots) :
    vx_Run p l e R s m args below meth c H locs cells slots mc ms g rest (Qc As.toArray) XC free := by
  obtain ⟨⟨hrc, hrs, hfr, hlo, hws, hcw⟩, hcode, hini, hy, hlen, hl, hstt⟩ := cw
  have hK : vx_Back l R p e below s args y 3 8 (PreOf R mc ms Pc) (PostOf Qc mc ms free) (vx_Post XC mc ms free) := vx_backW (hh := hh) (bytes := bytes) (maxL := maxL) (ret := ret) hM hp.1 hrc hrs hfr hlo hws hcw (fun a' U hW => word_at hW (Or.inl (by first | rfl | simp [Cond.onTables, Cond.keeps, Cond.steady])) hini)
  obtain ⟨hx, hb, hml, ho, -⟩ := S
  intro T hT X
  rcases vx_callSX X hx (hh := hh) (bytes := bytes) (maxL := maxL) (ret := ret) ho hl hstt hini hcode hy hK hg (hsize.trans hml.symm) (argsL := As) (rest := rest) (fun sig h => hn.trans (hlen sig h)) hstack hW (by rw [hb]; exact hdg)
    (fun vm₁ hW₁ => ⟨hf.1, hf.2, hp.2 (T.setVm vm₁) hT hW₁⟩) with ⟨v, vm₁, ⟨U', l2, c2, s2⟩, hW₁, X', ⟨g', mk, t, L, e1, e2, hq, h1, hL, h2, h3⟩, st⟩ | ⟨q, vm₁, ⟨U', l2, c2, s2⟩, hW₁, X', ⟨g', mk, t, L, E, ce, e1, e2, hq, hce, hcv, hcl, h1, hL, h2, h3⟩, st⟩
  · dsimp only [Pt.U, Pt.locs, Pt.cells, Pt.slots] at X' e1 e2 h1 h2 h3 st
    subst h1; subst h2; subst h3
    exact Or.inl ⟨v, (T.setVm vm₁).calling g' mk As.toArray, t, U', L, hT, X', hL, e1, e2, hq, st⟩
  · dsimp only [Pt.U, Pt.locs, Pt.cells, Pt.slots] at X' e1 e2 h1 h2 h3 st hcl
    subst h1; subst h2; subst h3
    exact Or.inr ⟨q, (T.setVm vm₁).calling g' mk As.toArray, t, U', L, E, ce, hT, X', hL, e1, e2, hq, hce, hcv, vx_cls hW₁ hcl, st⟩
end
end VXH
theorem vx_ofWH {l : Launch} {y : MethodName} {ws ws' : List Cond} {rm : Room} {Pc : Array Value → State → Prop} {Qc : Array Value → State → Outcome → State → Prop} {XC : String → State → State → Prop} {mc ms : Nat} {free : Addr → Prop} {cc : ByteArray} {maxL : Nat} {ret : Option FieldType} {hh : List (Nat × Nat × Nat × Nat)}
    (hy : plainName y.cls = true) (hw : ws = Cond.codeWith y cc maxL ret hh :: ws')
    (body : ∀ p e s m args below meth c s₁, BodyLoose p l y (headSpec ws rm) cc maxL ret e s m args below meth c s₁ → c.maxLocals = maxL → Pc args s →
      W p l e (headSpec ws rm).room s m args below meth c s.heap [] 0 0 (vx_MQ below Qc XC args s mc ms free) (entryFrame m args maxL)) : vx_Met l y ws rm Pc Qc XC mc ms free := by
  refine MetFree.of_bodyS (code := cc) (maxLocals := maxL) (ret := ret) hy ?_ ?_
  · intro args s m h hn
    obtain ⟨m9, meth, c, hn9, h1, h2, h3, h4, -, h5, h6, -⟩ := Cond.codeWith_spec (atoms_spec (ws := ws) h _ (by rw [hw]; exact List.mem_cons_self))
    cases hn.symm.trans hn9
    exact ⟨meth, c, h1, h2, h3, h4, h5, h6⟩
  · intro p e s m args below meth c s₁ B hml hP _
    have hh0 : s₁.heap = s.heap := by rw [B.state]; rfl
    obtain ⟨t, a1, o, b1, b2, b3⟩ := body p e s m args below meth c s₁ B hml hP s₁ hh0 (Stand.of_body B)
    exact ⟨t, o, a1, b1, b2, b3⟩
/-! ===== END ===== -/

/-! ===== BEGIN printed: names, fields, word lists, decode rows ===== -/
def RX0 : String := "SurveyHouse$Interviews"
def TX0 : u_T := fun k => match k with
  | 0 => ("SurveyHouse$Interviews", "size", "I", false)
  | 1 => ("SurveyHouse$Interviews", "people", "[I", true)
  | 2 => ("SurveyHouse$Interviews", "cells", "[I", true)
  | 3 => ("SurveyHouse$Interviews", "states", "[I", true)
  | 4 => ("SurveyHouse$Interviews", "places", "[I", true)
  | 5 => ("SurveyHouse$Interviews", "counts", "[I", true)
  | 6 => ("SurveyHouse$Interviews", "seconds", "[I", true)
  | _ => ("SurveyHouse$Interviews", "answers", "[I", true)
def tyX0 : Nat → FieldType := fun k => match k with
  | 0 => .int
  | 1 => .array .int
  | 2 => .array .int
  | 3 => .array .int
  | 4 => .array .int
  | 5 => .array .int
  | 6 => .array .int
  | _ => .array .int
abbrev wsX00 : List Cond := u_ws RX0 TX0 8
theorem nmX0 : ∀ a, a < 8 → ∀ b, b < 8 → a ≠ b → (TX0 a).2.1 ≠ (TX0 b).2.1 := by decide +kernel
theorem tyX0_ok : ∀ k, k < 8 → parseFieldDescriptor (TX0 k).2.2.1 = some (tyX0 k) := by decide +kernel
abbrev cX0_init : ByteArray := prog_2_method_1_code
def yX0_init : MethodName := ⟨RX0, "<init>", "()V"⟩
abbrev cX0_size : ByteArray := prog_2_method_2_code
def yX0_size : MethodName := ⟨RX0, "size", "()I"⟩
abbrev cX0_add : ByteArray := prog_2_method_3_code
def yX0_add : MethodName := ⟨RX0, "add", "(II)I"⟩
abbrev cX0_personOf : ByteArray := prog_2_method_4_code
def yX0_personOf : MethodName := ⟨RX0, "personOf", "(I)I"⟩
abbrev cX0_cellOf : ByteArray := prog_2_method_5_code
def yX0_cellOf : MethodName := ⟨RX0, "cellOf", "(I)I"⟩
abbrev cX0_stateOf : ByteArray := prog_2_method_6_code
def yX0_stateOf : MethodName := ⟨RX0, "stateOf", "(I)I"⟩
abbrev cX0_setState : ByteArray := prog_2_method_7_code
def yX0_setState : MethodName := ⟨RX0, "setState", "(II)V"⟩
abbrev cX0_isComplete : ByteArray := prog_2_method_8_code
def yX0_isComplete : MethodName := ⟨RX0, "isComplete", "(I)Z"⟩
abbrev cX0_placeOf : ByteArray := prog_2_method_9_code
def yX0_placeOf : MethodName := ⟨RX0, "placeOf", "(I)I"⟩
abbrev cX0_moveTo : ByteArray := prog_2_method_10_code
def yX0_moveTo : MethodName := ⟨RX0, "moveTo", "(II)V"⟩
abbrev cX0_countOf : ByteArray := prog_2_method_11_code
def yX0_countOf : MethodName := ⟨RX0, "countOf", "(I)I"⟩
abbrev cX0_secondsOf : ByteArray := prog_2_method_12_code
def yX0_secondsOf : MethodName := ⟨RX0, "secondsOf", "(I)I"⟩
abbrev cX0_answerTo : ByteArray := prog_2_method_13_code
def yX0_answerTo : MethodName := ⟨RX0, "answerTo", "(II)I"⟩
abbrev cX0_note : ByteArray := prog_2_method_14_code
def yX0_note : MethodName := ⟨RX0, "note", "(IIII)V"⟩
abbrev cX0_isTaken : ByteArray := prog_2_method_15_code
def yX0_isTaken : MethodName := ⟨RX0, "isTaken", "(I)Z"⟩
abbrev cX0_countIn : ByteArray := prog_2_method_16_code
def yX0_countIn : MethodName := ⟨RX0, "countIn", "(I)I"⟩
abbrev cX0_isToClean : ByteArray := prog_2_method_17_code
def yX0_isToClean : MethodName := ⟨RX0, "isToClean", "(I)Z"⟩
abbrev cX0_countToClean : ByteArray := prog_2_method_18_code
def yX0_countToClean : MethodName := ⟨RX0, "countToClean", "(I)I"⟩
abbrev cX0_isTooFast : ByteArray := prog_2_method_19_code
def yX0_isTooFast : MethodName := ⟨RX0, "isTooFast", "(I)Z"⟩
abbrev cX0_isStraightLine : ByteArray := prog_2_method_20_code
def yX0_isStraightLine : MethodName := ⟨RX0, "isStraightLine", "(I)Z"⟩
abbrev cX0_isCounted : ByteArray := prog_2_method_21_code
def yX0_isCounted : MethodName := ⟨RX0, "isCounted", "(III)Z"⟩
def RX1 : String := "SurveyHouse$Panel"
def TX1 : u_T := fun k => match k with
  | 0 => ("SurveyHouse$Panel", "size", "I", false)
  | 1 => ("SurveyHouse$Panel", "dayNumber", "I", false)
  | 2 => ("SurveyHouse$Panel", "cells", "[I", true)
  | 3 => ("SurveyHouse$Panel", "fatigue", "[I", true)
  | 4 => ("SurveyHouse$Panel", "points", "[I", true)
  | _ => ("SurveyHouse$Panel", "latest", "[I", true)
def tyX1 : Nat → FieldType := fun k => match k with
  | 0 => .int
  | 1 => .int
  | 2 => .array .int
  | 3 => .array .int
  | 4 => .array .int
  | _ => .array .int
abbrev wsX10 : List Cond := u_ws RX1 TX1 6
theorem nmX1 : ∀ a, a < 6 → ∀ b, b < 6 → a ≠ b → (TX1 a).2.1 ≠ (TX1 b).2.1 := by decide +kernel
theorem tyX1_ok : ∀ k, k < 6 → parseFieldDescriptor (TX1 k).2.2.1 = some (tyX1 k) := by decide +kernel
abbrev cX1_init : ByteArray := prog_3_method_1_code
def yX1_init : MethodName := ⟨RX1, "<init>", "()V"⟩
abbrev cX1_size : ByteArray := prog_3_method_2_code
def yX1_size : MethodName := ⟨RX1, "size", "()I"⟩
abbrev cX1_today : ByteArray := prog_3_method_3_code
def yX1_today : MethodName := ⟨RX1, "today", "()I"⟩
abbrev cX1_add : ByteArray := prog_3_method_4_code
def yX1_add : MethodName := ⟨RX1, "add", "(I)I"⟩
abbrev cX1_cellOf : ByteArray := prog_3_method_5_code
def yX1_cellOf : MethodName := ⟨RX1, "cellOf", "(I)I"⟩
abbrev cX1_latestOf : ByteArray := prog_3_method_6_code
def yX1_latestOf : MethodName := ⟨RX1, "latestOf", "(I)I"⟩
abbrev cX1_pointsOf : ByteArray := prog_3_method_7_code
def yX1_pointsOf : MethodName := ⟨RX1, "pointsOf", "(I)I"⟩
abbrev cX1_addPoints : ByteArray := prog_3_method_8_code
def yX1_addPoints : MethodName := ⟨RX1, "addPoints", "(II)V"⟩
abbrev cX1_allPoints : ByteArray := prog_3_method_9_code
def yX1_allPoints : MethodName := ⟨RX1, "allPoints", "()I"⟩
abbrev cX1_countOf : ByteArray := prog_3_method_10_code
def yX1_countOf : MethodName := ⟨RX1, "countOf", "(I)I"⟩
abbrev cX1_fatigueIn : ByteArray := prog_3_method_11_code
def yX1_fatigueIn : MethodName := ⟨RX1, "fatigueIn", "(II)I"⟩
abbrev cX1_ask : ByteArray := prog_3_method_12_code
def yX1_ask : MethodName := ⟨RX1, "ask", "(II)V"⟩
abbrev cX1_beginDay : ByteArray := prog_3_method_13_code
def yX1_beginDay : MethodName := ⟨RX1, "beginDay", "()I"⟩
def RX2 : String := "SurveyHouse$Questionnaire"
def TX2 : u_T := fun k => match k with
  | 0 => ("SurveyHouse$Questionnaire", "size", "I", false)
  | 1 => ("SurveyHouse$Questionnaire", "rotated", "I", false)
  | 2 => ("SurveyHouse$Questionnaire", "answers", "[I", true)
  | 3 => ("SurveyHouse$Questionnaire", "ways", "[I", true)
  | _ => ("SurveyHouse$Questionnaire", "steps", "[I", true)
def tyX2 : Nat → FieldType := fun k => match k with
  | 0 => .int
  | 1 => .int
  | 2 => .array .int
  | 3 => .array .int
  | _ => .array .int
abbrev wsX20 : List Cond := u_ws RX2 TX2 5
theorem nmX2 : ∀ a, a < 5 → ∀ b, b < 5 → a ≠ b → (TX2 a).2.1 ≠ (TX2 b).2.1 := by decide +kernel
theorem tyX2_ok : ∀ k, k < 5 → parseFieldDescriptor (TX2 k).2.2.1 = some (tyX2 k) := by decide +kernel
abbrev cX2_init : ByteArray := prog_4_method_1_code
def yX2_init : MethodName := ⟨RX2, "<init>", "()V"⟩
abbrev cX2_size : ByteArray := prog_4_method_2_code
def yX2_size : MethodName := ⟨RX2, "size", "()I"⟩
abbrev cX2_has : ByteArray := prog_4_method_3_code
def yX2_has : MethodName := ⟨RX2, "has", "(I)Z"⟩
abbrev cX2_offers : ByteArray := prog_4_method_4_code
def yX2_offers : MethodName := ⟨RX2, "offers", "(II)Z"⟩
abbrev cX2_answersOf : ByteArray := prog_4_method_5_code
def yX2_answersOf : MethodName := ⟨RX2, "answersOf", "(I)I"⟩
abbrev cX2_add : ByteArray := prog_4_method_6_code
def yX2_add : MethodName := ⟨RX2, "add", "(I)I"⟩
abbrev cX2_rotation : ByteArray := prog_4_method_7_code
def yX2_rotation : MethodName := ⟨RX2, "rotation", "()I"⟩
abbrev cX2_setRotation : ByteArray := prog_4_method_8_code
def yX2_setRotation : MethodName := ⟨RX2, "setRotation", "(I)V"⟩
abbrev cX2_wayFrom : ByteArray := prog_4_method_9_code
def yX2_wayFrom : MethodName := ⟨RX2, "wayFrom", "(II)I"⟩
abbrev cX2_setWay : ByteArray := prog_4_method_10_code
def yX2_setWay : MethodName := ⟨RX2, "setWay", "(III)V"⟩
abbrev cX2_orEnd : ByteArray := prog_4_method_11_code
def yX2_orEnd : MethodName := ⟨RX2, "orEnd", "(I)I"⟩
abbrev cX2_firstOf : ByteArray := prog_4_method_12_code
def yX2_firstOf : MethodName := ⟨RX2, "firstOf", "(I)I"⟩
abbrev cX2_nextOf : ByteArray := prog_4_method_13_code
def yX2_nextOf : MethodName := ⟨RX2, "nextOf", "(IIII)I"⟩
abbrev cX2_stepsFrom : ByteArray := prog_4_method_14_code
def yX2_stepsFrom : MethodName := ⟨RX2, "stepsFrom", "(I)I"⟩
def RX3 : String := "SurveyHouse$Quotas"
def TX3 : u_T := fun k => match k with
  | 0 => ("SurveyHouse$Quotas", "edge", "I", false)
  | 1 => ("SurveyHouse$Quotas", "targets", "[I", true)
  | _ => ("SurveyHouse$Quotas", "filled", "[I", true)
def tyX3 : Nat → FieldType := fun k => match k with
  | 0 => .int
  | 1 => .array .int
  | _ => .array .int
abbrev wsX30 : List Cond := u_ws RX3 TX3 3
theorem nmX3 : ∀ a, a < 3 → ∀ b, b < 3 → a ≠ b → (TX3 a).2.1 ≠ (TX3 b).2.1 := by decide +kernel
theorem tyX3_ok : ∀ k, k < 3 → parseFieldDescriptor (TX3 k).2.2.1 = some (tyX3 k) := by decide +kernel
abbrev cX3_init : ByteArray := prog_5_method_1_code
def yX3_init : MethodName := ⟨RX3, "<init>", "()V"⟩
abbrev cX3_targetOf : ByteArray := prog_5_method_2_code
def yX3_targetOf : MethodName := ⟨RX3, "targetOf", "(I)I"⟩
abbrev cX3_setTarget : ByteArray := prog_5_method_3_code
def yX3_setTarget : MethodName := ⟨RX3, "setTarget", "(II)V"⟩
abbrev cX3_filledOf : ByteArray := prog_5_method_4_code
def yX3_filledOf : MethodName := ⟨RX3, "filledOf", "(I)I"⟩
abbrev cX3_fill : ByteArray := prog_5_method_5_code
def yX3_fill : MethodName := ⟨RX3, "fill", "(II)V"⟩
abbrev cX3_softEdge : ByteArray := prog_5_method_6_code
def yX3_softEdge : MethodName := ⟨RX3, "softEdge", "()I"⟩
abbrev cX3_setSoftEdge : ByteArray := prog_5_method_7_code
def yX3_setSoftEdge : MethodName := ⟨RX3, "setSoftEdge", "(I)V"⟩
abbrev cX3_lackOf : ByteArray := prog_5_method_8_code
def yX3_lackOf : MethodName := ⟨RX3, "lackOf", "(I)I"⟩
abbrev cX3_allTargets : ByteArray := prog_5_method_9_code
def yX3_allTargets : MethodName := ⟨RX3, "allTargets", "()I"⟩
abbrev cX3_isOpen : ByteArray := prog_5_method_10_code
def yX3_isOpen : MethodName := ⟨RX3, "isOpen", "(I)Z"⟩
abbrev cX3_isOpenWith : ByteArray := prog_5_method_11_code
def yX3_isOpenWith : MethodName := ⟨RX3, "isOpenWith", "(III)Z"⟩
abbrev cX3_countOpen : ByteArray := prog_5_method_12_code
def yX3_countOpen : MethodName := ⟨RX3, "countOpen", "()I"⟩
abbrev cX3_marginOf : ByteArray := prog_5_method_13_code
def yX3_marginOf : MethodName := ⟨RX3, "marginOf", "(I)I"⟩
abbrev cX3_sumOf : ByteArray := prog_5_method_14_code
def yX3_sumOf : MethodName := ⟨RX3, "sumOf", "([I)I"⟩
def RX4 : String := "SurveyHouse$Reports"
def TX4 : u_T := fun k => match k with
  | 0 => ("SurveyHouse$Reports", "size", "I", false)
  | _ => ("SurveyHouse$Reports", "shares", "[I", true)
def tyX4 : Nat → FieldType := fun k => match k with
  | 0 => .int
  | _ => .array .int
abbrev wsX40 : List Cond := u_ws RX4 TX4 2
theorem nmX4 : ∀ a, a < 2 → ∀ b, b < 2 → a ≠ b → (TX4 a).2.1 ≠ (TX4 b).2.1 := by decide +kernel
theorem tyX4_ok : ∀ k, k < 2 → parseFieldDescriptor (TX4 k).2.2.1 = some (tyX4 k) := by decide +kernel
abbrev cX4_init : ByteArray := prog_6_method_1_code
def yX4_init : MethodName := ⟨RX4, "<init>", "()V"⟩
abbrev cX4_size : ByteArray := prog_6_method_2_code
def yX4_size : MethodName := ⟨RX4, "size", "()I"⟩
abbrev cX4_add : ByteArray := prog_6_method_3_code
def yX4_add : MethodName := ⟨RX4, "add", "()I"⟩
abbrev cX4_put : ByteArray := prog_6_method_4_code
def yX4_put : MethodName := ⟨RX4, "put", "(IIII)V"⟩
abbrev cX4_shareIn : ByteArray := prog_6_method_5_code
def yX4_shareIn : MethodName := ⟨RX4, "shareIn", "(III)I"⟩
abbrev cX4_placeOf : ByteArray := prog_6_method_6_code
def yX4_placeOf : MethodName := ⟨RX4, "placeOf", "(III)I"⟩
def RX5 : String := "SurveyHouse$Weights"
def TX5 : u_T := fun k => match k with
  | _ => ("SurveyHouse$Weights", "weights", "[I", true)
def tyX5 : Nat → FieldType := fun k => match k with
  | _ => .array .int
abbrev wsX50 : List Cond := u_ws RX5 TX5 1
theorem nmX5 : ∀ a, a < 1 → ∀ b, b < 1 → a ≠ b → (TX5 a).2.1 ≠ (TX5 b).2.1 := by decide +kernel
theorem tyX5_ok : ∀ k, k < 1 → parseFieldDescriptor (TX5 k).2.2.1 = some (tyX5 k) := by decide +kernel
abbrev cX5_init : ByteArray := prog_7_method_1_code
def yX5_init : MethodName := ⟨RX5, "<init>", "()V"⟩
abbrev cX5_of : ByteArray := prog_7_method_2_code
def yX5_of : MethodName := ⟨RX5, "of", "(I)I"⟩
abbrev cX5_weigh : ByteArray := prog_7_method_3_code
def yX5_weigh : MethodName := ⟨RX5, "weigh", "(LSurveyHouse$Interviews;LSurveyHouse$Quotas;I)V"⟩
abbrev cX5_scale : ByteArray := prog_7_method_4_code
def yX5_scale : MethodName := ⟨RX5, "scale", "(LSurveyHouse$Interviews;II)V"⟩
abbrev cX5_sumOf : ByteArray := prog_7_method_5_code
def yX5_sumOf : MethodName := ⟨RX5, "sumOf", "(LSurveyHouse$Interviews;I)I"⟩
abbrev cX5_farthest : ByteArray := prog_7_method_6_code
def yX5_farthest : MethodName := ⟨RX5, "farthest", "(LSurveyHouse$Interviews;LSurveyHouse$Quotas;)I"⟩
abbrev cX5_shareOf : ByteArray := prog_7_method_7_code
def yX5_shareOf : MethodName := ⟨RX5, "shareOf", "(LSurveyHouse$Interviews;III)I"⟩
def RX6 : String := "SurveyHouse"
def TX6 : u_T := fun k => match k with
  | 0 => ("SurveyHouse", "form", "LSurveyHouse$Questionnaire;", true)
  | 1 => ("SurveyHouse", "quotas", "LSurveyHouse$Quotas;", true)
  | 2 => ("SurveyHouse", "panel", "LSurveyHouse$Panel;", true)
  | 3 => ("SurveyHouse", "interviews", "LSurveyHouse$Interviews;", true)
  | 4 => ("SurveyHouse", "weights", "LSurveyHouse$Weights;", true)
  | 5 => ("SurveyHouse", "trial", "LSurveyHouse$Weights;", true)
  | 6 => ("SurveyHouse", "reports", "LSurveyHouse$Reports;", true)
  | _ => ("SurveyHouse", "roundsTold", "I", false)
def tyX6 : Nat → FieldType := fun k => match k with
  | 0 => .object "SurveyHouse$Questionnaire"
  | 1 => .object "SurveyHouse$Quotas"
  | 2 => .object "SurveyHouse$Panel"
  | 3 => .object "SurveyHouse$Interviews"
  | 4 => .object "SurveyHouse$Weights"
  | 5 => .object "SurveyHouse$Weights"
  | 6 => .object "SurveyHouse$Reports"
  | _ => .int
abbrev wsX60 : List Cond := u_ws RX6 TX6 8
theorem nmX6 : ∀ a, a < 8 → ∀ b, b < 8 → a ≠ b → (TX6 a).2.1 ≠ (TX6 b).2.1 := by decide +kernel
theorem tyX6_ok : ∀ k, k < 8 → parseFieldDescriptor (TX6 k).2.2.1 = some (tyX6 k) := by decide +kernel
abbrev cX6_init : ByteArray := prog_1_method_1_code
def yX6_init : MethodName := ⟨RX6, "<init>", "()V"⟩
abbrev cX6_question : ByteArray := prog_1_method_2_code
def yX6_question : MethodName := ⟨RX6, "question", "(I)I"⟩
abbrev cX6_route : ByteArray := prog_1_method_3_code
def yX6_route : MethodName := ⟨RX6, "route", "(III)I"⟩
abbrev cX6_rotate : ByteArray := prog_1_method_4_code
def yX6_rotate : MethodName := ⟨RX6, "rotate", "(I)I"⟩
abbrev cX6_person : ByteArray := prog_1_method_6_code
def yX6_person : MethodName := ⟨RX6, "person", "(II)I"⟩
abbrev cX6_target : ByteArray := prog_1_method_7_code
def yX6_target : MethodName := ⟨RX6, "target", "(III)I"⟩
abbrev cX6_soft : ByteArray := prog_1_method_8_code
def yX6_soft : MethodName := ⟨RX6, "soft", "(I)I"⟩
abbrev cX6_ofCell : ByteArray := prog_1_method_9_code
def yX6_ofCell : MethodName := ⟨RX6, "ofCell", "(III)I"⟩
abbrev cX6_ofPerson : ByteArray := prog_1_method_10_code
def yX6_ofPerson : MethodName := ⟨RX6, "ofPerson", "(II)I"⟩
abbrev cX6_next : ByteArray := prog_1_method_11_code
def yX6_next : MethodName := ⟨RX6, "next", "()I"⟩
abbrev cX6_day : ByteArray := prog_1_method_12_code
def yX6_day : MethodName := ⟨RX6, "day", "()I"⟩
abbrev cX6_begin : ByteArray := prog_1_method_13_code
def yX6_begin : MethodName := ⟨RX6, "begin", "(I)I"⟩
abbrev cX6_answer : ByteArray := prog_1_method_14_code
def yX6_answer : MethodName := ⟨RX6, "answer", "(III)I"⟩
abbrev cX6_ofInterview : ByteArray := prog_1_method_15_code
def yX6_ofInterview : MethodName := ⟨RX6, "ofInterview", "(II)I"⟩
abbrev cX6_given : ByteArray := prog_1_method_16_code
def yX6_given : MethodName := ⟨RX6, "given", "(II)I"⟩
abbrev cX6_clean : ByteArray := prog_1_method_17_code
def yX6_clean : MethodName := ⟨RX6, "clean", "()I"⟩
abbrev cX6_many : ByteArray := prog_1_method_18_code
def yX6_many : MethodName := ⟨RX6, "many", "(I)I"⟩
abbrev cX6_off : ByteArray := prog_1_method_20_code
def yX6_off : MethodName := ⟨RX6, "off", "()I"⟩
abbrev cX6_share : ByteArray := prog_1_method_21_code
def yX6_share : MethodName := ⟨RX6, "share", "(III)I"⟩
abbrev cX6_hold : ByteArray := prog_1_method_23_code
def yX6_hold : MethodName := ⟨RX6, "hold", "()I"⟩
abbrev cX6_held : ByteArray := prog_1_method_24_code
def yX6_held : MethodName := ⟨RX6, "held", "(III)I"⟩
abbrev cX6_cleaned : ByteArray := prog_1_method_26_code
def yX6_cleaned : MethodName := ⟨RX6, "cleaned", "()I"⟩
abbrev cX6_nextIn : ByteArray := prog_1_method_27_code
def yX6_nextIn : MethodName := ⟨RX6, "nextIn", "(I)I"⟩
abbrev cX6_offWith : ByteArray := prog_1_method_28_code
def yX6_offWith : MethodName := ⟨RX6, "offWith", "(I)I"⟩
abbrev cX6_shortest : ByteArray := prog_1_method_29_code
def yX6_shortest : MethodName := ⟨RX6, "shortest", "(I)I"⟩
abbrev cX6_digest : ByteArray := prog_1_method_30_code
def yX6_digest : MethodName := ⟨RX6, "digest", "()J"⟩
abbrev cX6_digestCells : ByteArray := prog_1_method_31_code
def yX6_digestCells : MethodName := ⟨RX6, "digestCells", "(J)J"⟩
abbrev cX6_digestPeople : ByteArray := prog_1_method_32_code
def yX6_digestPeople : MethodName := ⟨RX6, "digestPeople", "(J)J"⟩
abbrev cX6_digestInterviews : ByteArray := prog_1_method_33_code
def yX6_digestInterviews : MethodName := ⟨RX6, "digestInterviews", "(J)J"⟩
abbrev cX6_digestQuestions : ByteArray := prog_1_method_34_code
def yX6_digestQuestions : MethodName := ⟨RX6, "digestQuestions", "(J)J"⟩
abbrev cX6_needNoInterview : ByteArray := prog_1_method_35_code
def yX6_needNoInterview : MethodName := ⟨RX6, "needNoInterview", "()V"⟩
abbrev cX6_needQuestion : ByteArray := prog_1_method_36_code
def yX6_needQuestion : MethodName := ⟨RX6, "needQuestion", "(I)V"⟩
abbrev cX6_needAnswer : ByteArray := prog_1_method_37_code
def yX6_needAnswer : MethodName := ⟨RX6, "needAnswer", "(II)V"⟩
abbrev cX6_needPerson : ByteArray := prog_1_method_38_code
def yX6_needPerson : MethodName := ⟨RX6, "needPerson", "(I)V"⟩
abbrev cX6_needInterview : ByteArray := prog_1_method_39_code
def yX6_needInterview : MethodName := ⟨RX6, "needInterview", "(I)V"⟩
abbrev cX6_needA : ByteArray := prog_1_method_40_code
def yX6_needA : MethodName := ⟨RX6, "needA", "(I)V"⟩
abbrev cX6_needCell : ByteArray := prog_1_method_41_code
def yX6_needCell : MethodName := ⟨RX6, "needCell", "(II)V"⟩
abbrev cX6_needRounds : ByteArray := prog_1_method_42_code
def yX6_needRounds : MethodName := ⟨RX6, "needRounds", "(I)V"⟩
abbrev cX6_isA : ByteArray := prog_1_method_43_code
def yX6_isA : MethodName := ⟨RX6, "isA", "(I)Z"⟩
abbrev cX6_isB : ByteArray := prog_1_method_44_code
def yX6_isB : MethodName := ⟨RX6, "isB", "(I)Z"⟩
abbrev cX6_cellAt : ByteArray := prog_1_method_45_code
def yX6_cellAt : MethodName := ⟨RX6, "cellAt", "(II)I"⟩
abbrev cX6_aOf : ByteArray := prog_1_method_46_code
def yX6_aOf : MethodName := ⟨RX6, "aOf", "(I)I"⟩
abbrev cX6_bOf : ByteArray := prog_1_method_47_code
def yX6_bOf : MethodName := ⟨RX6, "bOf", "(I)I"⟩
abbrev cX6_isIn : ByteArray := prog_1_method_48_code
def yX6_isIn : MethodName := ⟨RX6, "isIn", "(II)Z"⟩
abbrev cX6_canBeAsked : ByteArray := prog_1_method_49_code
def yX6_canBeAsked : MethodName := ⟨RX6, "canBeAsked", "(II)Z"⟩
abbrev cX6_countToAsk : ByteArray := prog_1_method_50_code
def yX6_countToAsk : MethodName := ⟨RX6, "countToAsk", "(I)I"⟩
abbrev cX6_countAllToAsk : ByteArray := prog_1_method_51_code
def yX6_countAllToAsk : MethodName := ⟨RX6, "countAllToAsk", "()I"⟩
abbrev cX6_firstToAsk : ByteArray := prog_1_method_52_code
def yX6_firstToAsk : MethodName := ⟨RX6, "firstToAsk", "(I)I"⟩
abbrev cX6_isAhead : ByteArray := prog_1_method_53_code
def yX6_isAhead : MethodName := ⟨RX6, "isAhead", "(III)Z"⟩
abbrev cX6_finish : ByteArray := prog_1_method_54_code
def yX6_finish : MethodName := ⟨RX6, "finish", "(I)V"⟩
abbrev cX6_reweigh : ByteArray := prog_1_method_55_code
def yX6_reweigh : MethodName := ⟨RX6, "reweigh", "()V"⟩
def RX7 : String := "SurveyHouseModel$Interview"
def TX7 : u_T := fun k => match k with
  | _ => ("", "", "", false)
def tyX7 : Nat → FieldType := fun k => match k with
  | _ => .int
abbrev wsX70 : List Cond := u_ws RX7 TX7 0
theorem nmX7 : ∀ a, a < 0 → ∀ b, b < 0 → a ≠ b → (TX7 a).2.1 ≠ (TX7 b).2.1 := by decide +kernel
theorem tyX7_ok : ∀ k, k < 0 → parseFieldDescriptor (TX7 k).2.2.1 = some (tyX7 k) := by decide +kernel
def RX8 : String := "SurveyHouseModel$Person"
def TX8 : u_T := fun k => match k with
  | _ => ("", "", "", false)
def tyX8 : Nat → FieldType := fun k => match k with
  | _ => .int
abbrev wsX80 : List Cond := u_ws RX8 TX8 0
theorem nmX8 : ∀ a, a < 0 → ∀ b, b < 0 → a ≠ b → (TX8 a).2.1 ≠ (TX8 b).2.1 := by decide +kernel
theorem tyX8_ok : ∀ k, k < 0 → parseFieldDescriptor (TX8 k).2.2.1 = some (tyX8 k) := by decide +kernel
def RX9 : String := "SurveyHouseModel$Question"
def TX9 : u_T := fun k => match k with
  | _ => ("", "", "", false)
def tyX9 : Nat → FieldType := fun k => match k with
  | _ => .int
abbrev wsX90 : List Cond := u_ws RX9 TX9 0
theorem nmX9 : ∀ a, a < 0 → ∀ b, b < 0 → a ≠ b → (TX9 a).2.1 ≠ (TX9 b).2.1 := by decide +kernel
theorem tyX9_ok : ∀ k, k < 0 → parseFieldDescriptor (TX9 k).2.2.1 = some (tyX9 k) := by decide +kernel
def RX10 : String := "SurveyHouseModel"
def TX10 : u_T := fun k => match k with
  | _ => ("", "", "", false)
def tyX10 : Nat → FieldType := fun k => match k with
  | _ => .int
abbrev wsX100 : List Cond := u_ws RX10 TX10 0
theorem nmX10 : ∀ a, a < 0 → ∀ b, b < 0 → a ≠ b → (TX10 a).2.1 ≠ (TX10 b).2.1 := by decide +kernel
theorem tyX10_ok : ∀ k, k < 0 → parseFieldDescriptor (TX10 k).2.2.1 = some (tyX10 k) := by decide +kernel
def RJx145de : String := "java/io/Serializable"
def TJx145de : u_T := fun k => match k with
  | _ => ("", "", "", false)
def tyJx145de : Nat → FieldType := fun k => match k with
  | _ => .int
abbrev wsJx145de0 : List Cond := u_ws RJx145de TJx145de 0
def RJ9 : String := "java/lang/Math"
def TJ9 : u_T := fun k => match k with
  | _ => ("", "", "", false)
def tyJ9 : Nat → FieldType := fun k => match k with
  | _ => .int
abbrev wsJ90 : List Cond := u_ws RJ9 TJ9 0
abbrev cJ9_abs_0f7a4 : ByteArray := prog_17_method_59_code
def yJ9_abs_0f7a4 : MethodName := ⟨RJ9, "abs", "(I)I"⟩
abbrev cJ9_max_7cf53 : ByteArray := prog_17_method_65_code
def yJ9_max_7cf53 : MethodName := ⟨RJ9, "max", "(II)I"⟩
abbrev cJ9_min_7cf53 : ByteArray := prog_17_method_69_code
def yJ9_min_7cf53 : MethodName := ⟨RJ9, "min", "(II)I"⟩
def RJ0 : String := "java/lang/String"
def TJ0 : u_T := fun k => match k with
  | _ => ("", "", "", false)
def tyJ0 : Nat → FieldType := fun k => match k with
  | _ => .int
abbrev wsJ00 : List Cond := u_ws RJ0 TJ0 0
def RJ7 : String := "java/util/Arrays"
def TJ7 : u_T := fun k => match k with
  | _ => ("", "", "", false)
def tyJ7 : Nat → FieldType := fun k => match k with
  | _ => .int
abbrev wsJ70 : List Cond := u_ws RJ7 TJ7 0
abbrev cJ7_fill_53178 : ByteArray := prog_21_method_103_code
def yJ7_fill_53178 : MethodName := ⟨RJ7, "fill", "([II)V"⟩
def RL : String := "SurveyHouseLaw"
abbrev cL_below : ByteArray := method_2_code
def yL_below : MethodName := ⟨RL, "below", "(II)I"⟩
abbrev cL_cell : ByteArray := method_3_code
def yL_cell : MethodName := ⟨RL, "cell", "([II)I"⟩
abbrev cL_law : ByteArray := code
def yL_law : MethodName := ⟨RL, "law", "([I)Z"⟩
abbrev cL_interviews : ByteArray := method_5_code
def yL_interviews : MethodName := ⟨RL, "interviews", "(LSurveyHouse;)I"⟩
abbrev cL_running : ByteArray := method_6_code
def yL_running : MethodName := ⟨RL, "running", "(LSurveyHouse;)I"⟩
abbrev cL_lacks : ByteArray := method_7_code
def yL_lacks : MethodName := ⟨RL, "lacks", "(LSurveyHouse;I)I"⟩
abbrev cL_isNext : ByteArray := method_8_code
def yL_isNext : MethodName := ⟨RL, "isNext", "(LSurveyHouse;II)Z"⟩
abbrev cL_isFair : ByteArray := method_9_code
def yL_isFair : MethodName := ⟨RL, "isFair", "(LSurveyHouse;I[I)Z"⟩
def wsJ7_fill_53178 : List Cond := .code yJ7_fill_53178 cJ7_fill_53178 4 none :: ([])
def wsX0_init : List Cond := .code yX0_init cX0_init 1 none :: ([.methodLink RX0 3 objectInit, .instanceMethod objectInit, .code objectInit ⟨#[0xb1]⟩ 1 none, .arrayClass .int, .fieldLink RX0 9 "SurveyHouse$Interviews" "people" "[I", .fieldLink RX0 15 "SurveyHouse$Interviews" "cells" "[I", .fieldLink RX0 18 "SurveyHouse$Interviews" "states" "[I", .fieldLink RX0 21 "SurveyHouse$Interviews" "places" "[I", .fieldLink RX0 24 "SurveyHouse$Interviews" "counts" "[I", .fieldLink RX0 27 "SurveyHouse$Interviews" "seconds" "[I", .fieldLink RX0 30 "SurveyHouse$Interviews" "answers" "[I", .methodLink RX0 33 yJ7_fill_53178, .static yJ7_fill_53178, .initialized RJ7, .code yJ7_fill_53178 cJ7_fill_53178 4 none] ++ wsX00)
def wsX0_size : List Cond := .code yX0_size cX0_size 1 (some .int) :: ([.fieldLink RX0 39 "SurveyHouse$Interviews" "size" "I"] ++ wsX00)
def wsX0_add : List Cond := .code yX0_add cX0_add 3 (some .int) :: ([.fieldLink RX0 9 "SurveyHouse$Interviews" "people" "[I", .fieldLink RX0 39 "SurveyHouse$Interviews" "size" "I", .fieldLink RX0 15 "SurveyHouse$Interviews" "cells" "[I", .fieldLink RX0 18 "SurveyHouse$Interviews" "states" "[I"] ++ wsX00)
def wsX0_personOf : List Cond := .code yX0_personOf cX0_personOf 2 (some .int) :: ([.fieldLink RX0 9 "SurveyHouse$Interviews" "people" "[I"] ++ wsX00)
def wsX0_cellOf : List Cond := .code yX0_cellOf cX0_cellOf 2 (some .int) :: ([.fieldLink RX0 15 "SurveyHouse$Interviews" "cells" "[I"] ++ wsX00)
def wsX0_stateOf : List Cond := .code yX0_stateOf cX0_stateOf 2 (some .int) :: ([.fieldLink RX0 18 "SurveyHouse$Interviews" "states" "[I"] ++ wsX00)
def wsX0_setState : List Cond := .code yX0_setState cX0_setState 3 none :: ([.fieldLink RX0 18 "SurveyHouse$Interviews" "states" "[I"] ++ wsX00)
def wsX0_isComplete : List Cond := .code yX0_isComplete cX0_isComplete 2 (some .boolean) :: ([.fieldLink RX0 18 "SurveyHouse$Interviews" "states" "[I"] ++ wsX00)
def wsX0_placeOf : List Cond := .code yX0_placeOf cX0_placeOf 2 (some .int) :: ([.fieldLink RX0 21 "SurveyHouse$Interviews" "places" "[I"] ++ wsX00)
def wsX0_moveTo : List Cond := .code yX0_moveTo cX0_moveTo 3 none :: ([.fieldLink RX0 21 "SurveyHouse$Interviews" "places" "[I"] ++ wsX00)
def wsX0_countOf : List Cond := .code yX0_countOf cX0_countOf 2 (some .int) :: ([.fieldLink RX0 24 "SurveyHouse$Interviews" "counts" "[I"] ++ wsX00)
def wsX0_secondsOf : List Cond := .code yX0_secondsOf cX0_secondsOf 2 (some .int) :: ([.fieldLink RX0 27 "SurveyHouse$Interviews" "seconds" "[I"] ++ wsX00)
def wsX0_answerTo : List Cond := .code yX0_answerTo cX0_answerTo 3 (some .int) :: ([.fieldLink RX0 30 "SurveyHouse$Interviews" "answers" "[I"] ++ wsX00)
def wsX0_note : List Cond := .code yX0_note cX0_note 5 none :: ([.fieldLink RX0 30 "SurveyHouse$Interviews" "answers" "[I", .fieldLink RX0 27 "SurveyHouse$Interviews" "seconds" "[I", .fieldLink RX0 24 "SurveyHouse$Interviews" "counts" "[I"] ++ wsX00)
def wsX0_isTaken : List Cond := .code yX0_isTaken cX0_isTaken 2 (some .boolean) :: ([.fieldLink RX0 39 "SurveyHouse$Interviews" "size" "I", .fieldLink RX0 18 "SurveyHouse$Interviews" "states" "[I"] ++ wsX00)
def wsX0_countIn : List Cond := .code yX0_countIn cX0_countIn 4 (some .int) :: ([.fieldLink RX0 39 "SurveyHouse$Interviews" "size" "I", .fieldLink RX0 18 "SurveyHouse$Interviews" "states" "[I"] ++ wsX00)
def wsX0_isTooFast : List Cond := .code yX0_isTooFast cX0_isTooFast 2 (some .boolean) :: ([.fieldLink RX0 27 "SurveyHouse$Interviews" "seconds" "[I", .fieldLink RX0 24 "SurveyHouse$Interviews" "counts" "[I"] ++ wsX00)
def wsX0_isStraightLine : List Cond := .code yX0_isStraightLine cX0_isStraightLine 5 (some .boolean) :: ([.fieldLink RX0 24 "SurveyHouse$Interviews" "counts" "[I", .methodLink RX0 56 yX0_answerTo, .instanceMethod yX0_answerTo, .selects RX0 yX0_answerTo yX0_answerTo, .initialized RX0, .code yX0_answerTo cX0_answerTo 3 (some .int), .fieldLink RX0 30 "SurveyHouse$Interviews" "answers" "[I"] ++ wsX00)
def wsX0_isToClean : List Cond := .code yX0_isToClean cX0_isToClean 2 (some .boolean) :: ([.methodLink RX0 43 yX0_isComplete, .instanceMethod yX0_isComplete, .selects RX0 yX0_isComplete yX0_isComplete, .initialized RX0, .code yX0_isComplete cX0_isComplete 2 (some .boolean), .fieldLink RX0 18 "SurveyHouse$Interviews" "states" "[I", .methodLink RX0 47 yX0_isTooFast, .instanceMethod yX0_isTooFast, .selects RX0 yX0_isTooFast yX0_isTooFast, .code yX0_isTooFast cX0_isTooFast 2 (some .boolean), .fieldLink RX0 27 "SurveyHouse$Interviews" "seconds" "[I", .fieldLink RX0 24 "SurveyHouse$Interviews" "counts" "[I", .methodLink RX0 50 yX0_isStraightLine, .instanceMethod yX0_isStraightLine, .selects RX0 yX0_isStraightLine yX0_isStraightLine, .code yX0_isStraightLine cX0_isStraightLine 5 (some .boolean), .methodLink RX0 56 yX0_answerTo, .instanceMethod yX0_answerTo, .selects RX0 yX0_answerTo yX0_answerTo, .code yX0_answerTo cX0_answerTo 3 (some .int), .fieldLink RX0 30 "SurveyHouse$Interviews" "answers" "[I"] ++ wsX00)
def wsX0_countToClean_r1 : List Cond := [Cond.fieldLink RX0 39 "SurveyHouse$Interviews" "size" "I", Cond.fieldLink RX0 15 "SurveyHouse$Interviews" "cells" "[I", Cond.methodLink RX0 53 yX0_isToClean, Cond.instanceMethod yX0_isToClean, Cond.selects RX0 yX0_isToClean yX0_isToClean, Cond.initialized RX0, Cond.code yX0_isToClean cX0_isToClean 2 (some .boolean), Cond.methodLink RX0 43 yX0_isComplete, Cond.instanceMethod yX0_isComplete, Cond.selects RX0 yX0_isComplete yX0_isComplete, Cond.code yX0_isComplete cX0_isComplete 2 (some .boolean), Cond.fieldLink RX0 18 "SurveyHouse$Interviews" "states" "[I", Cond.methodLink RX0 47 yX0_isTooFast, Cond.instanceMethod yX0_isTooFast, Cond.selects RX0 yX0_isTooFast yX0_isTooFast, Cond.code yX0_isTooFast cX0_isTooFast 2 (some .boolean), Cond.fieldLink RX0 27 "SurveyHouse$Interviews" "seconds" "[I", Cond.fieldLink RX0 24 "SurveyHouse$Interviews" "counts" "[I", Cond.methodLink RX0 50 yX0_isStraightLine, Cond.instanceMethod yX0_isStraightLine, Cond.selects RX0 yX0_isStraightLine yX0_isStraightLine, Cond.code yX0_isStraightLine cX0_isStraightLine 5 (some .boolean), Cond.methodLink RX0 56 yX0_answerTo, Cond.instanceMethod yX0_answerTo]
def wsX0_countToClean_r2 : List Cond := [Cond.selects RX0 yX0_answerTo yX0_answerTo, Cond.code yX0_answerTo cX0_answerTo 3 (some .int), Cond.fieldLink RX0 30 "SurveyHouse$Interviews" "answers" "[I"]
def wsX0_countToClean : List Cond := .code yX0_countToClean cX0_countToClean 4 (some .int) :: ((wsX0_countToClean_r1 ++ wsX0_countToClean_r2) ++ wsX00)
def wsX6_aOf : List Cond := .code yX6_aOf cX6_aOf 1 (some .int) :: ([])
def wsX0_isCounted : List Cond := .code yX0_isCounted cX0_isCounted 4 (some .boolean) :: ([.fieldLink RX0 15 "SurveyHouse$Interviews" "cells" "[I", .methodLink RX0 43 yX0_isComplete, .instanceMethod yX0_isComplete, .selects RX0 yX0_isComplete yX0_isComplete, .initialized RX0, .code yX0_isComplete cX0_isComplete 2 (some .boolean), .fieldLink RX0 18 "SurveyHouse$Interviews" "states" "[I", .methodLink RX0 56 yX0_answerTo, .instanceMethod yX0_answerTo, .selects RX0 yX0_answerTo yX0_answerTo, .code yX0_answerTo cX0_answerTo 3 (some .int), .fieldLink RX0 30 "SurveyHouse$Interviews" "answers" "[I", .static yX6_aOf, .initialized RX6, .code yX6_aOf cX6_aOf 1 (some .int)] ++ wsX00)
def wsX1_init : List Cond := .code yX1_init cX1_init 1 none :: ([.methodLink RX1 3 objectInit, .instanceMethod objectInit, .code objectInit ⟨#[0xb1]⟩ 1 none, .arrayClass .int, .fieldLink RX1 9 "SurveyHouse$Panel" "cells" "[I", .fieldLink RX1 15 "SurveyHouse$Panel" "fatigue" "[I", .fieldLink RX1 18 "SurveyHouse$Panel" "points" "[I", .fieldLink RX1 21 "SurveyHouse$Panel" "latest" "[I"] ++ wsX10)
def wsX1_size : List Cond := .code yX1_size cX1_size 1 (some .int) :: ([.fieldLink RX1 24 "SurveyHouse$Panel" "size" "I"] ++ wsX10)
def wsX1_today : List Cond := .code yX1_today cX1_today 1 (some .int) :: ([.fieldLink RX1 28 "SurveyHouse$Panel" "dayNumber" "I"] ++ wsX10)
def wsX1_add : List Cond := .code yX1_add cX1_add 2 (some .int) :: ([.fieldLink RX1 9 "SurveyHouse$Panel" "cells" "[I", .fieldLink RX1 24 "SurveyHouse$Panel" "size" "I", .fieldLink RX1 21 "SurveyHouse$Panel" "latest" "[I"] ++ wsX10)
def wsX1_cellOf : List Cond := .code yX1_cellOf cX1_cellOf 2 (some .int) :: ([.fieldLink RX1 9 "SurveyHouse$Panel" "cells" "[I"] ++ wsX10)
def wsX1_latestOf : List Cond := .code yX1_latestOf cX1_latestOf 2 (some .int) :: ([.fieldLink RX1 21 "SurveyHouse$Panel" "latest" "[I"] ++ wsX10)
def wsX1_pointsOf : List Cond := .code yX1_pointsOf cX1_pointsOf 2 (some .int) :: ([.fieldLink RX1 18 "SurveyHouse$Panel" "points" "[I"] ++ wsX10)
def wsX1_addPoints : List Cond := .code yX1_addPoints cX1_addPoints 3 none :: ([.fieldLink RX1 18 "SurveyHouse$Panel" "points" "[I"] ++ wsX10)
def wsX1_allPoints : List Cond := .code yX1_allPoints cX1_allPoints 3 (some .int) :: ([.fieldLink RX1 24 "SurveyHouse$Panel" "size" "I", .fieldLink RX1 18 "SurveyHouse$Panel" "points" "[I"] ++ wsX10)
def wsX1_countOf : List Cond := .code yX1_countOf cX1_countOf 4 (some .int) :: ([.fieldLink RX1 24 "SurveyHouse$Panel" "size" "I", .fieldLink RX1 9 "SurveyHouse$Panel" "cells" "[I"] ++ wsX10)
def wsX1_fatigueIn : List Cond := .code yX1_fatigueIn cX1_fatigueIn 3 (some .int) :: ([.fieldLink RX1 15 "SurveyHouse$Panel" "fatigue" "[I", .methodLink RX1 31 Lib.Math.max.name, .static Lib.Math.max.name, .initialized "java/lang/Math", .code Lib.Math.max.name Lib.Math.max.code 2 (some .int)] ++ wsX10)
def wsX1_ask : List Cond := .code yX1_ask cX1_ask 3 none :: ([.fieldLink RX1 15 "SurveyHouse$Panel" "fatigue" "[I", .methodLink RX1 37 Lib.Math.min.name, .static Lib.Math.min.name, .initialized "java/lang/Math", .code Lib.Math.min.name Lib.Math.min.code 2 (some .int), .fieldLink RX1 21 "SurveyHouse$Panel" "latest" "[I"] ++ wsX10)
def wsX1_beginDay : List Cond := .code yX1_beginDay cX1_beginDay 2 (some .int) :: ([.fieldLink RX1 24 "SurveyHouse$Panel" "size" "I", .fieldLink RX1 15 "SurveyHouse$Panel" "fatigue" "[I", .fieldLink RX1 28 "SurveyHouse$Panel" "dayNumber" "I", .methodLink RX1 40 yX1_fatigueIn, .instanceMethod yX1_fatigueIn, .selects RX1 yX1_fatigueIn yX1_fatigueIn, .initialized RX1, .code yX1_fatigueIn cX1_fatigueIn 3 (some .int), .methodLink RX1 31 Lib.Math.max.name, .static Lib.Math.max.name, .initialized "java/lang/Math", .code Lib.Math.max.name Lib.Math.max.code 2 (some .int)] ++ wsX10)
def wsX2_init : List Cond := .code yX2_init cX2_init 1 none :: ([.methodLink RX2 3 objectInit, .instanceMethod objectInit, .code objectInit ⟨#[0xb1]⟩ 1 none, .arrayClass .int, .fieldLink RX2 9 "SurveyHouse$Questionnaire" "answers" "[I", .fieldLink RX2 15 "SurveyHouse$Questionnaire" "ways" "[I", .fieldLink RX2 18 "SurveyHouse$Questionnaire" "steps" "[I", .methodLink RX2 21 yJ7_fill_53178, .static yJ7_fill_53178, .initialized RJ7, .code yJ7_fill_53178 cJ7_fill_53178 4 none] ++ wsX20)
def wsX2_size : List Cond := .code yX2_size cX2_size 1 (some .int) :: ([.fieldLink RX2 27 "SurveyHouse$Questionnaire" "size" "I"] ++ wsX20)
def wsX2_has : List Cond := .code yX2_has cX2_has 2 (some .boolean) :: ([.fieldLink RX2 27 "SurveyHouse$Questionnaire" "size" "I"] ++ wsX20)
def wsX2_offers : List Cond := .code yX2_offers cX2_offers 3 (some .boolean) :: ([.fieldLink RX2 9 "SurveyHouse$Questionnaire" "answers" "[I", .methodLink RX2 31 yX2_has, .instanceMethod yX2_has, .selects RX2 yX2_has yX2_has, .initialized RX2, .code yX2_has cX2_has 2 (some .boolean), .fieldLink RX2 27 "SurveyHouse$Questionnaire" "size" "I"] ++ wsX20)
def wsX2_answersOf : List Cond := .code yX2_answersOf cX2_answersOf 2 (some .int) :: ([.fieldLink RX2 9 "SurveyHouse$Questionnaire" "answers" "[I"] ++ wsX20)
def wsX2_add : List Cond := .code yX2_add cX2_add 2 (some .int) :: ([.fieldLink RX2 9 "SurveyHouse$Questionnaire" "answers" "[I", .fieldLink RX2 27 "SurveyHouse$Questionnaire" "size" "I"] ++ wsX20)
def wsX2_rotation : List Cond := .code yX2_rotation cX2_rotation 1 (some .int) :: ([.fieldLink RX2 35 "SurveyHouse$Questionnaire" "rotated" "I"] ++ wsX20)
def wsX2_setRotation : List Cond := .code yX2_setRotation cX2_setRotation 2 none :: ([.fieldLink RX2 35 "SurveyHouse$Questionnaire" "rotated" "I"] ++ wsX20)
def wsX2_orEnd : List Cond := .code yX2_orEnd cX2_orEnd 2 (some .int) :: ([.fieldLink RX2 27 "SurveyHouse$Questionnaire" "size" "I"] ++ wsX20)
def wsX2_wayFrom : List Cond := .code yX2_wayFrom cX2_wayFrom 4 (some .int) :: ([.fieldLink RX2 15 "SurveyHouse$Questionnaire" "ways" "[I", .methodLink RX2 38 yX2_orEnd, .instanceMethod yX2_orEnd, .selects RX2 yX2_orEnd yX2_orEnd, .initialized RX2, .code yX2_orEnd cX2_orEnd 2 (some .int), .fieldLink RX2 27 "SurveyHouse$Questionnaire" "size" "I"] ++ wsX20)
def wsX2_setWay : List Cond := .code yX2_setWay cX2_setWay 4 none :: ([.fieldLink RX2 15 "SurveyHouse$Questionnaire" "ways" "[I"] ++ wsX20)
def wsX2_firstOf : List Cond := .code yX2_firstOf cX2_firstOf 2 (some .int) :: ([.fieldLink RX2 35 "SurveyHouse$Questionnaire" "rotated" "I"] ++ wsX20)
def wsX2_nextOf : List Cond := .code yX2_nextOf cX2_nextOf 5 (some .int) :: ([.fieldLink RX2 35 "SurveyHouse$Questionnaire" "rotated" "I", .methodLink RX2 38 yX2_orEnd, .instanceMethod yX2_orEnd, .selects RX2 yX2_orEnd yX2_orEnd, .initialized RX2, .code yX2_orEnd cX2_orEnd 2 (some .int), .fieldLink RX2 27 "SurveyHouse$Questionnaire" "size" "I", .methodLink RX2 42 yX2_wayFrom, .instanceMethod yX2_wayFrom, .selects RX2 yX2_wayFrom yX2_wayFrom, .code yX2_wayFrom cX2_wayFrom 4 (some .int), .fieldLink RX2 15 "SurveyHouse$Questionnaire" "ways" "[I"] ++ wsX20)
def wsX2_stepsFrom : List Cond := .code yX2_stepsFrom cX2_stepsFrom 6 (some .int) :: ([.fieldLink RX2 27 "SurveyHouse$Questionnaire" "size" "I", .fieldLink RX2 9 "SurveyHouse$Questionnaire" "answers" "[I", .fieldLink RX2 18 "SurveyHouse$Questionnaire" "steps" "[I", .methodLink RX2 46 Lib.Math.min.name, .static Lib.Math.min.name, .initialized "java/lang/Math", .code Lib.Math.min.name Lib.Math.min.code 2 (some .int), .methodLink RX2 42 yX2_wayFrom, .instanceMethod yX2_wayFrom, .selects RX2 yX2_wayFrom yX2_wayFrom, .initialized RX2, .code yX2_wayFrom cX2_wayFrom 4 (some .int), .fieldLink RX2 15 "SurveyHouse$Questionnaire" "ways" "[I", .methodLink RX2 38 yX2_orEnd, .instanceMethod yX2_orEnd, .selects RX2 yX2_orEnd yX2_orEnd, .code yX2_orEnd cX2_orEnd 2 (some .int)] ++ wsX20)
def wsX3_init : List Cond := .code yX3_init cX3_init 1 none :: ([.methodLink RX3 3 objectInit, .instanceMethod objectInit, .code objectInit ⟨#[0xb1]⟩ 1 none, .arrayClass .int, .fieldLink RX3 9 "SurveyHouse$Quotas" "targets" "[I", .fieldLink RX3 15 "SurveyHouse$Quotas" "filled" "[I"] ++ wsX30)
def wsX3_targetOf : List Cond := .code yX3_targetOf cX3_targetOf 2 (some .int) :: ([.fieldLink RX3 9 "SurveyHouse$Quotas" "targets" "[I"] ++ wsX30)
def wsX3_setTarget : List Cond := .code yX3_setTarget cX3_setTarget 3 none :: ([.fieldLink RX3 9 "SurveyHouse$Quotas" "targets" "[I"] ++ wsX30)
def wsX3_filledOf : List Cond := .code yX3_filledOf cX3_filledOf 2 (some .int) :: ([.fieldLink RX3 15 "SurveyHouse$Quotas" "filled" "[I"] ++ wsX30)
def wsX3_fill : List Cond := .code yX3_fill cX3_fill 3 none :: ([.fieldLink RX3 15 "SurveyHouse$Quotas" "filled" "[I"] ++ wsX30)
def wsX3_softEdge : List Cond := .code yX3_softEdge cX3_softEdge 1 (some .int) :: ([.fieldLink RX3 18 "SurveyHouse$Quotas" "edge" "I"] ++ wsX30)
def wsX3_setSoftEdge : List Cond := .code yX3_setSoftEdge cX3_setSoftEdge 2 none :: ([.fieldLink RX3 18 "SurveyHouse$Quotas" "edge" "I"] ++ wsX30)
def wsX3_lackOf : List Cond := .code yX3_lackOf cX3_lackOf 2 (some .int) :: ([.fieldLink RX3 9 "SurveyHouse$Quotas" "targets" "[I", .fieldLink RX3 15 "SurveyHouse$Quotas" "filled" "[I"] ++ wsX30)
def wsX3_sumOf : List Cond := .code yX3_sumOf cX3_sumOf 6 (some .int) :: ([])
def wsX3_allTargets : List Cond := .code yX3_allTargets cX3_allTargets 1 (some .int) :: ([.fieldLink RX3 9 "SurveyHouse$Quotas" "targets" "[I", .methodLink RX3 22 yX3_sumOf, .static yX3_sumOf, .initialized RX3, .code yX3_sumOf cX3_sumOf 6 (some .int)] ++ wsX30)
def wsX3_isOpenWith : List Cond := .code yX3_isOpenWith cX3_isOpenWith 5 (some .boolean) :: ([.fieldLink RX3 15 "SurveyHouse$Quotas" "filled" "[I", .fieldLink RX3 9 "SurveyHouse$Quotas" "targets" "[I", .fieldLink RX3 18 "SurveyHouse$Quotas" "edge" "I", .methodLink RX3 22 yX3_sumOf, .static yX3_sumOf, .initialized RX3, .code yX3_sumOf cX3_sumOf 6 (some .int)] ++ wsX30)
def wsX3_isOpen : List Cond := .code yX3_isOpen cX3_isOpen 2 (some .boolean) :: ([.methodLink RX3 26 yX3_isOpenWith, .instanceMethod yX3_isOpenWith, .selects RX3 yX3_isOpenWith yX3_isOpenWith, .initialized RX3, .code yX3_isOpenWith cX3_isOpenWith 5 (some .boolean), .fieldLink RX3 15 "SurveyHouse$Quotas" "filled" "[I", .fieldLink RX3 9 "SurveyHouse$Quotas" "targets" "[I", .fieldLink RX3 18 "SurveyHouse$Quotas" "edge" "I", .methodLink RX3 22 yX3_sumOf, .static yX3_sumOf, .code yX3_sumOf cX3_sumOf 6 (some .int)] ++ wsX30)
def wsX3_countOpen : List Cond := .code yX3_countOpen cX3_countOpen 3 (some .int) :: ([.methodLink RX3 30 yX3_isOpen, .instanceMethod yX3_isOpen, .selects RX3 yX3_isOpen yX3_isOpen, .initialized RX3, .code yX3_isOpen cX3_isOpen 2 (some .boolean), .methodLink RX3 26 yX3_isOpenWith, .instanceMethod yX3_isOpenWith, .selects RX3 yX3_isOpenWith yX3_isOpenWith, .code yX3_isOpenWith cX3_isOpenWith 5 (some .boolean), .fieldLink RX3 15 "SurveyHouse$Quotas" "filled" "[I", .fieldLink RX3 9 "SurveyHouse$Quotas" "targets" "[I", .fieldLink RX3 18 "SurveyHouse$Quotas" "edge" "I", .methodLink RX3 22 yX3_sumOf, .static yX3_sumOf, .code yX3_sumOf cX3_sumOf 6 (some .int)] ++ wsX30)
def wsX6_bOf : List Cond := .code yX6_bOf cX6_bOf 1 (some .int) :: ([])
def wsX6_isIn : List Cond := .code yX6_isIn cX6_isIn 2 (some .boolean) :: ([.methodLink RX6 165 yX6_aOf, .static yX6_aOf, .initialized RX6, .code yX6_aOf cX6_aOf 1 (some .int), .methodLink RX6 168 yX6_bOf, .static yX6_bOf, .code yX6_bOf cX6_bOf 1 (some .int)])
def wsX3_marginOf : List Cond := .code yX3_marginOf cX3_marginOf 4 (some .int) :: ([.fieldLink RX3 9 "SurveyHouse$Quotas" "targets" "[I", .static yX6_isIn, .initialized RX6, .code yX6_isIn cX6_isIn 2 (some .boolean), .methodLink RX6 165 yX6_aOf, .static yX6_aOf, .code yX6_aOf cX6_aOf 1 (some .int), .methodLink RX6 168 yX6_bOf, .static yX6_bOf, .code yX6_bOf cX6_bOf 1 (some .int)] ++ wsX30)
def wsX4_init : List Cond := .code yX4_init cX4_init 1 none :: ([.methodLink RX4 3 objectInit, .instanceMethod objectInit, .code objectInit ⟨#[0xb1]⟩ 1 none, .arrayClass .int, .fieldLink RX4 9 "SurveyHouse$Reports" "shares" "[I", .methodLink RX4 15 yJ7_fill_53178, .static yJ7_fill_53178, .initialized RJ7, .code yJ7_fill_53178 cJ7_fill_53178 4 none] ++ wsX40)
def wsX4_size : List Cond := .code yX4_size cX4_size 1 (some .int) :: ([.fieldLink RX4 21 "SurveyHouse$Reports" "size" "I"] ++ wsX40)
def wsX4_add : List Cond := .code yX4_add cX4_add 1 (some .int) :: ([.fieldLink RX4 21 "SurveyHouse$Reports" "size" "I"] ++ wsX40)
def wsX4_placeOf : List Cond := .code yX4_placeOf cX4_placeOf 3 (some .int) :: ([])
def wsX4_put : List Cond := .code yX4_put cX4_put 5 none :: ([.fieldLink RX4 9 "SurveyHouse$Reports" "shares" "[I", .methodLink RX4 25 yX4_placeOf, .static yX4_placeOf, .initialized RX4, .code yX4_placeOf cX4_placeOf 3 (some .int)] ++ wsX40)
def wsX4_shareIn : List Cond := .code yX4_shareIn cX4_shareIn 4 (some .int) :: ([.fieldLink RX4 9 "SurveyHouse$Reports" "shares" "[I", .methodLink RX4 25 yX4_placeOf, .static yX4_placeOf, .initialized RX4, .code yX4_placeOf cX4_placeOf 3 (some .int)] ++ wsX40)
def wsX5_init : List Cond := .code yX5_init cX5_init 1 none :: ([.methodLink RX5 3 objectInit, .instanceMethod objectInit, .code objectInit ⟨#[0xb1]⟩ 1 none, .arrayClass .int, .fieldLink RX5 9 "SurveyHouse$Weights" "weights" "[I"] ++ wsX50)
def wsX5_of : List Cond := .code yX5_of cX5_of 2 (some .int) :: ([.fieldLink RX5 9 "SurveyHouse$Weights" "weights" "[I"] ++ wsX50)
def wsX5_sumOf : List Cond := .code yX5_sumOf cX5_sumOf 5 (some .int) :: ([.fieldLink RX5 9 "SurveyHouse$Weights" "weights" "[I", .methodLink RX5 15 yX0_size, .instanceMethod yX0_size, .selects RX0 yX0_size yX0_size, .initialized RX0, .code yX0_size cX0_size 1 (some .int), .fieldLink RX0 39 "SurveyHouse$Interviews" "size" "I", .methodLink RX5 39 yX0_cellOf, .instanceMethod yX0_cellOf, .selects RX0 yX0_cellOf yX0_cellOf, .code yX0_cellOf cX0_cellOf 2 (some .int), .fieldLink RX0 15 "SurveyHouse$Interviews" "cells" "[I", .static yX6_isIn, .initialized RX6, .code yX6_isIn cX6_isIn 2 (some .boolean), .methodLink RX6 165 yX6_aOf, .static yX6_aOf, .code yX6_aOf cX6_aOf 1 (some .int), .methodLink RX6 168 yX6_bOf, .static yX6_bOf, .code yX6_bOf cX6_bOf 1 (some .int)] ++ wsX50 ++ wsX00)
def wsX5_scale_r1 : List Cond := [Cond.fieldLink RX5 9 "SurveyHouse$Weights" "weights" "[I", Cond.methodLink RX5 35 yX5_sumOf, Cond.instanceMethod yX5_sumOf, Cond.selects RX5 yX5_sumOf yX5_sumOf, Cond.initialized RX5, Cond.code yX5_sumOf cX5_sumOf 5 (some .int), Cond.methodLink RX5 15 yX0_size, Cond.instanceMethod yX0_size, Cond.selects RX0 yX0_size yX0_size, Cond.initialized RX0, Cond.code yX0_size cX0_size 1 (some .int), Cond.fieldLink RX0 39 "SurveyHouse$Interviews" "size" "I", Cond.methodLink RX5 39 yX0_cellOf, Cond.instanceMethod yX0_cellOf, Cond.selects RX0 yX0_cellOf yX0_cellOf, Cond.code yX0_cellOf cX0_cellOf 2 (some .int), Cond.fieldLink RX0 15 "SurveyHouse$Interviews" "cells" "[I", Cond.static yX6_isIn, Cond.initialized RX6, Cond.code yX6_isIn cX6_isIn 2 (some .boolean), Cond.methodLink RX6 165 yX6_aOf, Cond.static yX6_aOf, Cond.code yX6_aOf cX6_aOf 1 (some .int), Cond.methodLink RX6 168 yX6_bOf]
def wsX5_scale_r2 : List Cond := [Cond.static yX6_bOf, Cond.code yX6_bOf cX6_bOf 1 (some .int)]
def wsX5_scale : List Cond := .code yX5_scale cX5_scale 6 none :: ((wsX5_scale_r1 ++ wsX5_scale_r2) ++ wsX50 ++ wsX00)
def wsX5_weigh_r1 : List Cond := [Cond.fieldLink RX5 9 "SurveyHouse$Weights" "weights" "[I", Cond.methodLink RX5 15 yX0_size, Cond.instanceMethod yX0_size, Cond.selects RX0 yX0_size yX0_size, Cond.initialized RX0, Cond.code yX0_size cX0_size 1 (some .int), Cond.fieldLink RX0 39 "SurveyHouse$Interviews" "size" "I", Cond.methodLink RX5 21 yX0_isComplete, Cond.instanceMethod yX0_isComplete, Cond.selects RX0 yX0_isComplete yX0_isComplete, Cond.code yX0_isComplete cX0_isComplete 2 (some .boolean), Cond.fieldLink RX0 18 "SurveyHouse$Interviews" "states" "[I", Cond.methodLink RX5 25 yX3_marginOf, Cond.instanceMethod yX3_marginOf, Cond.selects RX3 yX3_marginOf yX3_marginOf, Cond.initialized RX3, Cond.code yX3_marginOf cX3_marginOf 4 (some .int), Cond.fieldLink RX3 9 "SurveyHouse$Quotas" "targets" "[I", Cond.static yX6_isIn, Cond.initialized RX6, Cond.code yX6_isIn cX6_isIn 2 (some .boolean), Cond.methodLink RX6 165 yX6_aOf, Cond.static yX6_aOf, Cond.code yX6_aOf cX6_aOf 1 (some .int)]
def wsX5_weigh_r2 : List Cond := [Cond.methodLink RX6 168 yX6_bOf, Cond.static yX6_bOf, Cond.code yX6_bOf cX6_bOf 1 (some .int), Cond.methodLink RX5 31 yX5_scale, Cond.instanceMethod yX5_scale, Cond.selects RX5 yX5_scale yX5_scale, Cond.initialized RX5, Cond.code yX5_scale cX5_scale 6 none, Cond.methodLink RX5 35 yX5_sumOf, Cond.instanceMethod yX5_sumOf, Cond.selects RX5 yX5_sumOf yX5_sumOf, Cond.code yX5_sumOf cX5_sumOf 5 (some .int), Cond.methodLink RX5 39 yX0_cellOf, Cond.instanceMethod yX0_cellOf, Cond.selects RX0 yX0_cellOf yX0_cellOf, Cond.code yX0_cellOf cX0_cellOf 2 (some .int), Cond.fieldLink RX0 15 "SurveyHouse$Interviews" "cells" "[I"]
def wsX5_weigh : List Cond := .code yX5_weigh cX5_weigh 6 none :: ((wsX5_weigh_r1 ++ wsX5_weigh_r2) ++ wsX50 ++ wsX00 ++ wsX30)
def wsX5_farthest_r1 : List Cond := [Cond.methodLink RX5 46 Lib.Math.abs.name, Cond.static Lib.Math.abs.name, Cond.initialized "java/lang/Math", Cond.code Lib.Math.abs.name Lib.Math.abs.code 1 (some .int), Cond.methodLink RX5 51 Lib.Math.max.name, Cond.static Lib.Math.max.name, Cond.code Lib.Math.max.name Lib.Math.max.code 2 (some .int), Cond.methodLink RX5 35 yX5_sumOf, Cond.instanceMethod yX5_sumOf, Cond.selects RX5 yX5_sumOf yX5_sumOf, Cond.initialized RX5, Cond.code yX5_sumOf cX5_sumOf 5 (some .int), Cond.fieldLink RX5 9 "SurveyHouse$Weights" "weights" "[I", Cond.methodLink RX5 15 yX0_size, Cond.instanceMethod yX0_size, Cond.selects RX0 yX0_size yX0_size, Cond.initialized RX0, Cond.code yX0_size cX0_size 1 (some .int), Cond.fieldLink RX0 39 "SurveyHouse$Interviews" "size" "I", Cond.methodLink RX5 39 yX0_cellOf, Cond.instanceMethod yX0_cellOf, Cond.selects RX0 yX0_cellOf yX0_cellOf, Cond.code yX0_cellOf cX0_cellOf 2 (some .int), Cond.fieldLink RX0 15 "SurveyHouse$Interviews" "cells" "[I"]
def wsX5_farthest_r2 : List Cond := [Cond.static yX6_isIn, Cond.initialized RX6, Cond.code yX6_isIn cX6_isIn 2 (some .boolean), Cond.methodLink RX6 165 yX6_aOf, Cond.static yX6_aOf, Cond.code yX6_aOf cX6_aOf 1 (some .int), Cond.methodLink RX6 168 yX6_bOf, Cond.static yX6_bOf, Cond.code yX6_bOf cX6_bOf 1 (some .int), Cond.methodLink RX5 25 yX3_marginOf, Cond.instanceMethod yX3_marginOf, Cond.selects RX3 yX3_marginOf yX3_marginOf, Cond.initialized RX3, Cond.code yX3_marginOf cX3_marginOf 4 (some .int), Cond.fieldLink RX3 9 "SurveyHouse$Quotas" "targets" "[I"]
def wsX5_farthest : List Cond := .code yX5_farthest cX5_farthest 6 (some .int) :: ((wsX5_farthest_r1 ++ wsX5_farthest_r2) ++ wsX50 ++ wsX00 ++ wsX30)
def wsX5_shareOf_r1 : List Cond := [Cond.fieldLink RX5 9 "SurveyHouse$Weights" "weights" "[I", Cond.methodLink RX5 15 yX0_size, Cond.instanceMethod yX0_size, Cond.selects RX0 yX0_size yX0_size, Cond.initialized RX0, Cond.code yX0_size cX0_size 1 (some .int), Cond.fieldLink RX0 39 "SurveyHouse$Interviews" "size" "I", Cond.methodLink RX5 55 yX0_isCounted, Cond.instanceMethod yX0_isCounted, Cond.selects RX0 yX0_isCounted yX0_isCounted, Cond.code yX0_isCounted cX0_isCounted 4 (some .boolean), Cond.fieldLink RX0 15 "SurveyHouse$Interviews" "cells" "[I", Cond.methodLink RX0 43 yX0_isComplete, Cond.instanceMethod yX0_isComplete, Cond.selects RX0 yX0_isComplete yX0_isComplete, Cond.code yX0_isComplete cX0_isComplete 2 (some .boolean), Cond.fieldLink RX0 18 "SurveyHouse$Interviews" "states" "[I", Cond.methodLink RX0 56 yX0_answerTo, Cond.instanceMethod yX0_answerTo, Cond.selects RX0 yX0_answerTo yX0_answerTo, Cond.code yX0_answerTo cX0_answerTo 3 (some .int), Cond.fieldLink RX0 30 "SurveyHouse$Interviews" "answers" "[I", Cond.static yX6_aOf, Cond.initialized RX6]
def wsX5_shareOf_r2 : List Cond := [Cond.code yX6_aOf cX6_aOf 1 (some .int), Cond.methodLink RX5 59 yX0_answerTo]
def wsX5_shareOf : List Cond := .code yX5_shareOf cX5_shareOf 8 (some .int) :: ((wsX5_shareOf_r1 ++ wsX5_shareOf_r2) ++ wsX50 ++ wsX00)
def wsX6_init_r1 : List Cond := [Cond.methodLink RX6 3 objectInit, Cond.instanceMethod objectInit, Cond.code objectInit ⟨#[0xb1]⟩ 1 none, Cond.classLink RX6 9 RX2, Cond.instantiable RX2 5, Cond.initialized RX2, Cond.fieldLink RX6 12 "SurveyHouse" "form" "LSurveyHouse$Questionnaire;", Cond.classLink RX6 16 RX3, Cond.instantiable RX3 3, Cond.initialized RX3, Cond.fieldLink RX6 19 "SurveyHouse" "quotas" "LSurveyHouse$Quotas;", Cond.classLink RX6 23 RX1, Cond.instantiable RX1 6, Cond.initialized RX1, Cond.fieldLink RX6 26 "SurveyHouse" "panel" "LSurveyHouse$Panel;", Cond.classLink RX6 30 RX0, Cond.instantiable RX0 8, Cond.initialized RX0, Cond.fieldLink RX6 33 "SurveyHouse" "interviews" "LSurveyHouse$Interviews;", Cond.classLink RX6 37 RX5, Cond.instantiable RX5 1, Cond.initialized RX5, Cond.fieldLink RX6 40 "SurveyHouse" "weights" "LSurveyHouse$Weights;", Cond.fieldLink RX6 44 "SurveyHouse" "trial" "LSurveyHouse$Weights;"]
def wsX6_init_r2 : List Cond := [Cond.classLink RX6 47 RX4, Cond.instantiable RX4 2, Cond.initialized RX4, Cond.fieldLink RX6 50 "SurveyHouse" "reports" "LSurveyHouse$Reports;", Cond.fieldLink RX6 54 "SurveyHouse" "roundsTold" "I", Cond.methodLink RX6 11 yX2_init, Cond.instanceMethod yX2_init, Cond.code yX2_init cX2_init 1 none, Cond.methodLink RX2 3 objectInit, Cond.arrayClass .int, Cond.fieldLink RX2 9 "SurveyHouse$Questionnaire" "answers" "[I", Cond.fieldLink RX2 15 "SurveyHouse$Questionnaire" "ways" "[I", Cond.fieldLink RX2 18 "SurveyHouse$Questionnaire" "steps" "[I", Cond.methodLink RX2 21 yJ7_fill_53178, Cond.static yJ7_fill_53178, Cond.initialized RJ7, Cond.code yJ7_fill_53178 cJ7_fill_53178 4 none, Cond.instanceMethod yX3_init, Cond.code yX3_init cX3_init 1 none, Cond.methodLink RX3 3 objectInit, Cond.fieldLink RX3 9 "SurveyHouse$Quotas" "targets" "[I", Cond.fieldLink RX3 15 "SurveyHouse$Quotas" "filled" "[I", Cond.instanceMethod yX1_init, Cond.code yX1_init cX1_init 1 none]
def wsX6_init_r3 : List Cond := [Cond.methodLink RX1 3 objectInit, Cond.fieldLink RX1 9 "SurveyHouse$Panel" "cells" "[I", Cond.fieldLink RX1 15 "SurveyHouse$Panel" "fatigue" "[I", Cond.fieldLink RX1 18 "SurveyHouse$Panel" "points" "[I", Cond.fieldLink RX1 21 "SurveyHouse$Panel" "latest" "[I", Cond.methodLink RX6 32 yX0_init, Cond.instanceMethod yX0_init, Cond.code yX0_init cX0_init 1 none, Cond.methodLink RX0 3 objectInit, Cond.fieldLink RX0 9 "SurveyHouse$Interviews" "people" "[I", Cond.fieldLink RX0 15 "SurveyHouse$Interviews" "cells" "[I", Cond.fieldLink RX0 18 "SurveyHouse$Interviews" "states" "[I", Cond.fieldLink RX0 21 "SurveyHouse$Interviews" "places" "[I", Cond.fieldLink RX0 24 "SurveyHouse$Interviews" "counts" "[I", Cond.fieldLink RX0 27 "SurveyHouse$Interviews" "seconds" "[I", Cond.fieldLink RX0 30 "SurveyHouse$Interviews" "answers" "[I", Cond.methodLink RX0 33 yJ7_fill_53178, Cond.instanceMethod yX5_init, Cond.code yX5_init cX5_init 1 none, Cond.methodLink RX5 3 objectInit, Cond.fieldLink RX5 9 "SurveyHouse$Weights" "weights" "[I", Cond.methodLink RX6 49 yX4_init, Cond.instanceMethod yX4_init, Cond.code yX4_init cX4_init 1 none]
def wsX6_init_r4 : List Cond := [Cond.methodLink RX4 3 objectInit, Cond.fieldLink RX4 9 "SurveyHouse$Reports" "shares" "[I", Cond.methodLink RX4 15 yJ7_fill_53178]
def wsX6_init : List Cond := .code yX6_init cX6_init 1 none :: ((wsX6_init_r1 ++ (wsX6_init_r2 ++ (wsX6_init_r3 ++ wsX6_init_r4))) ++ wsX20 ++ wsX60 ++ wsX30 ++ wsX10 ++ wsX00 ++ wsX50 ++ wsX40)
def wsX6_needNoInterview : List Cond := .code yX6_needNoInterview cX6_needNoInterview 1 none :: ([.classLink RX6 69 "java/lang/IllegalStateException", .initialized "java/lang/IllegalStateException", .fieldLink RX6 33 "SurveyHouse" "interviews" "LSurveyHouse$Interviews;", .methodLink RX6 196 yX0_size, .instanceMethod yX0_size, .selects RX0 yX0_size yX0_size, .initialized RX0, .code yX0_size cX0_size 1 (some .int), .fieldLink RX0 39 "SurveyHouse$Interviews" "size" "I"] ++ wsX60 ++ wsX00 ++ (vx_atS RX6 73 "java/lang/IllegalStateException" ["java/lang/RuntimeException", "java/lang/Exception"]).filter goodWord)
def wsX6_question_r1 : List Cond := [Cond.classLink RX6 58 "java/lang/IllegalArgumentException", Cond.initialized "java/lang/IllegalArgumentException", Cond.classLink RX6 69 "java/lang/IllegalStateException", Cond.initialized "java/lang/IllegalStateException", Cond.fieldLink RX6 12 "SurveyHouse" "form" "LSurveyHouse$Questionnaire;", Cond.methodLink RX6 65 yX2_size, Cond.instanceMethod yX2_size, Cond.selects RX2 yX2_size yX2_size, Cond.initialized RX2, Cond.code yX2_size cX2_size 1 (some .int), Cond.fieldLink RX2 27 "SurveyHouse$Questionnaire" "size" "I", Cond.methodLink RX6 74 yX6_needNoInterview, Cond.instanceMethod yX6_needNoInterview, Cond.selects RX6 yX6_needNoInterview yX6_needNoInterview, Cond.initialized RX6, Cond.code yX6_needNoInterview cX6_needNoInterview 1 none, Cond.fieldLink RX6 33 "SurveyHouse" "interviews" "LSurveyHouse$Interviews;", Cond.methodLink RX6 196 yX0_size, Cond.instanceMethod yX0_size, Cond.selects RX0 yX0_size yX0_size, Cond.initialized RX0, Cond.code yX0_size cX0_size 1 (some .int), Cond.fieldLink RX0 39 "SurveyHouse$Interviews" "size" "I", Cond.methodLink RX6 77 yX2_add]
def wsX6_question_r2 : List Cond := [Cond.instanceMethod yX2_add, Cond.selects RX2 yX2_add yX2_add, Cond.code yX2_add cX2_add 2 (some .int), Cond.fieldLink RX2 9 "SurveyHouse$Questionnaire" "answers" "[I"]
def wsX6_question : List Cond := .code yX6_question cX6_question 2 (some .int) :: ((wsX6_question_r1 ++ wsX6_question_r2) ++ wsX60 ++ wsX20 ++ wsX00 ++ (vx_atS RX6 62 "java/lang/IllegalArgumentException" ["java/lang/RuntimeException", "java/lang/Exception"]).filter goodWord ++ (vx_atS RX6 73 "java/lang/IllegalStateException" ["java/lang/RuntimeException", "java/lang/Exception"]).filter goodWord)
def wsX6_needAnswer : List Cond := .code yX6_needAnswer cX6_needAnswer 3 none :: ([.classLink RX6 322 "java/lang/IndexOutOfBoundsException", .initialized "java/lang/IndexOutOfBoundsException", .fieldLink RX6 12 "SurveyHouse" "form" "LSurveyHouse$Questionnaire;", .methodLink RX6 221 yX2_offers, .instanceMethod yX2_offers, .selects RX2 yX2_offers yX2_offers, .initialized RX2, .code yX2_offers cX2_offers 3 (some .boolean), .fieldLink RX2 9 "SurveyHouse$Questionnaire" "answers" "[I", .methodLink RX2 31 yX2_has, .instanceMethod yX2_has, .selects RX2 yX2_has yX2_has, .code yX2_has cX2_has 2 (some .boolean), .fieldLink RX2 27 "SurveyHouse$Questionnaire" "size" "I"] ++ wsX60 ++ wsX20 ++ (vx_atS RX6 326 "java/lang/IndexOutOfBoundsException" ["java/lang/RuntimeException", "java/lang/Exception"]).filter goodWord)
def wsX6_needQuestion : List Cond := .code yX6_needQuestion cX6_needQuestion 2 none :: ([.classLink RX6 322 "java/lang/IndexOutOfBoundsException", .initialized "java/lang/IndexOutOfBoundsException", .fieldLink RX6 12 "SurveyHouse" "form" "LSurveyHouse$Questionnaire;", .methodLink RX6 402 yX2_has, .instanceMethod yX2_has, .selects RX2 yX2_has yX2_has, .initialized RX2, .code yX2_has cX2_has 2 (some .boolean), .fieldLink RX2 27 "SurveyHouse$Questionnaire" "size" "I"] ++ wsX60 ++ wsX20 ++ (vx_atS RX6 326 "java/lang/IndexOutOfBoundsException" ["java/lang/RuntimeException", "java/lang/Exception"]).filter goodWord)
def wsX6_route_r1 : List Cond := [Cond.classLink RX6 58 "java/lang/IllegalArgumentException", Cond.initialized "java/lang/IllegalArgumentException", Cond.fieldLink RX6 12 "SurveyHouse" "form" "LSurveyHouse$Questionnaire;", Cond.methodLink RX6 81 yX6_needAnswer, Cond.instanceMethod yX6_needAnswer, Cond.selects RX6 yX6_needAnswer yX6_needAnswer, Cond.initialized RX6, Cond.code yX6_needAnswer cX6_needAnswer 3 none, Cond.classLink RX6 322 "java/lang/IndexOutOfBoundsException", Cond.initialized "java/lang/IndexOutOfBoundsException", Cond.methodLink RX6 221 yX2_offers, Cond.instanceMethod yX2_offers, Cond.selects RX2 yX2_offers yX2_offers, Cond.initialized RX2, Cond.code yX2_offers cX2_offers 3 (some .boolean), Cond.fieldLink RX2 9 "SurveyHouse$Questionnaire" "answers" "[I", Cond.methodLink RX2 31 yX2_has, Cond.instanceMethod yX2_has, Cond.selects RX2 yX2_has yX2_has, Cond.code yX2_has cX2_has 2 (some .boolean), Cond.fieldLink RX2 27 "SurveyHouse$Questionnaire" "size" "I", Cond.methodLink RX6 85 yX6_needQuestion, Cond.instanceMethod yX6_needQuestion, Cond.selects RX6 yX6_needQuestion yX6_needQuestion]
def wsX6_route_r2 : List Cond := [Cond.code yX6_needQuestion cX6_needQuestion 2 none, Cond.methodLink RX6 402 yX2_has, Cond.methodLink RX6 74 yX6_needNoInterview, Cond.instanceMethod yX6_needNoInterview, Cond.selects RX6 yX6_needNoInterview yX6_needNoInterview, Cond.code yX6_needNoInterview cX6_needNoInterview 1 none, Cond.classLink RX6 69 "java/lang/IllegalStateException", Cond.initialized "java/lang/IllegalStateException", Cond.fieldLink RX6 33 "SurveyHouse" "interviews" "LSurveyHouse$Interviews;", Cond.methodLink RX6 196 yX0_size, Cond.instanceMethod yX0_size, Cond.selects RX0 yX0_size yX0_size, Cond.initialized RX0, Cond.code yX0_size cX0_size 1 (some .int), Cond.fieldLink RX0 39 "SurveyHouse$Interviews" "size" "I", Cond.methodLink RX6 91 yX2_wayFrom, Cond.instanceMethod yX2_wayFrom, Cond.selects RX2 yX2_wayFrom yX2_wayFrom, Cond.code yX2_wayFrom cX2_wayFrom 4 (some .int), Cond.fieldLink RX2 15 "SurveyHouse$Questionnaire" "ways" "[I", Cond.methodLink RX2 38 yX2_orEnd, Cond.instanceMethod yX2_orEnd, Cond.selects RX2 yX2_orEnd yX2_orEnd, Cond.code yX2_orEnd cX2_orEnd 2 (some .int)]
def wsX6_route_r3 : List Cond := [Cond.methodLink RX6 95 yX2_setWay, Cond.instanceMethod yX2_setWay, Cond.selects RX2 yX2_setWay yX2_setWay, Cond.code yX2_setWay cX2_setWay 4 none]
def wsX6_route : List Cond := .code yX6_route cX6_route 5 (some .int) :: ((wsX6_route_r1 ++ (wsX6_route_r2 ++ wsX6_route_r3)) ++ wsX60 ++ wsX20 ++ wsX00 ++ (vx_atS RX6 62 "java/lang/IllegalArgumentException" ["java/lang/RuntimeException", "java/lang/Exception"]).filter goodWord ++ (vx_atS RX6 326 "java/lang/IndexOutOfBoundsException" ["java/lang/RuntimeException", "java/lang/Exception"]).filter goodWord ++ (vx_atS RX6 73 "java/lang/IllegalStateException" ["java/lang/RuntimeException", "java/lang/Exception"]).filter goodWord)
def wsX6_rotate_r1 : List Cond := [Cond.classLink RX6 58 "java/lang/IllegalArgumentException", Cond.initialized "java/lang/IllegalArgumentException", Cond.fieldLink RX6 12 "SurveyHouse" "form" "LSurveyHouse$Questionnaire;", Cond.methodLink RX6 65 yX2_size, Cond.instanceMethod yX2_size, Cond.selects RX2 yX2_size yX2_size, Cond.initialized RX2, Cond.code yX2_size cX2_size 1 (some .int), Cond.fieldLink RX2 27 "SurveyHouse$Questionnaire" "size" "I", Cond.methodLink RX6 74 yX6_needNoInterview, Cond.instanceMethod yX6_needNoInterview, Cond.selects RX6 yX6_needNoInterview yX6_needNoInterview, Cond.initialized RX6, Cond.code yX6_needNoInterview cX6_needNoInterview 1 none, Cond.classLink RX6 69 "java/lang/IllegalStateException", Cond.initialized "java/lang/IllegalStateException", Cond.fieldLink RX6 33 "SurveyHouse" "interviews" "LSurveyHouse$Interviews;", Cond.methodLink RX6 196 yX0_size, Cond.instanceMethod yX0_size, Cond.selects RX0 yX0_size yX0_size, Cond.initialized RX0, Cond.code yX0_size cX0_size 1 (some .int), Cond.fieldLink RX0 39 "SurveyHouse$Interviews" "size" "I", Cond.methodLink RX6 101 yX2_rotation]
def wsX6_rotate_r2 : List Cond := [Cond.instanceMethod yX2_rotation, Cond.selects RX2 yX2_rotation yX2_rotation, Cond.code yX2_rotation cX2_rotation 1 (some .int), Cond.fieldLink RX2 35 "SurveyHouse$Questionnaire" "rotated" "I", Cond.methodLink RX6 104 yX2_setRotation, Cond.instanceMethod yX2_setRotation, Cond.selects RX2 yX2_setRotation yX2_setRotation, Cond.code yX2_setRotation cX2_setRotation 2 none]
def wsX6_rotate : List Cond := .code yX6_rotate cX6_rotate 3 (some .int) :: ((wsX6_rotate_r1 ++ wsX6_rotate_r2) ++ wsX60 ++ wsX20 ++ wsX00 ++ (vx_atS RX6 62 "java/lang/IllegalArgumentException" ["java/lang/RuntimeException", "java/lang/Exception"]).filter goodWord ++ (vx_atS RX6 73 "java/lang/IllegalStateException" ["java/lang/RuntimeException", "java/lang/Exception"]).filter goodWord)
def wsX6_isA : List Cond := .code yX6_isA cX6_isA 1 (some .boolean) :: ([])
def wsX6_isB : List Cond := .code yX6_isB cX6_isB 1 (some .boolean) :: ([])
def wsX6_cellAt : List Cond := .code yX6_cellAt cX6_cellAt 2 (some .int) :: ([])
def wsX6_person_r1 : List Cond := [Cond.classLink RX6 58 "java/lang/IllegalArgumentException", Cond.initialized "java/lang/IllegalArgumentException", Cond.classLink RX6 69 "java/lang/IllegalStateException", Cond.initialized "java/lang/IllegalStateException", Cond.fieldLink RX6 26 "SurveyHouse" "panel" "LSurveyHouse$Panel;", Cond.methodLink RX6 107 yX6_isA, Cond.static yX6_isA, Cond.initialized RX6, Cond.code yX6_isA cX6_isA 1 (some .boolean), Cond.methodLink RX6 111 yX6_isB, Cond.static yX6_isB, Cond.code yX6_isB cX6_isB 1 (some .boolean), Cond.methodLink RX6 116 yX1_size, Cond.instanceMethod yX1_size, Cond.selects RX1 yX1_size yX1_size, Cond.initialized RX1, Cond.code yX1_size cX1_size 1 (some .int), Cond.fieldLink RX1 24 "SurveyHouse$Panel" "size" "I", Cond.methodLink RX6 119 yX6_cellAt, Cond.static yX6_cellAt, Cond.code yX6_cellAt cX6_cellAt 2 (some .int), Cond.methodLink RX6 122 yX1_add, Cond.instanceMethod yX1_add, Cond.selects RX1 yX1_add yX1_add]
def wsX6_person_r2 : List Cond := [Cond.code yX1_add cX1_add 2 (some .int), Cond.fieldLink RX1 9 "SurveyHouse$Panel" "cells" "[I", Cond.fieldLink RX1 21 "SurveyHouse$Panel" "latest" "[I"]
def wsX6_person : List Cond := .code yX6_person cX6_person 3 (some .int) :: ((wsX6_person_r1 ++ wsX6_person_r2) ++ wsX60 ++ wsX10 ++ (vx_atS RX6 62 "java/lang/IllegalArgumentException" ["java/lang/RuntimeException", "java/lang/Exception"]).filter goodWord ++ (vx_atS RX6 73 "java/lang/IllegalStateException" ["java/lang/RuntimeException", "java/lang/Exception"]).filter goodWord)
def wsX6_needCell : List Cond := .code yX6_needCell cX6_needCell 2 none :: ([.classLink RX6 322 "java/lang/IndexOutOfBoundsException", .initialized "java/lang/IndexOutOfBoundsException", .methodLink RX6 107 yX6_isA, .static yX6_isA, .initialized RX6, .code yX6_isA cX6_isA 1 (some .boolean), .methodLink RX6 111 yX6_isB, .static yX6_isB, .code yX6_isB cX6_isB 1 (some .boolean)] ++ (vx_atS RX6 326 "java/lang/IndexOutOfBoundsException" ["java/lang/RuntimeException", "java/lang/Exception"]).filter goodWord)
def wsX6_reweigh_r1 : List Cond := [Cond.fieldLink RX6 40 "SurveyHouse" "weights" "LSurveyHouse$Weights;", Cond.fieldLink RX6 33 "SurveyHouse" "interviews" "LSurveyHouse$Interviews;", Cond.fieldLink RX6 19 "SurveyHouse" "quotas" "LSurveyHouse$Quotas;", Cond.fieldLink RX6 54 "SurveyHouse" "roundsTold" "I", Cond.methodLink RX6 343 yX5_weigh, Cond.instanceMethod yX5_weigh, Cond.selects RX5 yX5_weigh yX5_weigh, Cond.initialized RX5, Cond.code yX5_weigh cX5_weigh 6 none, Cond.fieldLink RX5 9 "SurveyHouse$Weights" "weights" "[I", Cond.methodLink RX5 15 yX0_size, Cond.instanceMethod yX0_size, Cond.selects RX0 yX0_size yX0_size, Cond.initialized RX0, Cond.code yX0_size cX0_size 1 (some .int), Cond.fieldLink RX0 39 "SurveyHouse$Interviews" "size" "I", Cond.methodLink RX5 21 yX0_isComplete, Cond.instanceMethod yX0_isComplete, Cond.selects RX0 yX0_isComplete yX0_isComplete, Cond.code yX0_isComplete cX0_isComplete 2 (some .boolean), Cond.fieldLink RX0 18 "SurveyHouse$Interviews" "states" "[I", Cond.methodLink RX5 25 yX3_marginOf, Cond.instanceMethod yX3_marginOf, Cond.selects RX3 yX3_marginOf yX3_marginOf]
def wsX6_reweigh_r2 : List Cond := [Cond.initialized RX3, Cond.code yX3_marginOf cX3_marginOf 4 (some .int), Cond.fieldLink RX3 9 "SurveyHouse$Quotas" "targets" "[I", Cond.static yX6_isIn, Cond.initialized RX6, Cond.code yX6_isIn cX6_isIn 2 (some .boolean), Cond.methodLink RX6 165 yX6_aOf, Cond.static yX6_aOf, Cond.code yX6_aOf cX6_aOf 1 (some .int), Cond.methodLink RX6 168 yX6_bOf, Cond.static yX6_bOf, Cond.code yX6_bOf cX6_bOf 1 (some .int), Cond.methodLink RX5 31 yX5_scale, Cond.instanceMethod yX5_scale, Cond.selects RX5 yX5_scale yX5_scale, Cond.code yX5_scale cX5_scale 6 none, Cond.methodLink RX5 35 yX5_sumOf, Cond.instanceMethod yX5_sumOf, Cond.selects RX5 yX5_sumOf yX5_sumOf, Cond.code yX5_sumOf cX5_sumOf 5 (some .int), Cond.methodLink RX5 39 yX0_cellOf, Cond.instanceMethod yX0_cellOf, Cond.selects RX0 yX0_cellOf yX0_cellOf, Cond.code yX0_cellOf cX0_cellOf 2 (some .int)]
def wsX6_reweigh_r3 : List Cond := [Cond.fieldLink RX0 15 "SurveyHouse$Interviews" "cells" "[I"]
def wsX6_reweigh : List Cond := .code yX6_reweigh cX6_reweigh 1 none :: ((wsX6_reweigh_r1 ++ (wsX6_reweigh_r2 ++ wsX6_reweigh_r3)) ++ wsX60 ++ wsX50 ++ wsX00 ++ wsX30)
def wsX6_target_r1 : List Cond := [Cond.classLink RX6 58 "java/lang/IllegalArgumentException", Cond.initialized "java/lang/IllegalArgumentException", Cond.fieldLink RX6 19 "SurveyHouse" "quotas" "LSurveyHouse$Quotas;", Cond.methodLink RX6 123 yX6_needCell, Cond.static yX6_needCell, Cond.initialized RX6, Cond.code yX6_needCell cX6_needCell 2 none, Cond.classLink RX6 322 "java/lang/IndexOutOfBoundsException", Cond.initialized "java/lang/IndexOutOfBoundsException", Cond.methodLink RX6 107 yX6_isA, Cond.static yX6_isA, Cond.code yX6_isA cX6_isA 1 (some .boolean), Cond.methodLink RX6 111 yX6_isB, Cond.static yX6_isB, Cond.code yX6_isB cX6_isB 1 (some .boolean), Cond.methodLink RX6 119 yX6_cellAt, Cond.static yX6_cellAt, Cond.code yX6_cellAt cX6_cellAt 2 (some .int), Cond.methodLink RX6 128 yX3_targetOf, Cond.instanceMethod yX3_targetOf, Cond.selects RX3 yX3_targetOf yX3_targetOf, Cond.initialized RX3, Cond.code yX3_targetOf cX3_targetOf 2 (some .int), Cond.fieldLink RX3 9 "SurveyHouse$Quotas" "targets" "[I"]
def wsX6_target_r2 : List Cond := [Cond.methodLink RX6 131 yX3_setTarget, Cond.instanceMethod yX3_setTarget, Cond.selects RX3 yX3_setTarget yX3_setTarget, Cond.code yX3_setTarget cX3_setTarget 3 none, Cond.methodLink RX6 134 yX6_reweigh, Cond.instanceMethod yX6_reweigh, Cond.selects RX6 yX6_reweigh yX6_reweigh, Cond.code yX6_reweigh cX6_reweigh 1 none, Cond.fieldLink RX6 40 "SurveyHouse" "weights" "LSurveyHouse$Weights;", Cond.fieldLink RX6 33 "SurveyHouse" "interviews" "LSurveyHouse$Interviews;", Cond.fieldLink RX6 54 "SurveyHouse" "roundsTold" "I", Cond.methodLink RX6 343 yX5_weigh, Cond.instanceMethod yX5_weigh, Cond.selects RX5 yX5_weigh yX5_weigh, Cond.initialized RX5, Cond.code yX5_weigh cX5_weigh 6 none, Cond.fieldLink RX5 9 "SurveyHouse$Weights" "weights" "[I", Cond.methodLink RX5 15 yX0_size, Cond.instanceMethod yX0_size, Cond.selects RX0 yX0_size yX0_size, Cond.initialized RX0, Cond.code yX0_size cX0_size 1 (some .int), Cond.fieldLink RX0 39 "SurveyHouse$Interviews" "size" "I", Cond.methodLink RX5 21 yX0_isComplete]
def wsX6_target_r3 : List Cond := [Cond.instanceMethod yX0_isComplete, Cond.selects RX0 yX0_isComplete yX0_isComplete, Cond.code yX0_isComplete cX0_isComplete 2 (some .boolean), Cond.fieldLink RX0 18 "SurveyHouse$Interviews" "states" "[I", Cond.methodLink RX5 25 yX3_marginOf, Cond.instanceMethod yX3_marginOf, Cond.selects RX3 yX3_marginOf yX3_marginOf, Cond.code yX3_marginOf cX3_marginOf 4 (some .int), Cond.static yX6_isIn, Cond.code yX6_isIn cX6_isIn 2 (some .boolean), Cond.methodLink RX6 165 yX6_aOf, Cond.static yX6_aOf, Cond.code yX6_aOf cX6_aOf 1 (some .int), Cond.methodLink RX6 168 yX6_bOf, Cond.static yX6_bOf, Cond.code yX6_bOf cX6_bOf 1 (some .int), Cond.methodLink RX5 31 yX5_scale, Cond.instanceMethod yX5_scale, Cond.selects RX5 yX5_scale yX5_scale, Cond.code yX5_scale cX5_scale 6 none, Cond.methodLink RX5 35 yX5_sumOf, Cond.instanceMethod yX5_sumOf, Cond.selects RX5 yX5_sumOf yX5_sumOf, Cond.code yX5_sumOf cX5_sumOf 5 (some .int)]
def wsX6_target_r4 : List Cond := [Cond.methodLink RX5 39 yX0_cellOf, Cond.instanceMethod yX0_cellOf, Cond.selects RX0 yX0_cellOf yX0_cellOf, Cond.code yX0_cellOf cX0_cellOf 2 (some .int), Cond.fieldLink RX0 15 "SurveyHouse$Interviews" "cells" "[I"]
def wsX6_target : List Cond := .code yX6_target cX6_target 6 (some .int) :: ((wsX6_target_r1 ++ (wsX6_target_r2 ++ (wsX6_target_r3 ++ wsX6_target_r4))) ++ wsX60 ++ wsX30 ++ wsX50 ++ wsX00 ++ (vx_atS RX6 62 "java/lang/IllegalArgumentException" ["java/lang/RuntimeException", "java/lang/Exception"]).filter goodWord ++ (vx_atS RX6 326 "java/lang/IndexOutOfBoundsException" ["java/lang/RuntimeException", "java/lang/Exception"]).filter goodWord)
def wsX6_soft : List Cond := .code yX6_soft cX6_soft 3 (some .int) :: ([.classLink RX6 58 "java/lang/IllegalArgumentException", .initialized "java/lang/IllegalArgumentException", .fieldLink RX6 19 "SurveyHouse" "quotas" "LSurveyHouse$Quotas;", .methodLink RX6 139 yX3_softEdge, .instanceMethod yX3_softEdge, .selects RX3 yX3_softEdge yX3_softEdge, .initialized RX3, .code yX3_softEdge cX3_softEdge 1 (some .int), .fieldLink RX3 18 "SurveyHouse$Quotas" "edge" "I", .methodLink RX6 142 yX3_setSoftEdge, .instanceMethod yX3_setSoftEdge, .selects RX3 yX3_setSoftEdge yX3_setSoftEdge, .code yX3_setSoftEdge cX3_setSoftEdge 2 none] ++ wsX60 ++ wsX30 ++ (vx_atS RX6 62 "java/lang/IllegalArgumentException" ["java/lang/RuntimeException", "java/lang/Exception"]).filter goodWord)
def wsX6_canBeAsked_r1 : List Cond := [Cond.fieldLink RX6 33 "SurveyHouse" "interviews" "LSurveyHouse$Interviews;", Cond.fieldLink RX6 26 "SurveyHouse" "panel" "LSurveyHouse$Panel;", Cond.fieldLink RX6 19 "SurveyHouse" "quotas" "LSurveyHouse$Quotas;", Cond.methodLink RX6 181 yX1_latestOf, Cond.instanceMethod yX1_latestOf, Cond.selects RX1 yX1_latestOf yX1_latestOf, Cond.initialized RX1, Cond.code yX1_latestOf cX1_latestOf 2 (some .int), Cond.fieldLink RX1 21 "SurveyHouse$Panel" "latest" "[I", Cond.methodLink RX6 417 yX0_isTaken, Cond.instanceMethod yX0_isTaken, Cond.selects RX0 yX0_isTaken yX0_isTaken, Cond.initialized RX0, Cond.code yX0_isTaken cX0_isTaken 2 (some .boolean), Cond.fieldLink RX0 39 "SurveyHouse$Interviews" "size" "I", Cond.fieldLink RX0 18 "SurveyHouse$Interviews" "states" "[I", Cond.methodLink RX6 171 yX1_fatigueIn, Cond.instanceMethod yX1_fatigueIn, Cond.selects RX1 yX1_fatigueIn yX1_fatigueIn, Cond.code yX1_fatigueIn cX1_fatigueIn 3 (some .int), Cond.fieldLink RX1 15 "SurveyHouse$Panel" "fatigue" "[I", Cond.methodLink RX1 31 Lib.Math.max.name, Cond.static Lib.Math.max.name, Cond.initialized "java/lang/Math"]
def wsX6_canBeAsked_r2 : List Cond := [Cond.code Lib.Math.max.name Lib.Math.max.code 2 (some .int), Cond.methodLink RX6 162 yX1_cellOf, Cond.instanceMethod yX1_cellOf, Cond.selects RX1 yX1_cellOf yX1_cellOf, Cond.code yX1_cellOf cX1_cellOf 2 (some .int), Cond.fieldLink RX1 9 "SurveyHouse$Panel" "cells" "[I", Cond.methodLink RX6 148 yX3_isOpen, Cond.instanceMethod yX3_isOpen, Cond.selects RX3 yX3_isOpen yX3_isOpen, Cond.initialized RX3, Cond.code yX3_isOpen cX3_isOpen 2 (some .boolean), Cond.methodLink RX3 26 yX3_isOpenWith, Cond.instanceMethod yX3_isOpenWith, Cond.selects RX3 yX3_isOpenWith yX3_isOpenWith, Cond.code yX3_isOpenWith cX3_isOpenWith 5 (some .boolean), Cond.fieldLink RX3 15 "SurveyHouse$Quotas" "filled" "[I", Cond.fieldLink RX3 9 "SurveyHouse$Quotas" "targets" "[I", Cond.fieldLink RX3 18 "SurveyHouse$Quotas" "edge" "I", Cond.methodLink RX3 22 yX3_sumOf, Cond.static yX3_sumOf, Cond.code yX3_sumOf cX3_sumOf 6 (some .int)]
def wsX6_canBeAsked : List Cond := .code yX6_canBeAsked cX6_canBeAsked 3 (some .boolean) :: ((wsX6_canBeAsked_r1 ++ wsX6_canBeAsked_r2) ++ wsX60 ++ wsX10 ++ wsX00 ++ wsX30)
def wsX6_countToAsk_r1 : List Cond := [Cond.fieldLink RX6 26 "SurveyHouse" "panel" "LSurveyHouse$Panel;", Cond.methodLink RX6 116 yX1_size, Cond.instanceMethod yX1_size, Cond.selects RX1 yX1_size yX1_size, Cond.initialized RX1, Cond.code yX1_size cX1_size 1 (some .int), Cond.fieldLink RX1 24 "SurveyHouse$Panel" "size" "I", Cond.methodLink RX6 162 yX1_cellOf, Cond.instanceMethod yX1_cellOf, Cond.selects RX1 yX1_cellOf yX1_cellOf, Cond.code yX1_cellOf cX1_cellOf 2 (some .int), Cond.fieldLink RX1 9 "SurveyHouse$Panel" "cells" "[I", Cond.methodLink RX6 177 yX6_canBeAsked, Cond.instanceMethod yX6_canBeAsked, Cond.selects RX6 yX6_canBeAsked yX6_canBeAsked, Cond.initialized RX6, Cond.code yX6_canBeAsked cX6_canBeAsked 3 (some .boolean), Cond.fieldLink RX6 33 "SurveyHouse" "interviews" "LSurveyHouse$Interviews;", Cond.fieldLink RX6 19 "SurveyHouse" "quotas" "LSurveyHouse$Quotas;", Cond.methodLink RX6 181 yX1_latestOf, Cond.instanceMethod yX1_latestOf, Cond.selects RX1 yX1_latestOf yX1_latestOf, Cond.code yX1_latestOf cX1_latestOf 2 (some .int), Cond.fieldLink RX1 21 "SurveyHouse$Panel" "latest" "[I"]
def wsX6_countToAsk_r2 : List Cond := [Cond.methodLink RX6 417 yX0_isTaken, Cond.instanceMethod yX0_isTaken, Cond.selects RX0 yX0_isTaken yX0_isTaken, Cond.initialized RX0, Cond.code yX0_isTaken cX0_isTaken 2 (some .boolean), Cond.fieldLink RX0 39 "SurveyHouse$Interviews" "size" "I", Cond.fieldLink RX0 18 "SurveyHouse$Interviews" "states" "[I", Cond.methodLink RX6 171 yX1_fatigueIn, Cond.instanceMethod yX1_fatigueIn, Cond.selects RX1 yX1_fatigueIn yX1_fatigueIn, Cond.code yX1_fatigueIn cX1_fatigueIn 3 (some .int), Cond.fieldLink RX1 15 "SurveyHouse$Panel" "fatigue" "[I", Cond.methodLink RX1 31 Lib.Math.max.name, Cond.static Lib.Math.max.name, Cond.initialized "java/lang/Math", Cond.code Lib.Math.max.name Lib.Math.max.code 2 (some .int), Cond.methodLink RX6 148 yX3_isOpen, Cond.instanceMethod yX3_isOpen, Cond.selects RX3 yX3_isOpen yX3_isOpen, Cond.initialized RX3, Cond.code yX3_isOpen cX3_isOpen 2 (some .boolean), Cond.methodLink RX3 26 yX3_isOpenWith, Cond.instanceMethod yX3_isOpenWith, Cond.selects RX3 yX3_isOpenWith yX3_isOpenWith]
def wsX6_countToAsk_r3 : List Cond := [Cond.code yX3_isOpenWith cX3_isOpenWith 5 (some .boolean), Cond.fieldLink RX3 15 "SurveyHouse$Quotas" "filled" "[I", Cond.fieldLink RX3 9 "SurveyHouse$Quotas" "targets" "[I", Cond.fieldLink RX3 18 "SurveyHouse$Quotas" "edge" "I", Cond.methodLink RX3 22 yX3_sumOf, Cond.static yX3_sumOf, Cond.code yX3_sumOf cX3_sumOf 6 (some .int)]
def wsX6_countToAsk : List Cond := .code yX6_countToAsk cX6_countToAsk 4 (some .int) :: ((wsX6_countToAsk_r1 ++ (wsX6_countToAsk_r2 ++ wsX6_countToAsk_r3)) ++ wsX60 ++ wsX10 ++ wsX00 ++ wsX30)
def wsX6_ofCell_r1 : List Cond := [Cond.classLink RX6 58 "java/lang/IllegalArgumentException", Cond.initialized "java/lang/IllegalArgumentException", Cond.fieldLink RX6 19 "SurveyHouse" "quotas" "LSurveyHouse$Quotas;", Cond.fieldLink RX6 26 "SurveyHouse" "panel" "LSurveyHouse$Panel;", Cond.methodLink RX6 123 yX6_needCell, Cond.static yX6_needCell, Cond.initialized RX6, Cond.code yX6_needCell cX6_needCell 2 none, Cond.classLink RX6 322 "java/lang/IndexOutOfBoundsException", Cond.initialized "java/lang/IndexOutOfBoundsException", Cond.methodLink RX6 107 yX6_isA, Cond.static yX6_isA, Cond.code yX6_isA cX6_isA 1 (some .boolean), Cond.methodLink RX6 111 yX6_isB, Cond.static yX6_isB, Cond.code yX6_isB cX6_isB 1 (some .boolean), Cond.methodLink RX6 119 yX6_cellAt, Cond.static yX6_cellAt, Cond.code yX6_cellAt cX6_cellAt 2 (some .int), Cond.methodLink RX6 128 yX3_targetOf, Cond.instanceMethod yX3_targetOf, Cond.selects RX3 yX3_targetOf yX3_targetOf, Cond.initialized RX3, Cond.code yX3_targetOf cX3_targetOf 2 (some .int)]
def wsX6_ofCell_r2 : List Cond := [Cond.fieldLink RX3 9 "SurveyHouse$Quotas" "targets" "[I", Cond.methodLink RX6 145 yX3_filledOf, Cond.instanceMethod yX3_filledOf, Cond.selects RX3 yX3_filledOf yX3_filledOf, Cond.code yX3_filledOf cX3_filledOf 2 (some .int), Cond.fieldLink RX3 15 "SurveyHouse$Quotas" "filled" "[I", Cond.methodLink RX6 148 yX3_isOpen, Cond.instanceMethod yX3_isOpen, Cond.selects RX3 yX3_isOpen yX3_isOpen, Cond.code yX3_isOpen cX3_isOpen 2 (some .boolean), Cond.methodLink RX3 26 yX3_isOpenWith, Cond.instanceMethod yX3_isOpenWith, Cond.selects RX3 yX3_isOpenWith yX3_isOpenWith, Cond.code yX3_isOpenWith cX3_isOpenWith 5 (some .boolean), Cond.fieldLink RX3 18 "SurveyHouse$Quotas" "edge" "I", Cond.methodLink RX3 22 yX3_sumOf, Cond.static yX3_sumOf, Cond.code yX3_sumOf cX3_sumOf 6 (some .int), Cond.methodLink RX6 151 yX1_countOf, Cond.instanceMethod yX1_countOf, Cond.selects RX1 yX1_countOf yX1_countOf, Cond.initialized RX1, Cond.code yX1_countOf cX1_countOf 4 (some .int), Cond.fieldLink RX1 24 "SurveyHouse$Panel" "size" "I"]
def wsX6_ofCell_r3 : List Cond := [Cond.fieldLink RX1 9 "SurveyHouse$Panel" "cells" "[I", Cond.methodLink RX6 154 yX6_countToAsk, Cond.instanceMethod yX6_countToAsk, Cond.selects RX6 yX6_countToAsk yX6_countToAsk, Cond.code yX6_countToAsk cX6_countToAsk 4 (some .int), Cond.methodLink RX6 116 yX1_size, Cond.instanceMethod yX1_size, Cond.selects RX1 yX1_size yX1_size, Cond.code yX1_size cX1_size 1 (some .int), Cond.methodLink RX6 162 yX1_cellOf, Cond.instanceMethod yX1_cellOf, Cond.selects RX1 yX1_cellOf yX1_cellOf, Cond.code yX1_cellOf cX1_cellOf 2 (some .int), Cond.methodLink RX6 177 yX6_canBeAsked, Cond.instanceMethod yX6_canBeAsked, Cond.selects RX6 yX6_canBeAsked yX6_canBeAsked, Cond.code yX6_canBeAsked cX6_canBeAsked 3 (some .boolean), Cond.fieldLink RX6 33 "SurveyHouse" "interviews" "LSurveyHouse$Interviews;", Cond.methodLink RX6 181 yX1_latestOf, Cond.instanceMethod yX1_latestOf, Cond.selects RX1 yX1_latestOf yX1_latestOf, Cond.code yX1_latestOf cX1_latestOf 2 (some .int), Cond.fieldLink RX1 21 "SurveyHouse$Panel" "latest" "[I", Cond.methodLink RX6 417 yX0_isTaken]
def wsX6_ofCell_r4 : List Cond := [Cond.instanceMethod yX0_isTaken, Cond.selects RX0 yX0_isTaken yX0_isTaken, Cond.initialized RX0, Cond.code yX0_isTaken cX0_isTaken 2 (some .boolean), Cond.fieldLink RX0 39 "SurveyHouse$Interviews" "size" "I", Cond.fieldLink RX0 18 "SurveyHouse$Interviews" "states" "[I", Cond.methodLink RX6 171 yX1_fatigueIn, Cond.instanceMethod yX1_fatigueIn, Cond.selects RX1 yX1_fatigueIn yX1_fatigueIn, Cond.code yX1_fatigueIn cX1_fatigueIn 3 (some .int), Cond.fieldLink RX1 15 "SurveyHouse$Panel" "fatigue" "[I", Cond.methodLink RX1 31 Lib.Math.max.name, Cond.static Lib.Math.max.name, Cond.initialized "java/lang/Math", Cond.code Lib.Math.max.name Lib.Math.max.code 2 (some .int)]
def wsX6_ofCell : List Cond := .code yX6_ofCell cX6_ofCell 5 (some .int) :: ((wsX6_ofCell_r1 ++ (wsX6_ofCell_r2 ++ (wsX6_ofCell_r3 ++ wsX6_ofCell_r4))) ++ wsX60 ++ wsX30 ++ wsX10 ++ wsX00 ++ (vx_atS RX6 62 "java/lang/IllegalArgumentException" ["java/lang/RuntimeException", "java/lang/Exception"]).filter goodWord ++ (vx_atS RX6 326 "java/lang/IndexOutOfBoundsException" ["java/lang/RuntimeException", "java/lang/Exception"]).filter goodWord)
def wsX6_needPerson : List Cond := .code yX6_needPerson cX6_needPerson 2 none :: ([.classLink RX6 322 "java/lang/IndexOutOfBoundsException", .initialized "java/lang/IndexOutOfBoundsException", .fieldLink RX6 26 "SurveyHouse" "panel" "LSurveyHouse$Panel;", .methodLink RX6 116 yX1_size, .instanceMethod yX1_size, .selects RX1 yX1_size yX1_size, .initialized RX1, .code yX1_size cX1_size 1 (some .int), .fieldLink RX1 24 "SurveyHouse$Panel" "size" "I"] ++ wsX60 ++ wsX10 ++ (vx_atS RX6 326 "java/lang/IndexOutOfBoundsException" ["java/lang/RuntimeException", "java/lang/Exception"]).filter goodWord)
def wsX6_ofPerson_r1 : List Cond := [Cond.classLink RX6 58 "java/lang/IllegalArgumentException", Cond.initialized "java/lang/IllegalArgumentException", Cond.fieldLink RX6 26 "SurveyHouse" "panel" "LSurveyHouse$Panel;", Cond.methodLink RX6 159 yX6_needPerson, Cond.instanceMethod yX6_needPerson, Cond.selects RX6 yX6_needPerson yX6_needPerson, Cond.initialized RX6, Cond.code yX6_needPerson cX6_needPerson 2 none, Cond.classLink RX6 322 "java/lang/IndexOutOfBoundsException", Cond.initialized "java/lang/IndexOutOfBoundsException", Cond.methodLink RX6 116 yX1_size, Cond.instanceMethod yX1_size, Cond.selects RX1 yX1_size yX1_size, Cond.initialized RX1, Cond.code yX1_size cX1_size 1 (some .int), Cond.fieldLink RX1 24 "SurveyHouse$Panel" "size" "I", Cond.methodLink RX6 162 yX1_cellOf, Cond.instanceMethod yX1_cellOf, Cond.selects RX1 yX1_cellOf yX1_cellOf, Cond.code yX1_cellOf cX1_cellOf 2 (some .int), Cond.fieldLink RX1 9 "SurveyHouse$Panel" "cells" "[I", Cond.methodLink RX6 165 yX6_aOf, Cond.static yX6_aOf, Cond.code yX6_aOf cX6_aOf 1 (some .int)]
def wsX6_ofPerson_r2 : List Cond := [Cond.methodLink RX6 168 yX6_bOf, Cond.static yX6_bOf, Cond.code yX6_bOf cX6_bOf 1 (some .int), Cond.methodLink RX6 171 yX1_fatigueIn, Cond.instanceMethod yX1_fatigueIn, Cond.selects RX1 yX1_fatigueIn yX1_fatigueIn, Cond.code yX1_fatigueIn cX1_fatigueIn 3 (some .int), Cond.fieldLink RX1 15 "SurveyHouse$Panel" "fatigue" "[I", Cond.methodLink RX1 31 Lib.Math.max.name, Cond.static Lib.Math.max.name, Cond.initialized "java/lang/Math", Cond.code Lib.Math.max.name Lib.Math.max.code 2 (some .int), Cond.methodLink RX6 174 yX1_pointsOf, Cond.instanceMethod yX1_pointsOf, Cond.selects RX1 yX1_pointsOf yX1_pointsOf, Cond.code yX1_pointsOf cX1_pointsOf 2 (some .int), Cond.fieldLink RX1 18 "SurveyHouse$Panel" "points" "[I", Cond.methodLink RX6 177 yX6_canBeAsked, Cond.instanceMethod yX6_canBeAsked, Cond.selects RX6 yX6_canBeAsked yX6_canBeAsked, Cond.code yX6_canBeAsked cX6_canBeAsked 3 (some .boolean), Cond.fieldLink RX6 33 "SurveyHouse" "interviews" "LSurveyHouse$Interviews;", Cond.fieldLink RX6 19 "SurveyHouse" "quotas" "LSurveyHouse$Quotas;", Cond.methodLink RX6 181 yX1_latestOf]
def wsX6_ofPerson_r3 : List Cond := [Cond.instanceMethod yX1_latestOf, Cond.selects RX1 yX1_latestOf yX1_latestOf, Cond.code yX1_latestOf cX1_latestOf 2 (some .int), Cond.fieldLink RX1 21 "SurveyHouse$Panel" "latest" "[I", Cond.methodLink RX6 417 yX0_isTaken, Cond.instanceMethod yX0_isTaken, Cond.selects RX0 yX0_isTaken yX0_isTaken, Cond.initialized RX0, Cond.code yX0_isTaken cX0_isTaken 2 (some .boolean), Cond.fieldLink RX0 39 "SurveyHouse$Interviews" "size" "I", Cond.fieldLink RX0 18 "SurveyHouse$Interviews" "states" "[I", Cond.methodLink RX6 148 yX3_isOpen, Cond.instanceMethod yX3_isOpen, Cond.selects RX3 yX3_isOpen yX3_isOpen, Cond.initialized RX3, Cond.code yX3_isOpen cX3_isOpen 2 (some .boolean), Cond.methodLink RX3 26 yX3_isOpenWith, Cond.instanceMethod yX3_isOpenWith, Cond.selects RX3 yX3_isOpenWith yX3_isOpenWith, Cond.code yX3_isOpenWith cX3_isOpenWith 5 (some .boolean), Cond.fieldLink RX3 15 "SurveyHouse$Quotas" "filled" "[I", Cond.fieldLink RX3 9 "SurveyHouse$Quotas" "targets" "[I", Cond.fieldLink RX3 18 "SurveyHouse$Quotas" "edge" "I", Cond.methodLink RX3 22 yX3_sumOf]
def wsX6_ofPerson_r4 : List Cond := [Cond.static yX3_sumOf, Cond.code yX3_sumOf cX3_sumOf 6 (some .int)]
def wsX6_ofPerson : List Cond := .code yX6_ofPerson cX6_ofPerson 3 (some .int) :: ((wsX6_ofPerson_r1 ++ (wsX6_ofPerson_r2 ++ (wsX6_ofPerson_r3 ++ wsX6_ofPerson_r4))) ++ wsX60 ++ wsX10 ++ wsX00 ++ wsX30 ++ (vx_atS RX6 62 "java/lang/IllegalArgumentException" ["java/lang/RuntimeException", "java/lang/Exception"]).filter goodWord ++ (vx_atS RX6 326 "java/lang/IndexOutOfBoundsException" ["java/lang/RuntimeException", "java/lang/Exception"]).filter goodWord)
def wsX6_isAhead : List Cond := .code yX6_isAhead cX6_isAhead 6 (some .boolean) :: ([.fieldLink RX6 19 "SurveyHouse" "quotas" "LSurveyHouse$Quotas;", .fieldLink RX6 26 "SurveyHouse" "panel" "LSurveyHouse$Panel;", .methodLink RX6 162 yX1_cellOf, .instanceMethod yX1_cellOf, .selects RX1 yX1_cellOf yX1_cellOf, .initialized RX1, .code yX1_cellOf cX1_cellOf 2 (some .int), .fieldLink RX1 9 "SurveyHouse$Panel" "cells" "[I", .methodLink RX6 423 yX3_lackOf, .instanceMethod yX3_lackOf, .selects RX3 yX3_lackOf yX3_lackOf, .initialized RX3, .code yX3_lackOf cX3_lackOf 2 (some .int), .fieldLink RX3 9 "SurveyHouse$Quotas" "targets" "[I", .fieldLink RX3 15 "SurveyHouse$Quotas" "filled" "[I", .methodLink RX6 171 yX1_fatigueIn, .instanceMethod yX1_fatigueIn, .selects RX1 yX1_fatigueIn yX1_fatigueIn, .code yX1_fatigueIn cX1_fatigueIn 3 (some .int), .fieldLink RX1 15 "SurveyHouse$Panel" "fatigue" "[I", .methodLink RX1 31 Lib.Math.max.name, .static Lib.Math.max.name, .initialized "java/lang/Math", .code Lib.Math.max.name Lib.Math.max.code 2 (some .int)] ++ wsX60 ++ wsX10 ++ wsX30)
def wsX6_firstToAsk_r1 : List Cond := [Cond.fieldLink RX6 26 "SurveyHouse" "panel" "LSurveyHouse$Panel;", Cond.methodLink RX6 116 yX1_size, Cond.instanceMethod yX1_size, Cond.selects RX1 yX1_size yX1_size, Cond.initialized RX1, Cond.code yX1_size cX1_size 1 (some .int), Cond.fieldLink RX1 24 "SurveyHouse$Panel" "size" "I", Cond.methodLink RX6 177 yX6_canBeAsked, Cond.instanceMethod yX6_canBeAsked, Cond.selects RX6 yX6_canBeAsked yX6_canBeAsked, Cond.initialized RX6, Cond.code yX6_canBeAsked cX6_canBeAsked 3 (some .boolean), Cond.fieldLink RX6 33 "SurveyHouse" "interviews" "LSurveyHouse$Interviews;", Cond.fieldLink RX6 19 "SurveyHouse" "quotas" "LSurveyHouse$Quotas;", Cond.methodLink RX6 181 yX1_latestOf, Cond.instanceMethod yX1_latestOf, Cond.selects RX1 yX1_latestOf yX1_latestOf, Cond.code yX1_latestOf cX1_latestOf 2 (some .int), Cond.fieldLink RX1 21 "SurveyHouse$Panel" "latest" "[I", Cond.methodLink RX6 417 yX0_isTaken, Cond.instanceMethod yX0_isTaken, Cond.selects RX0 yX0_isTaken yX0_isTaken, Cond.initialized RX0, Cond.code yX0_isTaken cX0_isTaken 2 (some .boolean)]
def wsX6_firstToAsk_r2 : List Cond := [Cond.fieldLink RX0 39 "SurveyHouse$Interviews" "size" "I", Cond.fieldLink RX0 18 "SurveyHouse$Interviews" "states" "[I", Cond.methodLink RX6 171 yX1_fatigueIn, Cond.instanceMethod yX1_fatigueIn, Cond.selects RX1 yX1_fatigueIn yX1_fatigueIn, Cond.code yX1_fatigueIn cX1_fatigueIn 3 (some .int), Cond.fieldLink RX1 15 "SurveyHouse$Panel" "fatigue" "[I", Cond.methodLink RX1 31 Lib.Math.max.name, Cond.static Lib.Math.max.name, Cond.initialized "java/lang/Math", Cond.code Lib.Math.max.name Lib.Math.max.code 2 (some .int), Cond.methodLink RX6 162 yX1_cellOf, Cond.instanceMethod yX1_cellOf, Cond.selects RX1 yX1_cellOf yX1_cellOf, Cond.code yX1_cellOf cX1_cellOf 2 (some .int), Cond.fieldLink RX1 9 "SurveyHouse$Panel" "cells" "[I", Cond.methodLink RX6 148 yX3_isOpen, Cond.instanceMethod yX3_isOpen, Cond.selects RX3 yX3_isOpen yX3_isOpen, Cond.initialized RX3, Cond.code yX3_isOpen cX3_isOpen 2 (some .boolean), Cond.methodLink RX3 26 yX3_isOpenWith, Cond.instanceMethod yX3_isOpenWith, Cond.selects RX3 yX3_isOpenWith yX3_isOpenWith]
def wsX6_firstToAsk_r3 : List Cond := [Cond.code yX3_isOpenWith cX3_isOpenWith 5 (some .boolean), Cond.fieldLink RX3 15 "SurveyHouse$Quotas" "filled" "[I", Cond.fieldLink RX3 9 "SurveyHouse$Quotas" "targets" "[I", Cond.fieldLink RX3 18 "SurveyHouse$Quotas" "edge" "I", Cond.methodLink RX3 22 yX3_sumOf, Cond.static yX3_sumOf, Cond.code yX3_sumOf cX3_sumOf 6 (some .int), Cond.methodLink RX6 420 yX6_isAhead, Cond.instanceMethod yX6_isAhead, Cond.selects RX6 yX6_isAhead yX6_isAhead, Cond.code yX6_isAhead cX6_isAhead 6 (some .boolean), Cond.methodLink RX6 423 yX3_lackOf, Cond.instanceMethod yX3_lackOf, Cond.selects RX3 yX3_lackOf yX3_lackOf, Cond.code yX3_lackOf cX3_lackOf 2 (some .int)]
def wsX6_firstToAsk : List Cond := .code yX6_firstToAsk cX6_firstToAsk 4 (some .int) :: ((wsX6_firstToAsk_r1 ++ (wsX6_firstToAsk_r2 ++ wsX6_firstToAsk_r3)) ++ wsX60 ++ wsX10 ++ wsX00 ++ wsX30)
def wsX6_next_r1 : List Cond := [Cond.methodLink RX6 186 yX6_firstToAsk, Cond.instanceMethod yX6_firstToAsk, Cond.selects RX6 yX6_firstToAsk yX6_firstToAsk, Cond.initialized RX6, Cond.code yX6_firstToAsk cX6_firstToAsk 4 (some .int), Cond.fieldLink RX6 26 "SurveyHouse" "panel" "LSurveyHouse$Panel;", Cond.methodLink RX6 116 yX1_size, Cond.instanceMethod yX1_size, Cond.selects RX1 yX1_size yX1_size, Cond.initialized RX1, Cond.code yX1_size cX1_size 1 (some .int), Cond.fieldLink RX1 24 "SurveyHouse$Panel" "size" "I", Cond.methodLink RX6 177 yX6_canBeAsked, Cond.instanceMethod yX6_canBeAsked, Cond.selects RX6 yX6_canBeAsked yX6_canBeAsked, Cond.code yX6_canBeAsked cX6_canBeAsked 3 (some .boolean), Cond.fieldLink RX6 33 "SurveyHouse" "interviews" "LSurveyHouse$Interviews;", Cond.fieldLink RX6 19 "SurveyHouse" "quotas" "LSurveyHouse$Quotas;", Cond.methodLink RX6 181 yX1_latestOf, Cond.instanceMethod yX1_latestOf, Cond.selects RX1 yX1_latestOf yX1_latestOf, Cond.code yX1_latestOf cX1_latestOf 2 (some .int), Cond.fieldLink RX1 21 "SurveyHouse$Panel" "latest" "[I", Cond.methodLink RX6 417 yX0_isTaken]
def wsX6_next_r2 : List Cond := [Cond.instanceMethod yX0_isTaken, Cond.selects RX0 yX0_isTaken yX0_isTaken, Cond.initialized RX0, Cond.code yX0_isTaken cX0_isTaken 2 (some .boolean), Cond.fieldLink RX0 39 "SurveyHouse$Interviews" "size" "I", Cond.fieldLink RX0 18 "SurveyHouse$Interviews" "states" "[I", Cond.methodLink RX6 171 yX1_fatigueIn, Cond.instanceMethod yX1_fatigueIn, Cond.selects RX1 yX1_fatigueIn yX1_fatigueIn, Cond.code yX1_fatigueIn cX1_fatigueIn 3 (some .int), Cond.fieldLink RX1 15 "SurveyHouse$Panel" "fatigue" "[I", Cond.methodLink RX1 31 Lib.Math.max.name, Cond.static Lib.Math.max.name, Cond.initialized "java/lang/Math", Cond.code Lib.Math.max.name Lib.Math.max.code 2 (some .int), Cond.methodLink RX6 162 yX1_cellOf, Cond.instanceMethod yX1_cellOf, Cond.selects RX1 yX1_cellOf yX1_cellOf, Cond.code yX1_cellOf cX1_cellOf 2 (some .int), Cond.fieldLink RX1 9 "SurveyHouse$Panel" "cells" "[I", Cond.methodLink RX6 148 yX3_isOpen, Cond.instanceMethod yX3_isOpen, Cond.selects RX3 yX3_isOpen yX3_isOpen, Cond.initialized RX3]
def wsX6_next_r3 : List Cond := [Cond.code yX3_isOpen cX3_isOpen 2 (some .boolean), Cond.methodLink RX3 26 yX3_isOpenWith, Cond.instanceMethod yX3_isOpenWith, Cond.selects RX3 yX3_isOpenWith yX3_isOpenWith, Cond.code yX3_isOpenWith cX3_isOpenWith 5 (some .boolean), Cond.fieldLink RX3 15 "SurveyHouse$Quotas" "filled" "[I", Cond.fieldLink RX3 9 "SurveyHouse$Quotas" "targets" "[I", Cond.fieldLink RX3 18 "SurveyHouse$Quotas" "edge" "I", Cond.methodLink RX3 22 yX3_sumOf, Cond.static yX3_sumOf, Cond.code yX3_sumOf cX3_sumOf 6 (some .int), Cond.methodLink RX6 420 yX6_isAhead, Cond.instanceMethod yX6_isAhead, Cond.selects RX6 yX6_isAhead yX6_isAhead, Cond.code yX6_isAhead cX6_isAhead 6 (some .boolean), Cond.methodLink RX6 423 yX3_lackOf, Cond.instanceMethod yX3_lackOf, Cond.selects RX3 yX3_lackOf yX3_lackOf, Cond.code yX3_lackOf cX3_lackOf 2 (some .int)]
def wsX6_next : List Cond := .code yX6_next cX6_next 1 (some .int) :: ((wsX6_next_r1 ++ (wsX6_next_r2 ++ wsX6_next_r3)) ++ wsX60 ++ wsX10 ++ wsX00 ++ wsX30)
def wsX6_day : List Cond := .code yX6_day cX6_day 1 (some .int) :: ([.fieldLink RX6 26 "SurveyHouse" "panel" "LSurveyHouse$Panel;", .methodLink RX6 189 yX1_beginDay, .instanceMethod yX1_beginDay, .selects RX1 yX1_beginDay yX1_beginDay, .initialized RX1, .code yX1_beginDay cX1_beginDay 2 (some .int), .fieldLink RX1 24 "SurveyHouse$Panel" "size" "I", .fieldLink RX1 15 "SurveyHouse$Panel" "fatigue" "[I", .fieldLink RX1 28 "SurveyHouse$Panel" "dayNumber" "I", .methodLink RX1 40 yX1_fatigueIn, .instanceMethod yX1_fatigueIn, .selects RX1 yX1_fatigueIn yX1_fatigueIn, .code yX1_fatigueIn cX1_fatigueIn 3 (some .int), .methodLink RX1 31 Lib.Math.max.name, .static Lib.Math.max.name, .initialized "java/lang/Math", .code Lib.Math.max.name Lib.Math.max.code 2 (some .int)] ++ wsX60 ++ wsX10)
def wsX6_begin_r1 : List Cond := [Cond.classLink RX6 69 "java/lang/IllegalStateException", Cond.initialized "java/lang/IllegalStateException", Cond.fieldLink RX6 12 "SurveyHouse" "form" "LSurveyHouse$Questionnaire;", Cond.fieldLink RX6 33 "SurveyHouse" "interviews" "LSurveyHouse$Interviews;", Cond.fieldLink RX6 26 "SurveyHouse" "panel" "LSurveyHouse$Panel;", Cond.methodLink RX6 159 yX6_needPerson, Cond.instanceMethod yX6_needPerson, Cond.selects RX6 yX6_needPerson yX6_needPerson, Cond.initialized RX6, Cond.code yX6_needPerson cX6_needPerson 2 none, Cond.classLink RX6 322 "java/lang/IndexOutOfBoundsException", Cond.initialized "java/lang/IndexOutOfBoundsException", Cond.methodLink RX6 116 yX1_size, Cond.instanceMethod yX1_size, Cond.selects RX1 yX1_size yX1_size, Cond.initialized RX1, Cond.code yX1_size cX1_size 1 (some .int), Cond.fieldLink RX1 24 "SurveyHouse$Panel" "size" "I", Cond.methodLink RX6 177 yX6_canBeAsked, Cond.instanceMethod yX6_canBeAsked, Cond.selects RX6 yX6_canBeAsked yX6_canBeAsked, Cond.code yX6_canBeAsked cX6_canBeAsked 3 (some .boolean), Cond.fieldLink RX6 19 "SurveyHouse" "quotas" "LSurveyHouse$Quotas;", Cond.methodLink RX6 181 yX1_latestOf]
def wsX6_begin_r2 : List Cond := [Cond.instanceMethod yX1_latestOf, Cond.selects RX1 yX1_latestOf yX1_latestOf, Cond.code yX1_latestOf cX1_latestOf 2 (some .int), Cond.fieldLink RX1 21 "SurveyHouse$Panel" "latest" "[I", Cond.methodLink RX6 417 yX0_isTaken, Cond.instanceMethod yX0_isTaken, Cond.selects RX0 yX0_isTaken yX0_isTaken, Cond.initialized RX0, Cond.code yX0_isTaken cX0_isTaken 2 (some .boolean), Cond.fieldLink RX0 39 "SurveyHouse$Interviews" "size" "I", Cond.fieldLink RX0 18 "SurveyHouse$Interviews" "states" "[I", Cond.methodLink RX6 171 yX1_fatigueIn, Cond.instanceMethod yX1_fatigueIn, Cond.selects RX1 yX1_fatigueIn yX1_fatigueIn, Cond.code yX1_fatigueIn cX1_fatigueIn 3 (some .int), Cond.fieldLink RX1 15 "SurveyHouse$Panel" "fatigue" "[I", Cond.methodLink RX1 31 Lib.Math.max.name, Cond.static Lib.Math.max.name, Cond.initialized "java/lang/Math", Cond.code Lib.Math.max.name Lib.Math.max.code 2 (some .int), Cond.methodLink RX6 162 yX1_cellOf, Cond.instanceMethod yX1_cellOf, Cond.selects RX1 yX1_cellOf yX1_cellOf, Cond.code yX1_cellOf cX1_cellOf 2 (some .int)]
def wsX6_begin_r3 : List Cond := [Cond.fieldLink RX1 9 "SurveyHouse$Panel" "cells" "[I", Cond.methodLink RX6 148 yX3_isOpen, Cond.instanceMethod yX3_isOpen, Cond.selects RX3 yX3_isOpen yX3_isOpen, Cond.initialized RX3, Cond.code yX3_isOpen cX3_isOpen 2 (some .boolean), Cond.methodLink RX3 26 yX3_isOpenWith, Cond.instanceMethod yX3_isOpenWith, Cond.selects RX3 yX3_isOpenWith yX3_isOpenWith, Cond.code yX3_isOpenWith cX3_isOpenWith 5 (some .boolean), Cond.fieldLink RX3 15 "SurveyHouse$Quotas" "filled" "[I", Cond.fieldLink RX3 9 "SurveyHouse$Quotas" "targets" "[I", Cond.fieldLink RX3 18 "SurveyHouse$Quotas" "edge" "I", Cond.methodLink RX3 22 yX3_sumOf, Cond.static yX3_sumOf, Cond.code yX3_sumOf cX3_sumOf 6 (some .int), Cond.methodLink RX6 65 yX2_size, Cond.instanceMethod yX2_size, Cond.selects RX2 yX2_size yX2_size, Cond.initialized RX2, Cond.code yX2_size cX2_size 1 (some .int), Cond.fieldLink RX2 27 "SurveyHouse$Questionnaire" "size" "I", Cond.methodLink RX6 196 yX0_size, Cond.instanceMethod yX0_size]
def wsX6_begin_r4 : List Cond := [Cond.selects RX0 yX0_size yX0_size, Cond.code yX0_size cX0_size 1 (some .int), Cond.methodLink RX6 199 yX0_add, Cond.instanceMethod yX0_add, Cond.selects RX0 yX0_add yX0_add, Cond.code yX0_add cX0_add 3 (some .int), Cond.fieldLink RX0 9 "SurveyHouse$Interviews" "people" "[I", Cond.fieldLink RX0 15 "SurveyHouse$Interviews" "cells" "[I", Cond.methodLink RX6 201 yX2_firstOf, Cond.instanceMethod yX2_firstOf, Cond.selects RX2 yX2_firstOf yX2_firstOf, Cond.code yX2_firstOf cX2_firstOf 2 (some .int), Cond.fieldLink RX2 35 "SurveyHouse$Questionnaire" "rotated" "I", Cond.methodLink RX6 204 yX0_moveTo, Cond.instanceMethod yX0_moveTo, Cond.selects RX0 yX0_moveTo yX0_moveTo, Cond.code yX0_moveTo cX0_moveTo 3 none, Cond.fieldLink RX0 21 "SurveyHouse$Interviews" "places" "[I", Cond.methodLink RX6 207 yX1_ask, Cond.instanceMethod yX1_ask, Cond.selects RX1 yX1_ask yX1_ask, Cond.code yX1_ask cX1_ask 3 none, Cond.methodLink RX1 37 Lib.Math.min.name, Cond.static Lib.Math.min.name]
def wsX6_begin_r5 : List Cond := [Cond.code Lib.Math.min.name Lib.Math.min.code 2 (some .int)]
def wsX6_begin : List Cond := .code yX6_begin cX6_begin 3 (some .int) :: ((wsX6_begin_r1 ++ (wsX6_begin_r2 ++ (wsX6_begin_r3 ++ (wsX6_begin_r4 ++ wsX6_begin_r5)))) ++ wsX60 ++ wsX10 ++ wsX00 ++ wsX30 ++ wsX20 ++ (vx_atS RX6 73 "java/lang/IllegalStateException" ["java/lang/RuntimeException", "java/lang/Exception"]).filter goodWord ++ (vx_atS RX6 326 "java/lang/IndexOutOfBoundsException" ["java/lang/RuntimeException", "java/lang/Exception"]).filter goodWord)
def wsX6_needInterview : List Cond := .code yX6_needInterview cX6_needInterview 2 none :: ([.classLink RX6 322 "java/lang/IndexOutOfBoundsException", .initialized "java/lang/IndexOutOfBoundsException", .fieldLink RX6 33 "SurveyHouse" "interviews" "LSurveyHouse$Interviews;", .methodLink RX6 196 yX0_size, .instanceMethod yX0_size, .selects RX0 yX0_size yX0_size, .initialized RX0, .code yX0_size cX0_size 1 (some .int), .fieldLink RX0 39 "SurveyHouse$Interviews" "size" "I"] ++ wsX60 ++ wsX00 ++ (vx_atS RX6 326 "java/lang/IndexOutOfBoundsException" ["java/lang/RuntimeException", "java/lang/Exception"]).filter goodWord)
def wsX6_finish_r1 : List Cond := [Cond.fieldLink RX6 33 "SurveyHouse" "interviews" "LSurveyHouse$Interviews;", Cond.fieldLink RX6 19 "SurveyHouse" "quotas" "LSurveyHouse$Quotas;", Cond.fieldLink RX6 26 "SurveyHouse" "panel" "LSurveyHouse$Panel;", Cond.methodLink RX6 240 yX0_personOf, Cond.instanceMethod yX0_personOf, Cond.selects RX0 yX0_personOf yX0_personOf, Cond.initialized RX0, Cond.code yX0_personOf cX0_personOf 2 (some .int), Cond.fieldLink RX0 9 "SurveyHouse$Interviews" "people" "[I", Cond.methodLink RX6 260 yX0_cellOf, Cond.instanceMethod yX0_cellOf, Cond.selects RX0 yX0_cellOf yX0_cellOf, Cond.code yX0_cellOf cX0_cellOf 2 (some .int), Cond.fieldLink RX0 15 "SurveyHouse$Interviews" "cells" "[I", Cond.methodLink RX6 148 yX3_isOpen, Cond.instanceMethod yX3_isOpen, Cond.selects RX3 yX3_isOpen yX3_isOpen, Cond.initialized RX3, Cond.code yX3_isOpen cX3_isOpen 2 (some .boolean), Cond.methodLink RX3 26 yX3_isOpenWith, Cond.instanceMethod yX3_isOpenWith, Cond.selects RX3 yX3_isOpenWith yX3_isOpenWith, Cond.code yX3_isOpenWith cX3_isOpenWith 5 (some .boolean), Cond.fieldLink RX3 15 "SurveyHouse$Quotas" "filled" "[I"]
def wsX6_finish_r2 : List Cond := [Cond.fieldLink RX3 9 "SurveyHouse$Quotas" "targets" "[I", Cond.fieldLink RX3 18 "SurveyHouse$Quotas" "edge" "I", Cond.methodLink RX3 22 yX3_sumOf, Cond.static yX3_sumOf, Cond.code yX3_sumOf cX3_sumOf 6 (some .int), Cond.methodLink RX6 257 yX0_setState, Cond.instanceMethod yX0_setState, Cond.selects RX0 yX0_setState yX0_setState, Cond.code yX0_setState cX0_setState 3 none, Cond.fieldLink RX0 18 "SurveyHouse$Interviews" "states" "[I", Cond.methodLink RX6 261 yX3_fill, Cond.instanceMethod yX3_fill, Cond.selects RX3 yX3_fill yX3_fill, Cond.code yX3_fill cX3_fill 3 none, Cond.methodLink RX6 264 yX1_addPoints, Cond.instanceMethod yX1_addPoints, Cond.selects RX1 yX1_addPoints yX1_addPoints, Cond.initialized RX1, Cond.code yX1_addPoints cX1_addPoints 3 none, Cond.fieldLink RX1 18 "SurveyHouse$Panel" "points" "[I", Cond.methodLink RX6 134 yX6_reweigh, Cond.instanceMethod yX6_reweigh, Cond.selects RX6 yX6_reweigh yX6_reweigh, Cond.initialized RX6]
def wsX6_finish_r3 : List Cond := [Cond.code yX6_reweigh cX6_reweigh 1 none, Cond.fieldLink RX6 40 "SurveyHouse" "weights" "LSurveyHouse$Weights;", Cond.fieldLink RX6 54 "SurveyHouse" "roundsTold" "I", Cond.methodLink RX6 343 yX5_weigh, Cond.instanceMethod yX5_weigh, Cond.selects RX5 yX5_weigh yX5_weigh, Cond.initialized RX5, Cond.code yX5_weigh cX5_weigh 6 none, Cond.fieldLink RX5 9 "SurveyHouse$Weights" "weights" "[I", Cond.methodLink RX5 15 yX0_size, Cond.instanceMethod yX0_size, Cond.selects RX0 yX0_size yX0_size, Cond.code yX0_size cX0_size 1 (some .int), Cond.fieldLink RX0 39 "SurveyHouse$Interviews" "size" "I", Cond.methodLink RX5 21 yX0_isComplete, Cond.instanceMethod yX0_isComplete, Cond.selects RX0 yX0_isComplete yX0_isComplete, Cond.code yX0_isComplete cX0_isComplete 2 (some .boolean), Cond.methodLink RX5 25 yX3_marginOf, Cond.instanceMethod yX3_marginOf, Cond.selects RX3 yX3_marginOf yX3_marginOf, Cond.code yX3_marginOf cX3_marginOf 4 (some .int), Cond.static yX6_isIn, Cond.code yX6_isIn cX6_isIn 2 (some .boolean)]
def wsX6_finish_r4 : List Cond := [Cond.methodLink RX6 165 yX6_aOf, Cond.static yX6_aOf, Cond.code yX6_aOf cX6_aOf 1 (some .int), Cond.methodLink RX6 168 yX6_bOf, Cond.static yX6_bOf, Cond.code yX6_bOf cX6_bOf 1 (some .int), Cond.methodLink RX5 31 yX5_scale, Cond.instanceMethod yX5_scale, Cond.selects RX5 yX5_scale yX5_scale, Cond.code yX5_scale cX5_scale 6 none, Cond.methodLink RX5 35 yX5_sumOf, Cond.instanceMethod yX5_sumOf, Cond.selects RX5 yX5_sumOf yX5_sumOf, Cond.code yX5_sumOf cX5_sumOf 5 (some .int), Cond.methodLink RX5 39 yX0_cellOf]
def wsX6_finish : List Cond := .code yX6_finish cX6_finish 4 none :: ((wsX6_finish_r1 ++ (wsX6_finish_r2 ++ (wsX6_finish_r3 ++ wsX6_finish_r4))) ++ wsX60 ++ wsX00 ++ wsX30 ++ wsX10 ++ wsX50)
def wsX6_answer_r1 : List Cond := [Cond.classLink RX6 69 "java/lang/IllegalStateException", Cond.initialized "java/lang/IllegalStateException", Cond.classLink RX6 58 "java/lang/IllegalArgumentException", Cond.initialized "java/lang/IllegalArgumentException", Cond.fieldLink RX6 33 "SurveyHouse" "interviews" "LSurveyHouse$Interviews;", Cond.fieldLink RX6 12 "SurveyHouse" "form" "LSurveyHouse$Questionnaire;", Cond.methodLink RX6 210 yX6_needInterview, Cond.instanceMethod yX6_needInterview, Cond.selects RX6 yX6_needInterview yX6_needInterview, Cond.initialized RX6, Cond.code yX6_needInterview cX6_needInterview 2 none, Cond.classLink RX6 322 "java/lang/IndexOutOfBoundsException", Cond.initialized "java/lang/IndexOutOfBoundsException", Cond.methodLink RX6 196 yX0_size, Cond.instanceMethod yX0_size, Cond.selects RX0 yX0_size yX0_size, Cond.initialized RX0, Cond.code yX0_size cX0_size 1 (some .int), Cond.fieldLink RX0 39 "SurveyHouse$Interviews" "size" "I", Cond.methodLink RX6 213 yX0_stateOf, Cond.instanceMethod yX0_stateOf, Cond.selects RX0 yX0_stateOf yX0_stateOf, Cond.code yX0_stateOf cX0_stateOf 2 (some .int), Cond.fieldLink RX0 18 "SurveyHouse$Interviews" "states" "[I"]
def wsX6_answer_r2 : List Cond := [Cond.methodLink RX6 218 yX0_placeOf, Cond.instanceMethod yX0_placeOf, Cond.selects RX0 yX0_placeOf yX0_placeOf, Cond.code yX0_placeOf cX0_placeOf 2 (some .int), Cond.fieldLink RX0 21 "SurveyHouse$Interviews" "places" "[I", Cond.methodLink RX6 221 yX2_offers, Cond.instanceMethod yX2_offers, Cond.selects RX2 yX2_offers yX2_offers, Cond.initialized RX2, Cond.code yX2_offers cX2_offers 3 (some .boolean), Cond.fieldLink RX2 9 "SurveyHouse$Questionnaire" "answers" "[I", Cond.methodLink RX2 31 yX2_has, Cond.instanceMethod yX2_has, Cond.selects RX2 yX2_has yX2_has, Cond.code yX2_has cX2_has 2 (some .boolean), Cond.fieldLink RX2 27 "SurveyHouse$Questionnaire" "size" "I", Cond.methodLink RX6 228 yX0_note, Cond.instanceMethod yX0_note, Cond.selects RX0 yX0_note yX0_note, Cond.code yX0_note cX0_note 5 none, Cond.fieldLink RX0 30 "SurveyHouse$Interviews" "answers" "[I", Cond.fieldLink RX0 27 "SurveyHouse$Interviews" "seconds" "[I", Cond.fieldLink RX0 24 "SurveyHouse$Interviews" "counts" "[I", Cond.methodLink RX6 232 yX0_countOf]
def wsX6_answer_r3 : List Cond := [Cond.instanceMethod yX0_countOf, Cond.selects RX0 yX0_countOf yX0_countOf, Cond.code yX0_countOf cX0_countOf 2 (some .int), Cond.methodLink RX6 233 yX2_nextOf, Cond.instanceMethod yX2_nextOf, Cond.selects RX2 yX2_nextOf yX2_nextOf, Cond.code yX2_nextOf cX2_nextOf 5 (some .int), Cond.fieldLink RX2 35 "SurveyHouse$Questionnaire" "rotated" "I", Cond.methodLink RX2 38 yX2_orEnd, Cond.instanceMethod yX2_orEnd, Cond.selects RX2 yX2_orEnd yX2_orEnd, Cond.code yX2_orEnd cX2_orEnd 2 (some .int), Cond.methodLink RX2 42 yX2_wayFrom, Cond.instanceMethod yX2_wayFrom, Cond.selects RX2 yX2_wayFrom yX2_wayFrom, Cond.code yX2_wayFrom cX2_wayFrom 4 (some .int), Cond.fieldLink RX2 15 "SurveyHouse$Questionnaire" "ways" "[I", Cond.methodLink RX6 204 yX0_moveTo, Cond.instanceMethod yX0_moveTo, Cond.selects RX0 yX0_moveTo yX0_moveTo, Cond.code yX0_moveTo cX0_moveTo 3 none, Cond.methodLink RX6 237 yX6_finish, Cond.instanceMethod yX6_finish, Cond.selects RX6 yX6_finish yX6_finish]
def wsX6_answer_r4 : List Cond := [Cond.code yX6_finish cX6_finish 4 none, Cond.fieldLink RX6 19 "SurveyHouse" "quotas" "LSurveyHouse$Quotas;", Cond.fieldLink RX6 26 "SurveyHouse" "panel" "LSurveyHouse$Panel;", Cond.methodLink RX6 240 yX0_personOf, Cond.instanceMethod yX0_personOf, Cond.selects RX0 yX0_personOf yX0_personOf, Cond.code yX0_personOf cX0_personOf 2 (some .int), Cond.fieldLink RX0 9 "SurveyHouse$Interviews" "people" "[I", Cond.methodLink RX6 260 yX0_cellOf, Cond.instanceMethod yX0_cellOf, Cond.selects RX0 yX0_cellOf yX0_cellOf, Cond.code yX0_cellOf cX0_cellOf 2 (some .int), Cond.fieldLink RX0 15 "SurveyHouse$Interviews" "cells" "[I", Cond.methodLink RX6 148 yX3_isOpen, Cond.instanceMethod yX3_isOpen, Cond.selects RX3 yX3_isOpen yX3_isOpen, Cond.initialized RX3, Cond.code yX3_isOpen cX3_isOpen 2 (some .boolean), Cond.methodLink RX3 26 yX3_isOpenWith, Cond.instanceMethod yX3_isOpenWith, Cond.selects RX3 yX3_isOpenWith yX3_isOpenWith, Cond.code yX3_isOpenWith cX3_isOpenWith 5 (some .boolean), Cond.fieldLink RX3 15 "SurveyHouse$Quotas" "filled" "[I", Cond.fieldLink RX3 9 "SurveyHouse$Quotas" "targets" "[I"]
def wsX6_answer_r5 : List Cond := [Cond.fieldLink RX3 18 "SurveyHouse$Quotas" "edge" "I", Cond.methodLink RX3 22 yX3_sumOf, Cond.static yX3_sumOf, Cond.code yX3_sumOf cX3_sumOf 6 (some .int), Cond.methodLink RX6 257 yX0_setState, Cond.instanceMethod yX0_setState, Cond.selects RX0 yX0_setState yX0_setState, Cond.code yX0_setState cX0_setState 3 none, Cond.methodLink RX6 261 yX3_fill, Cond.instanceMethod yX3_fill, Cond.selects RX3 yX3_fill yX3_fill, Cond.code yX3_fill cX3_fill 3 none, Cond.methodLink RX6 264 yX1_addPoints, Cond.instanceMethod yX1_addPoints, Cond.selects RX1 yX1_addPoints yX1_addPoints, Cond.initialized RX1, Cond.code yX1_addPoints cX1_addPoints 3 none, Cond.fieldLink RX1 18 "SurveyHouse$Panel" "points" "[I", Cond.methodLink RX6 134 yX6_reweigh, Cond.instanceMethod yX6_reweigh, Cond.selects RX6 yX6_reweigh yX6_reweigh, Cond.code yX6_reweigh cX6_reweigh 1 none, Cond.fieldLink RX6 40 "SurveyHouse" "weights" "LSurveyHouse$Weights;", Cond.fieldLink RX6 54 "SurveyHouse" "roundsTold" "I"]
def wsX6_answer_r6 : List Cond := [Cond.methodLink RX6 343 yX5_weigh, Cond.instanceMethod yX5_weigh, Cond.selects RX5 yX5_weigh yX5_weigh, Cond.initialized RX5, Cond.code yX5_weigh cX5_weigh 6 none, Cond.fieldLink RX5 9 "SurveyHouse$Weights" "weights" "[I", Cond.methodLink RX5 15 yX0_size, Cond.methodLink RX5 21 yX0_isComplete, Cond.instanceMethod yX0_isComplete, Cond.selects RX0 yX0_isComplete yX0_isComplete, Cond.code yX0_isComplete cX0_isComplete 2 (some .boolean), Cond.methodLink RX5 25 yX3_marginOf, Cond.instanceMethod yX3_marginOf, Cond.selects RX3 yX3_marginOf yX3_marginOf, Cond.code yX3_marginOf cX3_marginOf 4 (some .int), Cond.static yX6_isIn, Cond.code yX6_isIn cX6_isIn 2 (some .boolean), Cond.methodLink RX6 165 yX6_aOf, Cond.static yX6_aOf, Cond.code yX6_aOf cX6_aOf 1 (some .int), Cond.methodLink RX6 168 yX6_bOf, Cond.static yX6_bOf, Cond.code yX6_bOf cX6_bOf 1 (some .int), Cond.methodLink RX5 31 yX5_scale]
def wsX6_answer_r7 : List Cond := [Cond.instanceMethod yX5_scale, Cond.selects RX5 yX5_scale yX5_scale, Cond.code yX5_scale cX5_scale 6 none, Cond.methodLink RX5 35 yX5_sumOf, Cond.instanceMethod yX5_sumOf, Cond.selects RX5 yX5_sumOf yX5_sumOf, Cond.code yX5_sumOf cX5_sumOf 5 (some .int), Cond.methodLink RX5 39 yX0_cellOf]
def wsX6_answer : List Cond := .code yX6_answer cX6_answer 6 (some .int) :: ((wsX6_answer_r1 ++ (wsX6_answer_r2 ++ (wsX6_answer_r3 ++ (wsX6_answer_r4 ++ (wsX6_answer_r5 ++ (wsX6_answer_r6 ++ wsX6_answer_r7)))))) ++ wsX60 ++ wsX00 ++ wsX20 ++ wsX30 ++ wsX10 ++ wsX50 ++ (vx_atS RX6 73 "java/lang/IllegalStateException" ["java/lang/RuntimeException", "java/lang/Exception"]).filter goodWord ++ (vx_atS RX6 62 "java/lang/IllegalArgumentException" ["java/lang/RuntimeException", "java/lang/Exception"]).filter goodWord ++ (vx_atS RX6 326 "java/lang/IndexOutOfBoundsException" ["java/lang/RuntimeException", "java/lang/Exception"]).filter goodWord)
def wsX6_ofInterview_r1 : List Cond := [Cond.classLink RX6 58 "java/lang/IllegalArgumentException", Cond.initialized "java/lang/IllegalArgumentException", Cond.fieldLink RX6 33 "SurveyHouse" "interviews" "LSurveyHouse$Interviews;", Cond.fieldLink RX6 40 "SurveyHouse" "weights" "LSurveyHouse$Weights;", Cond.methodLink RX6 210 yX6_needInterview, Cond.instanceMethod yX6_needInterview, Cond.selects RX6 yX6_needInterview yX6_needInterview, Cond.initialized RX6, Cond.code yX6_needInterview cX6_needInterview 2 none, Cond.classLink RX6 322 "java/lang/IndexOutOfBoundsException", Cond.initialized "java/lang/IndexOutOfBoundsException", Cond.methodLink RX6 196 yX0_size, Cond.instanceMethod yX0_size, Cond.selects RX0 yX0_size yX0_size, Cond.initialized RX0, Cond.code yX0_size cX0_size 1 (some .int), Cond.fieldLink RX0 39 "SurveyHouse$Interviews" "size" "I", Cond.methodLink RX6 240 yX0_personOf, Cond.instanceMethod yX0_personOf, Cond.selects RX0 yX0_personOf yX0_personOf, Cond.code yX0_personOf cX0_personOf 2 (some .int), Cond.fieldLink RX0 9 "SurveyHouse$Interviews" "people" "[I", Cond.methodLink RX6 213 yX0_stateOf, Cond.instanceMethod yX0_stateOf]
def wsX6_ofInterview_r2 : List Cond := [Cond.selects RX0 yX0_stateOf yX0_stateOf, Cond.code yX0_stateOf cX0_stateOf 2 (some .int), Cond.fieldLink RX0 18 "SurveyHouse$Interviews" "states" "[I", Cond.methodLink RX6 218 yX0_placeOf, Cond.instanceMethod yX0_placeOf, Cond.selects RX0 yX0_placeOf yX0_placeOf, Cond.code yX0_placeOf cX0_placeOf 2 (some .int), Cond.fieldLink RX0 21 "SurveyHouse$Interviews" "places" "[I", Cond.methodLink RX6 232 yX0_countOf, Cond.instanceMethod yX0_countOf, Cond.selects RX0 yX0_countOf yX0_countOf, Cond.code yX0_countOf cX0_countOf 2 (some .int), Cond.fieldLink RX0 24 "SurveyHouse$Interviews" "counts" "[I", Cond.methodLink RX6 243 yX0_secondsOf, Cond.instanceMethod yX0_secondsOf, Cond.selects RX0 yX0_secondsOf yX0_secondsOf, Cond.code yX0_secondsOf cX0_secondsOf 2 (some .int), Cond.fieldLink RX0 27 "SurveyHouse$Interviews" "seconds" "[I", Cond.methodLink RX6 246 yX5_of, Cond.instanceMethod yX5_of, Cond.selects RX5 yX5_of yX5_of, Cond.initialized RX5, Cond.code yX5_of cX5_of 2 (some .int), Cond.fieldLink RX5 9 "SurveyHouse$Weights" "weights" "[I"]
def wsX6_ofInterview_r3 : List Cond := [Cond.methodLink RX6 249 yX0_isToClean, Cond.instanceMethod yX0_isToClean, Cond.selects RX0 yX0_isToClean yX0_isToClean, Cond.code yX0_isToClean cX0_isToClean 2 (some .boolean), Cond.methodLink RX0 43 yX0_isComplete, Cond.instanceMethod yX0_isComplete, Cond.selects RX0 yX0_isComplete yX0_isComplete, Cond.code yX0_isComplete cX0_isComplete 2 (some .boolean), Cond.methodLink RX0 47 yX0_isTooFast, Cond.instanceMethod yX0_isTooFast, Cond.selects RX0 yX0_isTooFast yX0_isTooFast, Cond.code yX0_isTooFast cX0_isTooFast 2 (some .boolean), Cond.methodLink RX0 50 yX0_isStraightLine, Cond.instanceMethod yX0_isStraightLine, Cond.selects RX0 yX0_isStraightLine yX0_isStraightLine, Cond.code yX0_isStraightLine cX0_isStraightLine 5 (some .boolean), Cond.methodLink RX0 56 yX0_answerTo, Cond.instanceMethod yX0_answerTo, Cond.selects RX0 yX0_answerTo yX0_answerTo, Cond.code yX0_answerTo cX0_answerTo 3 (some .int), Cond.fieldLink RX0 30 "SurveyHouse$Interviews" "answers" "[I"]
def wsX6_ofInterview : List Cond := .code yX6_ofInterview cX6_ofInterview 3 (some .int) :: ((wsX6_ofInterview_r1 ++ (wsX6_ofInterview_r2 ++ wsX6_ofInterview_r3)) ++ wsX60 ++ wsX00 ++ wsX50 ++ (vx_atS RX6 62 "java/lang/IllegalArgumentException" ["java/lang/RuntimeException", "java/lang/Exception"]).filter goodWord ++ (vx_atS RX6 326 "java/lang/IndexOutOfBoundsException" ["java/lang/RuntimeException", "java/lang/Exception"]).filter goodWord)
def wsX6_given_r1 : List Cond := [Cond.fieldLink RX6 33 "SurveyHouse" "interviews" "LSurveyHouse$Interviews;", Cond.methodLink RX6 210 yX6_needInterview, Cond.instanceMethod yX6_needInterview, Cond.selects RX6 yX6_needInterview yX6_needInterview, Cond.initialized RX6, Cond.code yX6_needInterview cX6_needInterview 2 none, Cond.classLink RX6 322 "java/lang/IndexOutOfBoundsException", Cond.initialized "java/lang/IndexOutOfBoundsException", Cond.methodLink RX6 196 yX0_size, Cond.instanceMethod yX0_size, Cond.selects RX0 yX0_size yX0_size, Cond.initialized RX0, Cond.code yX0_size cX0_size 1 (some .int), Cond.fieldLink RX0 39 "SurveyHouse$Interviews" "size" "I", Cond.methodLink RX6 85 yX6_needQuestion, Cond.instanceMethod yX6_needQuestion, Cond.selects RX6 yX6_needQuestion yX6_needQuestion, Cond.code yX6_needQuestion cX6_needQuestion 2 none, Cond.fieldLink RX6 12 "SurveyHouse" "form" "LSurveyHouse$Questionnaire;", Cond.methodLink RX6 402 yX2_has, Cond.instanceMethod yX2_has, Cond.selects RX2 yX2_has yX2_has, Cond.initialized RX2, Cond.code yX2_has cX2_has 2 (some .boolean)]
def wsX6_given_r2 : List Cond := [Cond.fieldLink RX2 27 "SurveyHouse$Questionnaire" "size" "I", Cond.methodLink RX6 254 yX0_answerTo, Cond.instanceMethod yX0_answerTo, Cond.selects RX0 yX0_answerTo yX0_answerTo, Cond.code yX0_answerTo cX0_answerTo 3 (some .int), Cond.fieldLink RX0 30 "SurveyHouse$Interviews" "answers" "[I"]
def wsX6_given : List Cond := .code yX6_given cX6_given 3 (some .int) :: ((wsX6_given_r1 ++ wsX6_given_r2) ++ wsX60 ++ wsX00 ++ wsX20 ++ (vx_atS RX6 326 "java/lang/IndexOutOfBoundsException" ["java/lang/RuntimeException", "java/lang/Exception"]).filter goodWord)
def wsX6_clean_r1 : List Cond := [Cond.fieldLink RX6 33 "SurveyHouse" "interviews" "LSurveyHouse$Interviews;", Cond.fieldLink RX6 19 "SurveyHouse" "quotas" "LSurveyHouse$Quotas;", Cond.fieldLink RX6 26 "SurveyHouse" "panel" "LSurveyHouse$Panel;", Cond.methodLink RX6 196 yX0_size, Cond.instanceMethod yX0_size, Cond.selects RX0 yX0_size yX0_size, Cond.initialized RX0, Cond.code yX0_size cX0_size 1 (some .int), Cond.fieldLink RX0 39 "SurveyHouse$Interviews" "size" "I", Cond.methodLink RX6 249 yX0_isToClean, Cond.instanceMethod yX0_isToClean, Cond.selects RX0 yX0_isToClean yX0_isToClean, Cond.code yX0_isToClean cX0_isToClean 2 (some .boolean), Cond.methodLink RX0 43 yX0_isComplete, Cond.instanceMethod yX0_isComplete, Cond.selects RX0 yX0_isComplete yX0_isComplete, Cond.code yX0_isComplete cX0_isComplete 2 (some .boolean), Cond.fieldLink RX0 18 "SurveyHouse$Interviews" "states" "[I", Cond.methodLink RX0 47 yX0_isTooFast, Cond.instanceMethod yX0_isTooFast, Cond.selects RX0 yX0_isTooFast yX0_isTooFast, Cond.code yX0_isTooFast cX0_isTooFast 2 (some .boolean), Cond.fieldLink RX0 27 "SurveyHouse$Interviews" "seconds" "[I", Cond.fieldLink RX0 24 "SurveyHouse$Interviews" "counts" "[I"]
def wsX6_clean_r2 : List Cond := [Cond.methodLink RX0 50 yX0_isStraightLine, Cond.instanceMethod yX0_isStraightLine, Cond.selects RX0 yX0_isStraightLine yX0_isStraightLine, Cond.code yX0_isStraightLine cX0_isStraightLine 5 (some .boolean), Cond.methodLink RX0 56 yX0_answerTo, Cond.instanceMethod yX0_answerTo, Cond.selects RX0 yX0_answerTo yX0_answerTo, Cond.code yX0_answerTo cX0_answerTo 3 (some .int), Cond.fieldLink RX0 30 "SurveyHouse$Interviews" "answers" "[I", Cond.methodLink RX6 257 yX0_setState, Cond.instanceMethod yX0_setState, Cond.selects RX0 yX0_setState yX0_setState, Cond.code yX0_setState cX0_setState 3 none, Cond.methodLink RX6 260 yX0_cellOf, Cond.instanceMethod yX0_cellOf, Cond.selects RX0 yX0_cellOf yX0_cellOf, Cond.code yX0_cellOf cX0_cellOf 2 (some .int), Cond.fieldLink RX0 15 "SurveyHouse$Interviews" "cells" "[I", Cond.methodLink RX6 261 yX3_fill, Cond.instanceMethod yX3_fill, Cond.selects RX3 yX3_fill yX3_fill, Cond.initialized RX3, Cond.code yX3_fill cX3_fill 3 none, Cond.fieldLink RX3 15 "SurveyHouse$Quotas" "filled" "[I"]
def wsX6_clean_r3 : List Cond := [Cond.methodLink RX6 240 yX0_personOf, Cond.instanceMethod yX0_personOf, Cond.selects RX0 yX0_personOf yX0_personOf, Cond.code yX0_personOf cX0_personOf 2 (some .int), Cond.fieldLink RX0 9 "SurveyHouse$Interviews" "people" "[I", Cond.methodLink RX6 264 yX1_addPoints, Cond.instanceMethod yX1_addPoints, Cond.selects RX1 yX1_addPoints yX1_addPoints, Cond.initialized RX1, Cond.code yX1_addPoints cX1_addPoints 3 none, Cond.fieldLink RX1 18 "SurveyHouse$Panel" "points" "[I", Cond.methodLink RX6 134 yX6_reweigh, Cond.instanceMethod yX6_reweigh, Cond.selects RX6 yX6_reweigh yX6_reweigh, Cond.initialized RX6, Cond.code yX6_reweigh cX6_reweigh 1 none, Cond.fieldLink RX6 40 "SurveyHouse" "weights" "LSurveyHouse$Weights;", Cond.fieldLink RX6 54 "SurveyHouse" "roundsTold" "I", Cond.methodLink RX6 343 yX5_weigh, Cond.instanceMethod yX5_weigh, Cond.selects RX5 yX5_weigh yX5_weigh, Cond.initialized RX5, Cond.code yX5_weigh cX5_weigh 6 none, Cond.fieldLink RX5 9 "SurveyHouse$Weights" "weights" "[I"]
def wsX6_clean_r4 : List Cond := [Cond.methodLink RX5 15 yX0_size, Cond.methodLink RX5 21 yX0_isComplete, Cond.methodLink RX5 25 yX3_marginOf, Cond.instanceMethod yX3_marginOf, Cond.selects RX3 yX3_marginOf yX3_marginOf, Cond.code yX3_marginOf cX3_marginOf 4 (some .int), Cond.fieldLink RX3 9 "SurveyHouse$Quotas" "targets" "[I", Cond.static yX6_isIn, Cond.code yX6_isIn cX6_isIn 2 (some .boolean), Cond.methodLink RX6 165 yX6_aOf, Cond.static yX6_aOf, Cond.code yX6_aOf cX6_aOf 1 (some .int), Cond.methodLink RX6 168 yX6_bOf, Cond.static yX6_bOf, Cond.code yX6_bOf cX6_bOf 1 (some .int), Cond.methodLink RX5 31 yX5_scale, Cond.instanceMethod yX5_scale, Cond.selects RX5 yX5_scale yX5_scale, Cond.code yX5_scale cX5_scale 6 none, Cond.methodLink RX5 35 yX5_sumOf, Cond.instanceMethod yX5_sumOf, Cond.selects RX5 yX5_sumOf yX5_sumOf, Cond.code yX5_sumOf cX5_sumOf 5 (some .int), Cond.methodLink RX5 39 yX0_cellOf]
def wsX6_clean : List Cond := .code yX6_clean cX6_clean 3 (some .int) :: ((wsX6_clean_r1 ++ (wsX6_clean_r2 ++ (wsX6_clean_r3 ++ wsX6_clean_r4))) ++ wsX60 ++ wsX00 ++ wsX30 ++ wsX10 ++ wsX50)
def wsX6_countAllToAsk_r1 : List Cond := [Cond.methodLink RX6 154 yX6_countToAsk, Cond.instanceMethod yX6_countToAsk, Cond.selects RX6 yX6_countToAsk yX6_countToAsk, Cond.initialized RX6, Cond.code yX6_countToAsk cX6_countToAsk 4 (some .int), Cond.fieldLink RX6 26 "SurveyHouse" "panel" "LSurveyHouse$Panel;", Cond.methodLink RX6 116 yX1_size, Cond.instanceMethod yX1_size, Cond.selects RX1 yX1_size yX1_size, Cond.initialized RX1, Cond.code yX1_size cX1_size 1 (some .int), Cond.fieldLink RX1 24 "SurveyHouse$Panel" "size" "I", Cond.methodLink RX6 162 yX1_cellOf, Cond.instanceMethod yX1_cellOf, Cond.selects RX1 yX1_cellOf yX1_cellOf, Cond.code yX1_cellOf cX1_cellOf 2 (some .int), Cond.fieldLink RX1 9 "SurveyHouse$Panel" "cells" "[I", Cond.methodLink RX6 177 yX6_canBeAsked, Cond.instanceMethod yX6_canBeAsked, Cond.selects RX6 yX6_canBeAsked yX6_canBeAsked, Cond.code yX6_canBeAsked cX6_canBeAsked 3 (some .boolean), Cond.fieldLink RX6 33 "SurveyHouse" "interviews" "LSurveyHouse$Interviews;", Cond.fieldLink RX6 19 "SurveyHouse" "quotas" "LSurveyHouse$Quotas;", Cond.methodLink RX6 181 yX1_latestOf]
def wsX6_countAllToAsk_r2 : List Cond := [Cond.instanceMethod yX1_latestOf, Cond.selects RX1 yX1_latestOf yX1_latestOf, Cond.code yX1_latestOf cX1_latestOf 2 (some .int), Cond.fieldLink RX1 21 "SurveyHouse$Panel" "latest" "[I", Cond.methodLink RX6 417 yX0_isTaken, Cond.instanceMethod yX0_isTaken, Cond.selects RX0 yX0_isTaken yX0_isTaken, Cond.initialized RX0, Cond.code yX0_isTaken cX0_isTaken 2 (some .boolean), Cond.fieldLink RX0 39 "SurveyHouse$Interviews" "size" "I", Cond.fieldLink RX0 18 "SurveyHouse$Interviews" "states" "[I", Cond.methodLink RX6 171 yX1_fatigueIn, Cond.instanceMethod yX1_fatigueIn, Cond.selects RX1 yX1_fatigueIn yX1_fatigueIn, Cond.code yX1_fatigueIn cX1_fatigueIn 3 (some .int), Cond.fieldLink RX1 15 "SurveyHouse$Panel" "fatigue" "[I", Cond.methodLink RX1 31 Lib.Math.max.name, Cond.static Lib.Math.max.name, Cond.initialized "java/lang/Math", Cond.code Lib.Math.max.name Lib.Math.max.code 2 (some .int), Cond.methodLink RX6 148 yX3_isOpen, Cond.instanceMethod yX3_isOpen, Cond.selects RX3 yX3_isOpen yX3_isOpen, Cond.initialized RX3]
def wsX6_countAllToAsk_r3 : List Cond := [Cond.code yX3_isOpen cX3_isOpen 2 (some .boolean), Cond.methodLink RX3 26 yX3_isOpenWith, Cond.instanceMethod yX3_isOpenWith, Cond.selects RX3 yX3_isOpenWith yX3_isOpenWith, Cond.code yX3_isOpenWith cX3_isOpenWith 5 (some .boolean), Cond.fieldLink RX3 15 "SurveyHouse$Quotas" "filled" "[I", Cond.fieldLink RX3 9 "SurveyHouse$Quotas" "targets" "[I", Cond.fieldLink RX3 18 "SurveyHouse$Quotas" "edge" "I", Cond.methodLink RX3 22 yX3_sumOf, Cond.static yX3_sumOf, Cond.code yX3_sumOf cX3_sumOf 6 (some .int)]
def wsX6_countAllToAsk : List Cond := .code yX6_countAllToAsk cX6_countAllToAsk 3 (some .int) :: ((wsX6_countAllToAsk_r1 ++ (wsX6_countAllToAsk_r2 ++ wsX6_countAllToAsk_r3)) ++ wsX60 ++ wsX10 ++ wsX00 ++ wsX30)
def wsX6_many_r1 : List Cond := [Cond.classLink RX6 58 "java/lang/IllegalArgumentException", Cond.initialized "java/lang/IllegalArgumentException", Cond.fieldLink RX6 12 "SurveyHouse" "form" "LSurveyHouse$Questionnaire;", Cond.fieldLink RX6 26 "SurveyHouse" "panel" "LSurveyHouse$Panel;", Cond.fieldLink RX6 33 "SurveyHouse" "interviews" "LSurveyHouse$Interviews;", Cond.fieldLink RX6 19 "SurveyHouse" "quotas" "LSurveyHouse$Quotas;", Cond.fieldLink RX6 50 "SurveyHouse" "reports" "LSurveyHouse$Reports;", Cond.methodLink RX6 65 yX2_size, Cond.instanceMethod yX2_size, Cond.selects RX2 yX2_size yX2_size, Cond.initialized RX2, Cond.code yX2_size cX2_size 1 (some .int), Cond.fieldLink RX2 27 "SurveyHouse$Questionnaire" "size" "I", Cond.methodLink RX6 116 yX1_size, Cond.instanceMethod yX1_size, Cond.selects RX1 yX1_size yX1_size, Cond.initialized RX1, Cond.code yX1_size cX1_size 1 (some .int), Cond.fieldLink RX1 24 "SurveyHouse$Panel" "size" "I", Cond.methodLink RX6 267 yX0_countIn, Cond.instanceMethod yX0_countIn, Cond.selects RX0 yX0_countIn yX0_countIn, Cond.initialized RX0, Cond.code yX0_countIn cX0_countIn 4 (some .int)]
def wsX6_many_r2 : List Cond := [Cond.fieldLink RX0 39 "SurveyHouse$Interviews" "size" "I", Cond.fieldLink RX0 18 "SurveyHouse$Interviews" "states" "[I", Cond.methodLink RX6 270 yX3_allTargets, Cond.instanceMethod yX3_allTargets, Cond.selects RX3 yX3_allTargets yX3_allTargets, Cond.initialized RX3, Cond.code yX3_allTargets cX3_allTargets 1 (some .int), Cond.fieldLink RX3 9 "SurveyHouse$Quotas" "targets" "[I", Cond.methodLink RX3 22 yX3_sumOf, Cond.static yX3_sumOf, Cond.code yX3_sumOf cX3_sumOf 6 (some .int), Cond.methodLink RX6 273 yX3_countOpen, Cond.instanceMethod yX3_countOpen, Cond.selects RX3 yX3_countOpen yX3_countOpen, Cond.code yX3_countOpen cX3_countOpen 3 (some .int), Cond.methodLink RX3 30 yX3_isOpen, Cond.instanceMethod yX3_isOpen, Cond.selects RX3 yX3_isOpen yX3_isOpen, Cond.code yX3_isOpen cX3_isOpen 2 (some .boolean), Cond.methodLink RX3 26 yX3_isOpenWith, Cond.instanceMethod yX3_isOpenWith, Cond.selects RX3 yX3_isOpenWith yX3_isOpenWith, Cond.code yX3_isOpenWith cX3_isOpenWith 5 (some .boolean), Cond.fieldLink RX3 15 "SurveyHouse$Quotas" "filled" "[I"]
def wsX6_many_r3 : List Cond := [Cond.fieldLink RX3 18 "SurveyHouse$Quotas" "edge" "I", Cond.methodLink RX6 276 yX6_countAllToAsk, Cond.instanceMethod yX6_countAllToAsk, Cond.selects RX6 yX6_countAllToAsk yX6_countAllToAsk, Cond.initialized RX6, Cond.code yX6_countAllToAsk cX6_countAllToAsk 3 (some .int), Cond.methodLink RX6 154 yX6_countToAsk, Cond.instanceMethod yX6_countToAsk, Cond.selects RX6 yX6_countToAsk yX6_countToAsk, Cond.code yX6_countToAsk cX6_countToAsk 4 (some .int), Cond.methodLink RX6 162 yX1_cellOf, Cond.instanceMethod yX1_cellOf, Cond.selects RX1 yX1_cellOf yX1_cellOf, Cond.code yX1_cellOf cX1_cellOf 2 (some .int), Cond.fieldLink RX1 9 "SurveyHouse$Panel" "cells" "[I", Cond.methodLink RX6 177 yX6_canBeAsked, Cond.instanceMethod yX6_canBeAsked, Cond.selects RX6 yX6_canBeAsked yX6_canBeAsked, Cond.code yX6_canBeAsked cX6_canBeAsked 3 (some .boolean), Cond.methodLink RX6 181 yX1_latestOf, Cond.instanceMethod yX1_latestOf, Cond.selects RX1 yX1_latestOf yX1_latestOf, Cond.code yX1_latestOf cX1_latestOf 2 (some .int), Cond.fieldLink RX1 21 "SurveyHouse$Panel" "latest" "[I"]
def wsX6_many_r4 : List Cond := [Cond.methodLink RX6 417 yX0_isTaken, Cond.instanceMethod yX0_isTaken, Cond.selects RX0 yX0_isTaken yX0_isTaken, Cond.code yX0_isTaken cX0_isTaken 2 (some .boolean), Cond.methodLink RX6 171 yX1_fatigueIn, Cond.instanceMethod yX1_fatigueIn, Cond.selects RX1 yX1_fatigueIn yX1_fatigueIn, Cond.code yX1_fatigueIn cX1_fatigueIn 3 (some .int), Cond.fieldLink RX1 15 "SurveyHouse$Panel" "fatigue" "[I", Cond.methodLink RX1 31 Lib.Math.max.name, Cond.static Lib.Math.max.name, Cond.initialized "java/lang/Math", Cond.code Lib.Math.max.name Lib.Math.max.code 2 (some .int), Cond.methodLink RX6 148 yX3_isOpen, Cond.methodLink RX6 279 yX1_allPoints, Cond.instanceMethod yX1_allPoints, Cond.selects RX1 yX1_allPoints yX1_allPoints, Cond.code yX1_allPoints cX1_allPoints 3 (some .int), Cond.fieldLink RX1 18 "SurveyHouse$Panel" "points" "[I", Cond.methodLink RX6 282 yX4_size, Cond.instanceMethod yX4_size, Cond.selects RX4 yX4_size yX4_size, Cond.initialized RX4, Cond.code yX4_size cX4_size 1 (some .int)]
def wsX6_many_r5 : List Cond := [Cond.fieldLink RX4 21 "SurveyHouse$Reports" "size" "I", Cond.methodLink RX6 283 yX1_today, Cond.instanceMethod yX1_today, Cond.selects RX1 yX1_today yX1_today, Cond.code yX1_today cX1_today 1 (some .int), Cond.fieldLink RX1 28 "SurveyHouse$Panel" "dayNumber" "I"]
def wsX6_many : List Cond := .code yX6_many cX6_many 2 (some .int) :: ((wsX6_many_r1 ++ (wsX6_many_r2 ++ (wsX6_many_r3 ++ (wsX6_many_r4 ++ wsX6_many_r5)))) ++ wsX60 ++ wsX20 ++ wsX10 ++ wsX00 ++ wsX30 ++ wsX40 ++ (vx_atS RX6 62 "java/lang/IllegalArgumentException" ["java/lang/RuntimeException", "java/lang/Exception"]).filter goodWord)
def wsX6_off_r1 : List Cond := [Cond.fieldLink RX6 40 "SurveyHouse" "weights" "LSurveyHouse$Weights;", Cond.fieldLink RX6 33 "SurveyHouse" "interviews" "LSurveyHouse$Interviews;", Cond.fieldLink RX6 19 "SurveyHouse" "quotas" "LSurveyHouse$Quotas;", Cond.methodLink RX6 291 yX5_farthest, Cond.instanceMethod yX5_farthest, Cond.selects RX5 yX5_farthest yX5_farthest, Cond.initialized RX5, Cond.code yX5_farthest cX5_farthest 6 (some .int), Cond.methodLink RX5 46 Lib.Math.abs.name, Cond.static Lib.Math.abs.name, Cond.initialized "java/lang/Math", Cond.code Lib.Math.abs.name Lib.Math.abs.code 1 (some .int), Cond.methodLink RX5 51 Lib.Math.max.name, Cond.static Lib.Math.max.name, Cond.code Lib.Math.max.name Lib.Math.max.code 2 (some .int), Cond.methodLink RX5 35 yX5_sumOf, Cond.instanceMethod yX5_sumOf, Cond.selects RX5 yX5_sumOf yX5_sumOf, Cond.code yX5_sumOf cX5_sumOf 5 (some .int), Cond.fieldLink RX5 9 "SurveyHouse$Weights" "weights" "[I", Cond.methodLink RX5 15 yX0_size, Cond.instanceMethod yX0_size, Cond.selects RX0 yX0_size yX0_size, Cond.initialized RX0]
def wsX6_off_r2 : List Cond := [Cond.code yX0_size cX0_size 1 (some .int), Cond.fieldLink RX0 39 "SurveyHouse$Interviews" "size" "I", Cond.methodLink RX5 39 yX0_cellOf, Cond.instanceMethod yX0_cellOf, Cond.selects RX0 yX0_cellOf yX0_cellOf, Cond.code yX0_cellOf cX0_cellOf 2 (some .int), Cond.fieldLink RX0 15 "SurveyHouse$Interviews" "cells" "[I", Cond.static yX6_isIn, Cond.initialized RX6, Cond.code yX6_isIn cX6_isIn 2 (some .boolean), Cond.methodLink RX6 165 yX6_aOf, Cond.static yX6_aOf, Cond.code yX6_aOf cX6_aOf 1 (some .int), Cond.methodLink RX6 168 yX6_bOf, Cond.static yX6_bOf, Cond.code yX6_bOf cX6_bOf 1 (some .int), Cond.methodLink RX5 25 yX3_marginOf, Cond.instanceMethod yX3_marginOf, Cond.selects RX3 yX3_marginOf yX3_marginOf, Cond.initialized RX3, Cond.code yX3_marginOf cX3_marginOf 4 (some .int), Cond.fieldLink RX3 9 "SurveyHouse$Quotas" "targets" "[I"]
def wsX6_off : List Cond := .code yX6_off cX6_off 1 (some .int) :: ((wsX6_off_r1 ++ wsX6_off_r2) ++ wsX60 ++ wsX50 ++ wsX00 ++ wsX30)
def wsX6_needA : List Cond := .code yX6_needA cX6_needA 1 none :: ([.classLink RX6 322 "java/lang/IndexOutOfBoundsException", .initialized "java/lang/IndexOutOfBoundsException", .methodLink RX6 107 yX6_isA, .static yX6_isA, .initialized RX6, .code yX6_isA cX6_isA 1 (some .boolean)] ++ (vx_atS RX6 326 "java/lang/IndexOutOfBoundsException" ["java/lang/RuntimeException", "java/lang/Exception"]).filter goodWord)
def wsX6_share_r1 : List Cond := [Cond.fieldLink RX6 40 "SurveyHouse" "weights" "LSurveyHouse$Weights;", Cond.fieldLink RX6 33 "SurveyHouse" "interviews" "LSurveyHouse$Interviews;", Cond.methodLink RX6 81 yX6_needAnswer, Cond.instanceMethod yX6_needAnswer, Cond.selects RX6 yX6_needAnswer yX6_needAnswer, Cond.initialized RX6, Cond.code yX6_needAnswer cX6_needAnswer 3 none, Cond.classLink RX6 322 "java/lang/IndexOutOfBoundsException", Cond.initialized "java/lang/IndexOutOfBoundsException", Cond.fieldLink RX6 12 "SurveyHouse" "form" "LSurveyHouse$Questionnaire;", Cond.methodLink RX6 221 yX2_offers, Cond.instanceMethod yX2_offers, Cond.selects RX2 yX2_offers yX2_offers, Cond.initialized RX2, Cond.code yX2_offers cX2_offers 3 (some .boolean), Cond.fieldLink RX2 9 "SurveyHouse$Questionnaire" "answers" "[I", Cond.methodLink RX2 31 yX2_has, Cond.instanceMethod yX2_has, Cond.selects RX2 yX2_has yX2_has, Cond.code yX2_has cX2_has 2 (some .boolean), Cond.fieldLink RX2 27 "SurveyHouse$Questionnaire" "size" "I", Cond.methodLink RX6 295 yX6_needA, Cond.static yX6_needA, Cond.code yX6_needA cX6_needA 1 none]
def wsX6_share_r2 : List Cond := [Cond.methodLink RX6 107 yX6_isA, Cond.static yX6_isA, Cond.code yX6_isA cX6_isA 1 (some .boolean), Cond.methodLink RX6 298 yX5_shareOf, Cond.instanceMethod yX5_shareOf, Cond.selects RX5 yX5_shareOf yX5_shareOf, Cond.initialized RX5, Cond.code yX5_shareOf cX5_shareOf 8 (some .int), Cond.fieldLink RX5 9 "SurveyHouse$Weights" "weights" "[I", Cond.methodLink RX5 15 yX0_size, Cond.instanceMethod yX0_size, Cond.selects RX0 yX0_size yX0_size, Cond.initialized RX0, Cond.code yX0_size cX0_size 1 (some .int), Cond.fieldLink RX0 39 "SurveyHouse$Interviews" "size" "I", Cond.methodLink RX5 55 yX0_isCounted, Cond.instanceMethod yX0_isCounted, Cond.selects RX0 yX0_isCounted yX0_isCounted, Cond.code yX0_isCounted cX0_isCounted 4 (some .boolean), Cond.fieldLink RX0 15 "SurveyHouse$Interviews" "cells" "[I", Cond.methodLink RX0 43 yX0_isComplete, Cond.instanceMethod yX0_isComplete, Cond.selects RX0 yX0_isComplete yX0_isComplete, Cond.code yX0_isComplete cX0_isComplete 2 (some .boolean)]
def wsX6_share_r3 : List Cond := [Cond.fieldLink RX0 18 "SurveyHouse$Interviews" "states" "[I", Cond.methodLink RX0 56 yX0_answerTo, Cond.instanceMethod yX0_answerTo, Cond.selects RX0 yX0_answerTo yX0_answerTo, Cond.code yX0_answerTo cX0_answerTo 3 (some .int), Cond.fieldLink RX0 30 "SurveyHouse$Interviews" "answers" "[I", Cond.static yX6_aOf, Cond.code yX6_aOf cX6_aOf 1 (some .int), Cond.methodLink RX5 59 yX0_answerTo]
def wsX6_share : List Cond := .code yX6_share cX6_share 4 (some .int) :: ((wsX6_share_r1 ++ (wsX6_share_r2 ++ wsX6_share_r3)) ++ wsX60 ++ wsX20 ++ wsX50 ++ wsX00 ++ (vx_atS RX6 326 "java/lang/IndexOutOfBoundsException" ["java/lang/RuntimeException", "java/lang/Exception"]).filter goodWord)
def wsX6_hold_r1 : List Cond := [Cond.classLink RX6 69 "java/lang/IllegalStateException", Cond.initialized "java/lang/IllegalStateException", Cond.fieldLink RX6 50 "SurveyHouse" "reports" "LSurveyHouse$Reports;", Cond.fieldLink RX6 12 "SurveyHouse" "form" "LSurveyHouse$Questionnaire;", Cond.fieldLink RX6 40 "SurveyHouse" "weights" "LSurveyHouse$Weights;", Cond.fieldLink RX6 33 "SurveyHouse" "interviews" "LSurveyHouse$Interviews;", Cond.methodLink RX6 282 yX4_size, Cond.instanceMethod yX4_size, Cond.selects RX4 yX4_size yX4_size, Cond.initialized RX4, Cond.code yX4_size cX4_size 1 (some .int), Cond.fieldLink RX4 21 "SurveyHouse$Reports" "size" "I", Cond.methodLink RX6 314 yX4_add, Cond.instanceMethod yX4_add, Cond.selects RX4 yX4_add yX4_add, Cond.code yX4_add cX4_add 1 (some .int), Cond.methodLink RX6 65 yX2_size, Cond.instanceMethod yX2_size, Cond.selects RX2 yX2_size yX2_size, Cond.initialized RX2, Cond.code yX2_size cX2_size 1 (some .int), Cond.fieldLink RX2 27 "SurveyHouse$Questionnaire" "size" "I", Cond.methodLink RX6 316 yX2_answersOf, Cond.instanceMethod yX2_answersOf]
def wsX6_hold_r2 : List Cond := [Cond.selects RX2 yX2_answersOf yX2_answersOf, Cond.code yX2_answersOf cX2_answersOf 2 (some .int), Cond.fieldLink RX2 9 "SurveyHouse$Questionnaire" "answers" "[I", Cond.methodLink RX6 298 yX5_shareOf, Cond.instanceMethod yX5_shareOf, Cond.selects RX5 yX5_shareOf yX5_shareOf, Cond.initialized RX5, Cond.code yX5_shareOf cX5_shareOf 8 (some .int), Cond.fieldLink RX5 9 "SurveyHouse$Weights" "weights" "[I", Cond.methodLink RX5 15 yX0_size, Cond.instanceMethod yX0_size, Cond.selects RX0 yX0_size yX0_size, Cond.initialized RX0, Cond.code yX0_size cX0_size 1 (some .int), Cond.fieldLink RX0 39 "SurveyHouse$Interviews" "size" "I", Cond.methodLink RX5 55 yX0_isCounted, Cond.instanceMethod yX0_isCounted, Cond.selects RX0 yX0_isCounted yX0_isCounted, Cond.code yX0_isCounted cX0_isCounted 4 (some .boolean), Cond.fieldLink RX0 15 "SurveyHouse$Interviews" "cells" "[I", Cond.methodLink RX0 43 yX0_isComplete, Cond.instanceMethod yX0_isComplete, Cond.selects RX0 yX0_isComplete yX0_isComplete, Cond.code yX0_isComplete cX0_isComplete 2 (some .boolean)]
def wsX6_hold_r3 : List Cond := [Cond.fieldLink RX0 18 "SurveyHouse$Interviews" "states" "[I", Cond.methodLink RX0 56 yX0_answerTo, Cond.instanceMethod yX0_answerTo, Cond.selects RX0 yX0_answerTo yX0_answerTo, Cond.code yX0_answerTo cX0_answerTo 3 (some .int), Cond.fieldLink RX0 30 "SurveyHouse$Interviews" "answers" "[I", Cond.static yX6_aOf, Cond.initialized RX6, Cond.code yX6_aOf cX6_aOf 1 (some .int), Cond.methodLink RX5 59 yX0_answerTo, Cond.methodLink RX6 319 yX4_put, Cond.instanceMethod yX4_put, Cond.selects RX4 yX4_put yX4_put, Cond.code yX4_put cX4_put 5 none, Cond.fieldLink RX4 9 "SurveyHouse$Reports" "shares" "[I", Cond.methodLink RX4 25 yX4_placeOf, Cond.static yX4_placeOf, Cond.code yX4_placeOf cX4_placeOf 3 (some .int)]
def wsX6_hold : List Cond := .code yX6_hold cX6_hold 4 (some .int) :: ((wsX6_hold_r1 ++ (wsX6_hold_r2 ++ wsX6_hold_r3)) ++ wsX60 ++ wsX40 ++ wsX20 ++ wsX50 ++ wsX00 ++ (vx_atS RX6 73 "java/lang/IllegalStateException" ["java/lang/RuntimeException", "java/lang/Exception"]).filter goodWord)
def wsX6_held_r1 : List Cond := [Cond.classLink RX6 322 "java/lang/IndexOutOfBoundsException", Cond.initialized "java/lang/IndexOutOfBoundsException", Cond.fieldLink RX6 50 "SurveyHouse" "reports" "LSurveyHouse$Reports;", Cond.methodLink RX6 282 yX4_size, Cond.instanceMethod yX4_size, Cond.selects RX4 yX4_size yX4_size, Cond.initialized RX4, Cond.code yX4_size cX4_size 1 (some .int), Cond.fieldLink RX4 21 "SurveyHouse$Reports" "size" "I", Cond.methodLink RX6 81 yX6_needAnswer, Cond.instanceMethod yX6_needAnswer, Cond.selects RX6 yX6_needAnswer yX6_needAnswer, Cond.initialized RX6, Cond.code yX6_needAnswer cX6_needAnswer 3 none, Cond.fieldLink RX6 12 "SurveyHouse" "form" "LSurveyHouse$Questionnaire;", Cond.methodLink RX6 221 yX2_offers, Cond.instanceMethod yX2_offers, Cond.selects RX2 yX2_offers yX2_offers, Cond.initialized RX2, Cond.code yX2_offers cX2_offers 3 (some .boolean), Cond.fieldLink RX2 9 "SurveyHouse$Questionnaire" "answers" "[I", Cond.methodLink RX2 31 yX2_has, Cond.instanceMethod yX2_has, Cond.selects RX2 yX2_has yX2_has]
def wsX6_held_r2 : List Cond := [Cond.code yX2_has cX2_has 2 (some .boolean), Cond.fieldLink RX2 27 "SurveyHouse$Questionnaire" "size" "I", Cond.methodLink RX6 327 yX4_shareIn, Cond.instanceMethod yX4_shareIn, Cond.selects RX4 yX4_shareIn yX4_shareIn, Cond.code yX4_shareIn cX4_shareIn 4 (some .int), Cond.fieldLink RX4 9 "SurveyHouse$Reports" "shares" "[I", Cond.methodLink RX4 25 yX4_placeOf, Cond.static yX4_placeOf, Cond.code yX4_placeOf cX4_placeOf 3 (some .int)]
def wsX6_held : List Cond := .code yX6_held cX6_held 4 (some .int) :: ((wsX6_held_r1 ++ wsX6_held_r2) ++ wsX60 ++ wsX40 ++ wsX20 ++ (vx_atS RX6 326 "java/lang/IndexOutOfBoundsException" ["java/lang/RuntimeException", "java/lang/Exception"]).filter goodWord)
def wsX6_cleaned_r1 : List Cond := [Cond.fieldLink RX6 33 "SurveyHouse" "interviews" "LSurveyHouse$Interviews;", Cond.fieldLink RX6 19 "SurveyHouse" "quotas" "LSurveyHouse$Quotas;", Cond.methodLink RX6 334 yX0_countToClean, Cond.instanceMethod yX0_countToClean, Cond.selects RX0 yX0_countToClean yX0_countToClean, Cond.initialized RX0, Cond.code yX0_countToClean cX0_countToClean 4 (some .int), Cond.fieldLink RX0 39 "SurveyHouse$Interviews" "size" "I", Cond.fieldLink RX0 15 "SurveyHouse$Interviews" "cells" "[I", Cond.methodLink RX0 53 yX0_isToClean, Cond.instanceMethod yX0_isToClean, Cond.selects RX0 yX0_isToClean yX0_isToClean, Cond.code yX0_isToClean cX0_isToClean 2 (some .boolean), Cond.methodLink RX0 43 yX0_isComplete, Cond.instanceMethod yX0_isComplete, Cond.selects RX0 yX0_isComplete yX0_isComplete, Cond.code yX0_isComplete cX0_isComplete 2 (some .boolean), Cond.fieldLink RX0 18 "SurveyHouse$Interviews" "states" "[I", Cond.methodLink RX0 47 yX0_isTooFast, Cond.instanceMethod yX0_isTooFast, Cond.selects RX0 yX0_isTooFast yX0_isTooFast, Cond.code yX0_isTooFast cX0_isTooFast 2 (some .boolean), Cond.fieldLink RX0 27 "SurveyHouse$Interviews" "seconds" "[I", Cond.fieldLink RX0 24 "SurveyHouse$Interviews" "counts" "[I"]
def wsX6_cleaned_r2 : List Cond := [Cond.methodLink RX0 50 yX0_isStraightLine, Cond.instanceMethod yX0_isStraightLine, Cond.selects RX0 yX0_isStraightLine yX0_isStraightLine, Cond.code yX0_isStraightLine cX0_isStraightLine 5 (some .boolean), Cond.methodLink RX0 56 yX0_answerTo, Cond.instanceMethod yX0_answerTo, Cond.selects RX0 yX0_answerTo yX0_answerTo, Cond.code yX0_answerTo cX0_answerTo 3 (some .int), Cond.fieldLink RX0 30 "SurveyHouse$Interviews" "answers" "[I", Cond.methodLink RX6 148 yX3_isOpen, Cond.instanceMethod yX3_isOpen, Cond.selects RX3 yX3_isOpen yX3_isOpen, Cond.initialized RX3, Cond.code yX3_isOpen cX3_isOpen 2 (some .boolean), Cond.methodLink RX3 26 yX3_isOpenWith, Cond.instanceMethod yX3_isOpenWith, Cond.selects RX3 yX3_isOpenWith yX3_isOpenWith, Cond.code yX3_isOpenWith cX3_isOpenWith 5 (some .boolean), Cond.fieldLink RX3 15 "SurveyHouse$Quotas" "filled" "[I", Cond.fieldLink RX3 9 "SurveyHouse$Quotas" "targets" "[I", Cond.fieldLink RX3 18 "SurveyHouse$Quotas" "edge" "I", Cond.methodLink RX3 22 yX3_sumOf, Cond.static yX3_sumOf, Cond.code yX3_sumOf cX3_sumOf 6 (some .int)]
def wsX6_cleaned_r3 : List Cond := [Cond.methodLink RX6 337 yX3_isOpenWith]
def wsX6_cleaned : List Cond := .code yX6_cleaned cX6_cleaned 4 (some .int) :: ((wsX6_cleaned_r1 ++ (wsX6_cleaned_r2 ++ wsX6_cleaned_r3)) ++ wsX60 ++ wsX00 ++ wsX30)
def wsX6_nextIn_r1 : List Cond := [Cond.classLink RX6 58 "java/lang/IllegalArgumentException", Cond.initialized "java/lang/IllegalArgumentException", Cond.methodLink RX6 186 yX6_firstToAsk, Cond.instanceMethod yX6_firstToAsk, Cond.selects RX6 yX6_firstToAsk yX6_firstToAsk, Cond.initialized RX6, Cond.code yX6_firstToAsk cX6_firstToAsk 4 (some .int), Cond.fieldLink RX6 26 "SurveyHouse" "panel" "LSurveyHouse$Panel;", Cond.methodLink RX6 116 yX1_size, Cond.instanceMethod yX1_size, Cond.selects RX1 yX1_size yX1_size, Cond.initialized RX1, Cond.code yX1_size cX1_size 1 (some .int), Cond.fieldLink RX1 24 "SurveyHouse$Panel" "size" "I", Cond.methodLink RX6 177 yX6_canBeAsked, Cond.instanceMethod yX6_canBeAsked, Cond.selects RX6 yX6_canBeAsked yX6_canBeAsked, Cond.code yX6_canBeAsked cX6_canBeAsked 3 (some .boolean), Cond.fieldLink RX6 33 "SurveyHouse" "interviews" "LSurveyHouse$Interviews;", Cond.fieldLink RX6 19 "SurveyHouse" "quotas" "LSurveyHouse$Quotas;", Cond.methodLink RX6 181 yX1_latestOf, Cond.instanceMethod yX1_latestOf, Cond.selects RX1 yX1_latestOf yX1_latestOf, Cond.code yX1_latestOf cX1_latestOf 2 (some .int)]
def wsX6_nextIn_r2 : List Cond := [Cond.fieldLink RX1 21 "SurveyHouse$Panel" "latest" "[I", Cond.methodLink RX6 417 yX0_isTaken, Cond.instanceMethod yX0_isTaken, Cond.selects RX0 yX0_isTaken yX0_isTaken, Cond.initialized RX0, Cond.code yX0_isTaken cX0_isTaken 2 (some .boolean), Cond.fieldLink RX0 39 "SurveyHouse$Interviews" "size" "I", Cond.fieldLink RX0 18 "SurveyHouse$Interviews" "states" "[I", Cond.methodLink RX6 171 yX1_fatigueIn, Cond.instanceMethod yX1_fatigueIn, Cond.selects RX1 yX1_fatigueIn yX1_fatigueIn, Cond.code yX1_fatigueIn cX1_fatigueIn 3 (some .int), Cond.fieldLink RX1 15 "SurveyHouse$Panel" "fatigue" "[I", Cond.methodLink RX1 31 Lib.Math.max.name, Cond.static Lib.Math.max.name, Cond.initialized "java/lang/Math", Cond.code Lib.Math.max.name Lib.Math.max.code 2 (some .int), Cond.methodLink RX6 162 yX1_cellOf, Cond.instanceMethod yX1_cellOf, Cond.selects RX1 yX1_cellOf yX1_cellOf, Cond.code yX1_cellOf cX1_cellOf 2 (some .int), Cond.fieldLink RX1 9 "SurveyHouse$Panel" "cells" "[I", Cond.methodLink RX6 148 yX3_isOpen, Cond.instanceMethod yX3_isOpen]
def wsX6_nextIn_r3 : List Cond := [Cond.selects RX3 yX3_isOpen yX3_isOpen, Cond.initialized RX3, Cond.code yX3_isOpen cX3_isOpen 2 (some .boolean), Cond.methodLink RX3 26 yX3_isOpenWith, Cond.instanceMethod yX3_isOpenWith, Cond.selects RX3 yX3_isOpenWith yX3_isOpenWith, Cond.code yX3_isOpenWith cX3_isOpenWith 5 (some .boolean), Cond.fieldLink RX3 15 "SurveyHouse$Quotas" "filled" "[I", Cond.fieldLink RX3 9 "SurveyHouse$Quotas" "targets" "[I", Cond.fieldLink RX3 18 "SurveyHouse$Quotas" "edge" "I", Cond.methodLink RX3 22 yX3_sumOf, Cond.static yX3_sumOf, Cond.code yX3_sumOf cX3_sumOf 6 (some .int), Cond.methodLink RX6 420 yX6_isAhead, Cond.instanceMethod yX6_isAhead, Cond.selects RX6 yX6_isAhead yX6_isAhead, Cond.code yX6_isAhead cX6_isAhead 6 (some .boolean), Cond.methodLink RX6 423 yX3_lackOf, Cond.instanceMethod yX3_lackOf, Cond.selects RX3 yX3_lackOf yX3_lackOf, Cond.code yX3_lackOf cX3_lackOf 2 (some .int)]
def wsX6_nextIn : List Cond := .code yX6_nextIn cX6_nextIn 2 (some .int) :: ((wsX6_nextIn_r1 ++ (wsX6_nextIn_r2 ++ wsX6_nextIn_r3)) ++ wsX60 ++ wsX10 ++ wsX00 ++ wsX30 ++ (vx_atS RX6 62 "java/lang/IllegalArgumentException" ["java/lang/RuntimeException", "java/lang/Exception"]).filter goodWord)
def wsX6_needRounds : List Cond := .code yX6_needRounds cX6_needRounds 1 none :: ([.classLink RX6 58 "java/lang/IllegalArgumentException", .initialized "java/lang/IllegalArgumentException"] ++ (vx_atS RX6 62 "java/lang/IllegalArgumentException" ["java/lang/RuntimeException", "java/lang/Exception"]).filter goodWord)
def wsX6_offWith_r1 : List Cond := [Cond.fieldLink RX6 44 "SurveyHouse" "trial" "LSurveyHouse$Weights;", Cond.fieldLink RX6 33 "SurveyHouse" "interviews" "LSurveyHouse$Interviews;", Cond.fieldLink RX6 19 "SurveyHouse" "quotas" "LSurveyHouse$Quotas;", Cond.methodLink RX6 288 yX6_needRounds, Cond.static yX6_needRounds, Cond.initialized RX6, Cond.code yX6_needRounds cX6_needRounds 1 none, Cond.classLink RX6 58 "java/lang/IllegalArgumentException", Cond.initialized "java/lang/IllegalArgumentException", Cond.methodLink RX6 343 yX5_weigh, Cond.instanceMethod yX5_weigh, Cond.selects RX5 yX5_weigh yX5_weigh, Cond.initialized RX5, Cond.code yX5_weigh cX5_weigh 6 none, Cond.fieldLink RX5 9 "SurveyHouse$Weights" "weights" "[I", Cond.methodLink RX5 15 yX0_size, Cond.instanceMethod yX0_size, Cond.selects RX0 yX0_size yX0_size, Cond.initialized RX0, Cond.code yX0_size cX0_size 1 (some .int), Cond.fieldLink RX0 39 "SurveyHouse$Interviews" "size" "I", Cond.methodLink RX5 21 yX0_isComplete, Cond.instanceMethod yX0_isComplete, Cond.selects RX0 yX0_isComplete yX0_isComplete]
def wsX6_offWith_r2 : List Cond := [Cond.code yX0_isComplete cX0_isComplete 2 (some .boolean), Cond.fieldLink RX0 18 "SurveyHouse$Interviews" "states" "[I", Cond.methodLink RX5 25 yX3_marginOf, Cond.instanceMethod yX3_marginOf, Cond.selects RX3 yX3_marginOf yX3_marginOf, Cond.initialized RX3, Cond.code yX3_marginOf cX3_marginOf 4 (some .int), Cond.fieldLink RX3 9 "SurveyHouse$Quotas" "targets" "[I", Cond.static yX6_isIn, Cond.code yX6_isIn cX6_isIn 2 (some .boolean), Cond.methodLink RX6 165 yX6_aOf, Cond.static yX6_aOf, Cond.code yX6_aOf cX6_aOf 1 (some .int), Cond.methodLink RX6 168 yX6_bOf, Cond.static yX6_bOf, Cond.code yX6_bOf cX6_bOf 1 (some .int), Cond.methodLink RX5 31 yX5_scale, Cond.instanceMethod yX5_scale, Cond.selects RX5 yX5_scale yX5_scale, Cond.code yX5_scale cX5_scale 6 none, Cond.methodLink RX5 35 yX5_sumOf, Cond.instanceMethod yX5_sumOf, Cond.selects RX5 yX5_sumOf yX5_sumOf, Cond.code yX5_sumOf cX5_sumOf 5 (some .int)]
def wsX6_offWith_r3 : List Cond := [Cond.methodLink RX5 39 yX0_cellOf, Cond.instanceMethod yX0_cellOf, Cond.selects RX0 yX0_cellOf yX0_cellOf, Cond.code yX0_cellOf cX0_cellOf 2 (some .int), Cond.fieldLink RX0 15 "SurveyHouse$Interviews" "cells" "[I", Cond.methodLink RX6 291 yX5_farthest, Cond.instanceMethod yX5_farthest, Cond.selects RX5 yX5_farthest yX5_farthest, Cond.code yX5_farthest cX5_farthest 6 (some .int), Cond.methodLink RX5 46 Lib.Math.abs.name, Cond.static Lib.Math.abs.name, Cond.initialized "java/lang/Math", Cond.code Lib.Math.abs.name Lib.Math.abs.code 1 (some .int), Cond.methodLink RX5 51 Lib.Math.max.name, Cond.static Lib.Math.max.name, Cond.code Lib.Math.max.name Lib.Math.max.code 2 (some .int)]
def wsX6_offWith : List Cond := .code yX6_offWith cX6_offWith 2 (some .int) :: ((wsX6_offWith_r1 ++ (wsX6_offWith_r2 ++ wsX6_offWith_r3)) ++ wsX60 ++ wsX50 ++ wsX00 ++ wsX30 ++ (vx_atS RX6 62 "java/lang/IllegalArgumentException" ["java/lang/RuntimeException", "java/lang/Exception"]).filter goodWord)
def wsX6_shortest_r1 : List Cond := [Cond.fieldLink RX6 12 "SurveyHouse" "form" "LSurveyHouse$Questionnaire;", Cond.methodLink RX6 85 yX6_needQuestion, Cond.instanceMethod yX6_needQuestion, Cond.selects RX6 yX6_needQuestion yX6_needQuestion, Cond.initialized RX6, Cond.code yX6_needQuestion cX6_needQuestion 2 none, Cond.classLink RX6 322 "java/lang/IndexOutOfBoundsException", Cond.initialized "java/lang/IndexOutOfBoundsException", Cond.methodLink RX6 402 yX2_has, Cond.instanceMethod yX2_has, Cond.selects RX2 yX2_has yX2_has, Cond.initialized RX2, Cond.code yX2_has cX2_has 2 (some .boolean), Cond.fieldLink RX2 27 "SurveyHouse$Questionnaire" "size" "I", Cond.methodLink RX6 347 yX2_stepsFrom, Cond.instanceMethod yX2_stepsFrom, Cond.selects RX2 yX2_stepsFrom yX2_stepsFrom, Cond.code yX2_stepsFrom cX2_stepsFrom 6 (some .int), Cond.fieldLink RX2 9 "SurveyHouse$Questionnaire" "answers" "[I", Cond.fieldLink RX2 18 "SurveyHouse$Questionnaire" "steps" "[I", Cond.methodLink RX2 46 Lib.Math.min.name, Cond.static Lib.Math.min.name, Cond.initialized "java/lang/Math", Cond.code Lib.Math.min.name Lib.Math.min.code 2 (some .int)]
def wsX6_shortest_r2 : List Cond := [Cond.methodLink RX2 42 yX2_wayFrom, Cond.instanceMethod yX2_wayFrom, Cond.selects RX2 yX2_wayFrom yX2_wayFrom, Cond.code yX2_wayFrom cX2_wayFrom 4 (some .int), Cond.fieldLink RX2 15 "SurveyHouse$Questionnaire" "ways" "[I", Cond.methodLink RX2 38 yX2_orEnd, Cond.instanceMethod yX2_orEnd, Cond.selects RX2 yX2_orEnd yX2_orEnd, Cond.code yX2_orEnd cX2_orEnd 2 (some .int)]
def wsX6_shortest : List Cond := .code yX6_shortest cX6_shortest 2 (some .int) :: ((wsX6_shortest_r1 ++ wsX6_shortest_r2) ++ wsX60 ++ wsX20 ++ (vx_atS RX6 326 "java/lang/IndexOutOfBoundsException" ["java/lang/RuntimeException", "java/lang/Exception"]).filter goodWord)
def wsX6_digestCells_r1 : List Cond := [Cond.constantLong RX6 352 (31), Cond.methodLink RX6 382 yX6_ofCell, Cond.instanceMethod yX6_ofCell, Cond.selects RX6 yX6_ofCell yX6_ofCell, Cond.initialized RX6, Cond.code yX6_ofCell cX6_ofCell 5 (some .int), Cond.classLink RX6 58 "java/lang/IllegalArgumentException", Cond.initialized "java/lang/IllegalArgumentException", Cond.fieldLink RX6 19 "SurveyHouse" "quotas" "LSurveyHouse$Quotas;", Cond.fieldLink RX6 26 "SurveyHouse" "panel" "LSurveyHouse$Panel;", Cond.methodLink RX6 123 yX6_needCell, Cond.static yX6_needCell, Cond.code yX6_needCell cX6_needCell 2 none, Cond.classLink RX6 322 "java/lang/IndexOutOfBoundsException", Cond.initialized "java/lang/IndexOutOfBoundsException", Cond.methodLink RX6 107 yX6_isA, Cond.static yX6_isA, Cond.code yX6_isA cX6_isA 1 (some .boolean), Cond.methodLink RX6 111 yX6_isB, Cond.static yX6_isB, Cond.code yX6_isB cX6_isB 1 (some .boolean), Cond.methodLink RX6 119 yX6_cellAt, Cond.static yX6_cellAt, Cond.code yX6_cellAt cX6_cellAt 2 (some .int)]
def wsX6_digestCells_r2 : List Cond := [Cond.methodLink RX6 128 yX3_targetOf, Cond.instanceMethod yX3_targetOf, Cond.selects RX3 yX3_targetOf yX3_targetOf, Cond.initialized RX3, Cond.code yX3_targetOf cX3_targetOf 2 (some .int), Cond.fieldLink RX3 9 "SurveyHouse$Quotas" "targets" "[I", Cond.methodLink RX6 145 yX3_filledOf, Cond.instanceMethod yX3_filledOf, Cond.selects RX3 yX3_filledOf yX3_filledOf, Cond.code yX3_filledOf cX3_filledOf 2 (some .int), Cond.fieldLink RX3 15 "SurveyHouse$Quotas" "filled" "[I", Cond.methodLink RX6 148 yX3_isOpen, Cond.instanceMethod yX3_isOpen, Cond.selects RX3 yX3_isOpen yX3_isOpen, Cond.code yX3_isOpen cX3_isOpen 2 (some .boolean), Cond.methodLink RX3 26 yX3_isOpenWith, Cond.instanceMethod yX3_isOpenWith, Cond.selects RX3 yX3_isOpenWith yX3_isOpenWith, Cond.code yX3_isOpenWith cX3_isOpenWith 5 (some .boolean), Cond.fieldLink RX3 18 "SurveyHouse$Quotas" "edge" "I", Cond.methodLink RX3 22 yX3_sumOf, Cond.static yX3_sumOf, Cond.code yX3_sumOf cX3_sumOf 6 (some .int), Cond.methodLink RX6 151 yX1_countOf]
def wsX6_digestCells_r3 : List Cond := [Cond.instanceMethod yX1_countOf, Cond.selects RX1 yX1_countOf yX1_countOf, Cond.initialized RX1, Cond.code yX1_countOf cX1_countOf 4 (some .int), Cond.fieldLink RX1 24 "SurveyHouse$Panel" "size" "I", Cond.fieldLink RX1 9 "SurveyHouse$Panel" "cells" "[I", Cond.methodLink RX6 154 yX6_countToAsk, Cond.instanceMethod yX6_countToAsk, Cond.selects RX6 yX6_countToAsk yX6_countToAsk, Cond.code yX6_countToAsk cX6_countToAsk 4 (some .int), Cond.methodLink RX6 116 yX1_size, Cond.instanceMethod yX1_size, Cond.selects RX1 yX1_size yX1_size, Cond.code yX1_size cX1_size 1 (some .int), Cond.methodLink RX6 162 yX1_cellOf, Cond.instanceMethod yX1_cellOf, Cond.selects RX1 yX1_cellOf yX1_cellOf, Cond.code yX1_cellOf cX1_cellOf 2 (some .int), Cond.methodLink RX6 177 yX6_canBeAsked, Cond.instanceMethod yX6_canBeAsked, Cond.selects RX6 yX6_canBeAsked yX6_canBeAsked, Cond.code yX6_canBeAsked cX6_canBeAsked 3 (some .boolean), Cond.fieldLink RX6 33 "SurveyHouse" "interviews" "LSurveyHouse$Interviews;", Cond.methodLink RX6 181 yX1_latestOf]
def wsX6_digestCells_r4 : List Cond := [Cond.instanceMethod yX1_latestOf, Cond.selects RX1 yX1_latestOf yX1_latestOf, Cond.code yX1_latestOf cX1_latestOf 2 (some .int), Cond.fieldLink RX1 21 "SurveyHouse$Panel" "latest" "[I", Cond.methodLink RX6 417 yX0_isTaken, Cond.instanceMethod yX0_isTaken, Cond.selects RX0 yX0_isTaken yX0_isTaken, Cond.initialized RX0, Cond.code yX0_isTaken cX0_isTaken 2 (some .boolean), Cond.fieldLink RX0 39 "SurveyHouse$Interviews" "size" "I", Cond.fieldLink RX0 18 "SurveyHouse$Interviews" "states" "[I", Cond.methodLink RX6 171 yX1_fatigueIn, Cond.instanceMethod yX1_fatigueIn, Cond.selects RX1 yX1_fatigueIn yX1_fatigueIn, Cond.code yX1_fatigueIn cX1_fatigueIn 3 (some .int), Cond.fieldLink RX1 15 "SurveyHouse$Panel" "fatigue" "[I", Cond.methodLink RX1 31 Lib.Math.max.name, Cond.static Lib.Math.max.name, Cond.initialized "java/lang/Math", Cond.code Lib.Math.max.name Lib.Math.max.code 2 (some .int)]
def wsX6_digestCells : List Cond := .code yX6_digestCells cX6_digestCells 8 (some .long) :: ((wsX6_digestCells_r1 ++ (wsX6_digestCells_r2 ++ (wsX6_digestCells_r3 ++ wsX6_digestCells_r4))) ++ wsX60 ++ wsX30 ++ wsX10 ++ wsX00 ++ (vx_atS RX6 62 "java/lang/IllegalArgumentException" ["java/lang/RuntimeException", "java/lang/Exception"]).filter goodWord ++ (vx_atS RX6 326 "java/lang/IndexOutOfBoundsException" ["java/lang/RuntimeException", "java/lang/Exception"]).filter goodWord)
def wsX6_digestPeople_r1 : List Cond := [Cond.fieldLink RX6 26 "SurveyHouse" "panel" "LSurveyHouse$Panel;", Cond.constantLong RX6 352 (31), Cond.methodLink RX6 116 yX1_size, Cond.instanceMethod yX1_size, Cond.selects RX1 yX1_size yX1_size, Cond.initialized RX1, Cond.code yX1_size cX1_size 1 (some .int), Cond.fieldLink RX1 24 "SurveyHouse$Panel" "size" "I", Cond.methodLink RX6 385 yX6_ofPerson, Cond.instanceMethod yX6_ofPerson, Cond.selects RX6 yX6_ofPerson yX6_ofPerson, Cond.initialized RX6, Cond.code yX6_ofPerson cX6_ofPerson 3 (some .int), Cond.classLink RX6 58 "java/lang/IllegalArgumentException", Cond.initialized "java/lang/IllegalArgumentException", Cond.methodLink RX6 159 yX6_needPerson, Cond.instanceMethod yX6_needPerson, Cond.selects RX6 yX6_needPerson yX6_needPerson, Cond.code yX6_needPerson cX6_needPerson 2 none, Cond.classLink RX6 322 "java/lang/IndexOutOfBoundsException", Cond.initialized "java/lang/IndexOutOfBoundsException", Cond.methodLink RX6 162 yX1_cellOf, Cond.instanceMethod yX1_cellOf, Cond.selects RX1 yX1_cellOf yX1_cellOf]
def wsX6_digestPeople_r2 : List Cond := [Cond.code yX1_cellOf cX1_cellOf 2 (some .int), Cond.fieldLink RX1 9 "SurveyHouse$Panel" "cells" "[I", Cond.methodLink RX6 165 yX6_aOf, Cond.static yX6_aOf, Cond.code yX6_aOf cX6_aOf 1 (some .int), Cond.methodLink RX6 168 yX6_bOf, Cond.static yX6_bOf, Cond.code yX6_bOf cX6_bOf 1 (some .int), Cond.methodLink RX6 171 yX1_fatigueIn, Cond.instanceMethod yX1_fatigueIn, Cond.selects RX1 yX1_fatigueIn yX1_fatigueIn, Cond.code yX1_fatigueIn cX1_fatigueIn 3 (some .int), Cond.fieldLink RX1 15 "SurveyHouse$Panel" "fatigue" "[I", Cond.methodLink RX1 31 Lib.Math.max.name, Cond.static Lib.Math.max.name, Cond.initialized "java/lang/Math", Cond.code Lib.Math.max.name Lib.Math.max.code 2 (some .int), Cond.methodLink RX6 174 yX1_pointsOf, Cond.instanceMethod yX1_pointsOf, Cond.selects RX1 yX1_pointsOf yX1_pointsOf, Cond.code yX1_pointsOf cX1_pointsOf 2 (some .int), Cond.fieldLink RX1 18 "SurveyHouse$Panel" "points" "[I", Cond.methodLink RX6 177 yX6_canBeAsked, Cond.instanceMethod yX6_canBeAsked]
def wsX6_digestPeople_r3 : List Cond := [Cond.selects RX6 yX6_canBeAsked yX6_canBeAsked, Cond.code yX6_canBeAsked cX6_canBeAsked 3 (some .boolean), Cond.fieldLink RX6 33 "SurveyHouse" "interviews" "LSurveyHouse$Interviews;", Cond.fieldLink RX6 19 "SurveyHouse" "quotas" "LSurveyHouse$Quotas;", Cond.methodLink RX6 181 yX1_latestOf, Cond.instanceMethod yX1_latestOf, Cond.selects RX1 yX1_latestOf yX1_latestOf, Cond.code yX1_latestOf cX1_latestOf 2 (some .int), Cond.fieldLink RX1 21 "SurveyHouse$Panel" "latest" "[I", Cond.methodLink RX6 417 yX0_isTaken, Cond.instanceMethod yX0_isTaken, Cond.selects RX0 yX0_isTaken yX0_isTaken, Cond.initialized RX0, Cond.code yX0_isTaken cX0_isTaken 2 (some .boolean), Cond.fieldLink RX0 39 "SurveyHouse$Interviews" "size" "I", Cond.fieldLink RX0 18 "SurveyHouse$Interviews" "states" "[I", Cond.methodLink RX6 148 yX3_isOpen, Cond.instanceMethod yX3_isOpen, Cond.selects RX3 yX3_isOpen yX3_isOpen, Cond.initialized RX3, Cond.code yX3_isOpen cX3_isOpen 2 (some .boolean), Cond.methodLink RX3 26 yX3_isOpenWith, Cond.instanceMethod yX3_isOpenWith, Cond.selects RX3 yX3_isOpenWith yX3_isOpenWith]
def wsX6_digestPeople_r4 : List Cond := [Cond.code yX3_isOpenWith cX3_isOpenWith 5 (some .boolean), Cond.fieldLink RX3 15 "SurveyHouse$Quotas" "filled" "[I", Cond.fieldLink RX3 9 "SurveyHouse$Quotas" "targets" "[I", Cond.fieldLink RX3 18 "SurveyHouse$Quotas" "edge" "I", Cond.methodLink RX3 22 yX3_sumOf, Cond.static yX3_sumOf, Cond.code yX3_sumOf cX3_sumOf 6 (some .int)]
def wsX6_digestPeople : List Cond := .code yX6_digestPeople cX6_digestPeople 7 (some .long) :: ((wsX6_digestPeople_r1 ++ (wsX6_digestPeople_r2 ++ (wsX6_digestPeople_r3 ++ wsX6_digestPeople_r4))) ++ wsX60 ++ wsX10 ++ wsX00 ++ wsX30 ++ (vx_atS RX6 62 "java/lang/IllegalArgumentException" ["java/lang/RuntimeException", "java/lang/Exception"]).filter goodWord ++ (vx_atS RX6 326 "java/lang/IndexOutOfBoundsException" ["java/lang/RuntimeException", "java/lang/Exception"]).filter goodWord)
def wsX6_digestInterviews_r1 : List Cond := [Cond.fieldLink RX6 33 "SurveyHouse" "interviews" "LSurveyHouse$Interviews;", Cond.constantLong RX6 352 (31), Cond.fieldLink RX6 12 "SurveyHouse" "form" "LSurveyHouse$Questionnaire;", Cond.methodLink RX6 196 yX0_size, Cond.instanceMethod yX0_size, Cond.selects RX0 yX0_size yX0_size, Cond.initialized RX0, Cond.code yX0_size cX0_size 1 (some .int), Cond.fieldLink RX0 39 "SurveyHouse$Interviews" "size" "I", Cond.methodLink RX6 388 yX6_ofInterview, Cond.instanceMethod yX6_ofInterview, Cond.selects RX6 yX6_ofInterview yX6_ofInterview, Cond.initialized RX6, Cond.code yX6_ofInterview cX6_ofInterview 3 (some .int), Cond.classLink RX6 58 "java/lang/IllegalArgumentException", Cond.initialized "java/lang/IllegalArgumentException", Cond.fieldLink RX6 40 "SurveyHouse" "weights" "LSurveyHouse$Weights;", Cond.methodLink RX6 210 yX6_needInterview, Cond.instanceMethod yX6_needInterview, Cond.selects RX6 yX6_needInterview yX6_needInterview, Cond.code yX6_needInterview cX6_needInterview 2 none, Cond.classLink RX6 322 "java/lang/IndexOutOfBoundsException", Cond.initialized "java/lang/IndexOutOfBoundsException", Cond.methodLink RX6 240 yX0_personOf]
def wsX6_digestInterviews_r2 : List Cond := [Cond.instanceMethod yX0_personOf, Cond.selects RX0 yX0_personOf yX0_personOf, Cond.code yX0_personOf cX0_personOf 2 (some .int), Cond.fieldLink RX0 9 "SurveyHouse$Interviews" "people" "[I", Cond.methodLink RX6 213 yX0_stateOf, Cond.instanceMethod yX0_stateOf, Cond.selects RX0 yX0_stateOf yX0_stateOf, Cond.code yX0_stateOf cX0_stateOf 2 (some .int), Cond.fieldLink RX0 18 "SurveyHouse$Interviews" "states" "[I", Cond.methodLink RX6 218 yX0_placeOf, Cond.instanceMethod yX0_placeOf, Cond.selects RX0 yX0_placeOf yX0_placeOf, Cond.code yX0_placeOf cX0_placeOf 2 (some .int), Cond.fieldLink RX0 21 "SurveyHouse$Interviews" "places" "[I", Cond.methodLink RX6 232 yX0_countOf, Cond.instanceMethod yX0_countOf, Cond.selects RX0 yX0_countOf yX0_countOf, Cond.code yX0_countOf cX0_countOf 2 (some .int), Cond.fieldLink RX0 24 "SurveyHouse$Interviews" "counts" "[I", Cond.methodLink RX6 243 yX0_secondsOf, Cond.instanceMethod yX0_secondsOf, Cond.selects RX0 yX0_secondsOf yX0_secondsOf, Cond.code yX0_secondsOf cX0_secondsOf 2 (some .int), Cond.fieldLink RX0 27 "SurveyHouse$Interviews" "seconds" "[I"]
def wsX6_digestInterviews_r3 : List Cond := [Cond.methodLink RX6 246 yX5_of, Cond.instanceMethod yX5_of, Cond.selects RX5 yX5_of yX5_of, Cond.initialized RX5, Cond.code yX5_of cX5_of 2 (some .int), Cond.fieldLink RX5 9 "SurveyHouse$Weights" "weights" "[I", Cond.methodLink RX6 249 yX0_isToClean, Cond.instanceMethod yX0_isToClean, Cond.selects RX0 yX0_isToClean yX0_isToClean, Cond.code yX0_isToClean cX0_isToClean 2 (some .boolean), Cond.methodLink RX0 43 yX0_isComplete, Cond.instanceMethod yX0_isComplete, Cond.selects RX0 yX0_isComplete yX0_isComplete, Cond.code yX0_isComplete cX0_isComplete 2 (some .boolean), Cond.methodLink RX0 47 yX0_isTooFast, Cond.instanceMethod yX0_isTooFast, Cond.selects RX0 yX0_isTooFast yX0_isTooFast, Cond.code yX0_isTooFast cX0_isTooFast 2 (some .boolean), Cond.methodLink RX0 50 yX0_isStraightLine, Cond.instanceMethod yX0_isStraightLine, Cond.selects RX0 yX0_isStraightLine yX0_isStraightLine, Cond.code yX0_isStraightLine cX0_isStraightLine 5 (some .boolean), Cond.methodLink RX0 56 yX0_answerTo, Cond.instanceMethod yX0_answerTo]
def wsX6_digestInterviews_r4 : List Cond := [Cond.selects RX0 yX0_answerTo yX0_answerTo, Cond.code yX0_answerTo cX0_answerTo 3 (some .int), Cond.fieldLink RX0 30 "SurveyHouse$Interviews" "answers" "[I", Cond.methodLink RX6 65 yX2_size, Cond.instanceMethod yX2_size, Cond.selects RX2 yX2_size yX2_size, Cond.initialized RX2, Cond.code yX2_size cX2_size 1 (some .int), Cond.fieldLink RX2 27 "SurveyHouse$Questionnaire" "size" "I", Cond.methodLink RX6 391 yX6_given, Cond.instanceMethod yX6_given, Cond.selects RX6 yX6_given yX6_given, Cond.code yX6_given cX6_given 3 (some .int), Cond.methodLink RX6 85 yX6_needQuestion, Cond.instanceMethod yX6_needQuestion, Cond.selects RX6 yX6_needQuestion yX6_needQuestion, Cond.code yX6_needQuestion cX6_needQuestion 2 none, Cond.methodLink RX6 402 yX2_has, Cond.instanceMethod yX2_has, Cond.selects RX2 yX2_has yX2_has, Cond.code yX2_has cX2_has 2 (some .boolean), Cond.methodLink RX6 254 yX0_answerTo]
def wsX6_digestInterviews : List Cond := .code yX6_digestInterviews cX6_digestInterviews 7 (some .long) :: ((wsX6_digestInterviews_r1 ++ (wsX6_digestInterviews_r2 ++ (wsX6_digestInterviews_r3 ++ wsX6_digestInterviews_r4))) ++ wsX60 ++ wsX00 ++ wsX50 ++ wsX20 ++ (vx_atS RX6 62 "java/lang/IllegalArgumentException" ["java/lang/RuntimeException", "java/lang/Exception"]).filter goodWord ++ (vx_atS RX6 326 "java/lang/IndexOutOfBoundsException" ["java/lang/RuntimeException", "java/lang/Exception"]).filter goodWord)
def wsX6_digestQuestions_r1 : List Cond := [Cond.fieldLink RX6 12 "SurveyHouse" "form" "LSurveyHouse$Questionnaire;", Cond.constantLong RX6 352 (31), Cond.methodLink RX6 65 yX2_size, Cond.instanceMethod yX2_size, Cond.selects RX2 yX2_size yX2_size, Cond.initialized RX2, Cond.code yX2_size cX2_size 1 (some .int), Cond.fieldLink RX2 27 "SurveyHouse$Questionnaire" "size" "I", Cond.methodLink RX6 316 yX2_answersOf, Cond.instanceMethod yX2_answersOf, Cond.selects RX2 yX2_answersOf yX2_answersOf, Cond.code yX2_answersOf cX2_answersOf 2 (some .int), Cond.fieldLink RX2 9 "SurveyHouse$Questionnaire" "answers" "[I", Cond.methodLink RX6 394 yX6_share, Cond.instanceMethod yX6_share, Cond.selects RX6 yX6_share yX6_share, Cond.initialized RX6, Cond.code yX6_share cX6_share 4 (some .int), Cond.fieldLink RX6 40 "SurveyHouse" "weights" "LSurveyHouse$Weights;", Cond.fieldLink RX6 33 "SurveyHouse" "interviews" "LSurveyHouse$Interviews;", Cond.methodLink RX6 81 yX6_needAnswer, Cond.instanceMethod yX6_needAnswer, Cond.selects RX6 yX6_needAnswer yX6_needAnswer, Cond.code yX6_needAnswer cX6_needAnswer 3 none]
def wsX6_digestQuestions_r2 : List Cond := [Cond.classLink RX6 322 "java/lang/IndexOutOfBoundsException", Cond.initialized "java/lang/IndexOutOfBoundsException", Cond.methodLink RX6 221 yX2_offers, Cond.instanceMethod yX2_offers, Cond.selects RX2 yX2_offers yX2_offers, Cond.code yX2_offers cX2_offers 3 (some .boolean), Cond.methodLink RX2 31 yX2_has, Cond.instanceMethod yX2_has, Cond.selects RX2 yX2_has yX2_has, Cond.code yX2_has cX2_has 2 (some .boolean), Cond.methodLink RX6 295 yX6_needA, Cond.static yX6_needA, Cond.code yX6_needA cX6_needA 1 none, Cond.methodLink RX6 107 yX6_isA, Cond.static yX6_isA, Cond.code yX6_isA cX6_isA 1 (some .boolean), Cond.methodLink RX6 298 yX5_shareOf, Cond.instanceMethod yX5_shareOf, Cond.selects RX5 yX5_shareOf yX5_shareOf, Cond.initialized RX5, Cond.code yX5_shareOf cX5_shareOf 8 (some .int), Cond.fieldLink RX5 9 "SurveyHouse$Weights" "weights" "[I", Cond.methodLink RX5 15 yX0_size, Cond.instanceMethod yX0_size]
def wsX6_digestQuestions_r3 : List Cond := [Cond.selects RX0 yX0_size yX0_size, Cond.initialized RX0, Cond.code yX0_size cX0_size 1 (some .int), Cond.fieldLink RX0 39 "SurveyHouse$Interviews" "size" "I", Cond.methodLink RX5 55 yX0_isCounted, Cond.instanceMethod yX0_isCounted, Cond.selects RX0 yX0_isCounted yX0_isCounted, Cond.code yX0_isCounted cX0_isCounted 4 (some .boolean), Cond.fieldLink RX0 15 "SurveyHouse$Interviews" "cells" "[I", Cond.methodLink RX0 43 yX0_isComplete, Cond.instanceMethod yX0_isComplete, Cond.selects RX0 yX0_isComplete yX0_isComplete, Cond.code yX0_isComplete cX0_isComplete 2 (some .boolean), Cond.fieldLink RX0 18 "SurveyHouse$Interviews" "states" "[I", Cond.methodLink RX0 56 yX0_answerTo, Cond.instanceMethod yX0_answerTo, Cond.selects RX0 yX0_answerTo yX0_answerTo, Cond.code yX0_answerTo cX0_answerTo 3 (some .int), Cond.fieldLink RX0 30 "SurveyHouse$Interviews" "answers" "[I", Cond.static yX6_aOf, Cond.code yX6_aOf cX6_aOf 1 (some .int), Cond.methodLink RX5 59 yX0_answerTo, Cond.methodLink RX6 397 yX6_shortest, Cond.instanceMethod yX6_shortest]
def wsX6_digestQuestions_r4 : List Cond := [Cond.selects RX6 yX6_shortest yX6_shortest, Cond.code yX6_shortest cX6_shortest 2 (some .int), Cond.methodLink RX6 85 yX6_needQuestion, Cond.instanceMethod yX6_needQuestion, Cond.selects RX6 yX6_needQuestion yX6_needQuestion, Cond.code yX6_needQuestion cX6_needQuestion 2 none, Cond.methodLink RX6 402 yX2_has, Cond.methodLink RX6 347 yX2_stepsFrom, Cond.instanceMethod yX2_stepsFrom, Cond.selects RX2 yX2_stepsFrom yX2_stepsFrom, Cond.code yX2_stepsFrom cX2_stepsFrom 6 (some .int), Cond.fieldLink RX2 18 "SurveyHouse$Questionnaire" "steps" "[I", Cond.methodLink RX2 46 Lib.Math.min.name, Cond.static Lib.Math.min.name, Cond.initialized "java/lang/Math", Cond.code Lib.Math.min.name Lib.Math.min.code 2 (some .int), Cond.methodLink RX2 42 yX2_wayFrom, Cond.instanceMethod yX2_wayFrom, Cond.selects RX2 yX2_wayFrom yX2_wayFrom, Cond.code yX2_wayFrom cX2_wayFrom 4 (some .int), Cond.fieldLink RX2 15 "SurveyHouse$Questionnaire" "ways" "[I", Cond.methodLink RX2 38 yX2_orEnd, Cond.instanceMethod yX2_orEnd, Cond.selects RX2 yX2_orEnd yX2_orEnd]
def wsX6_digestQuestions_r5 : List Cond := [Cond.code yX2_orEnd cX2_orEnd 2 (some .int)]
def wsX6_digestQuestions : List Cond := .code yX6_digestQuestions cX6_digestQuestions 7 (some .long) :: ((wsX6_digestQuestions_r1 ++ (wsX6_digestQuestions_r2 ++ (wsX6_digestQuestions_r3 ++ (wsX6_digestQuestions_r4 ++ wsX6_digestQuestions_r5)))) ++ wsX60 ++ wsX20 ++ wsX50 ++ wsX00 ++ (vx_atS RX6 326 "java/lang/IndexOutOfBoundsException" ["java/lang/RuntimeException", "java/lang/Exception"]).filter goodWord)
def wsX6_digest_r1 : List Cond := [Cond.constantLong RX6 350 (58114), Cond.constantLong RX6 352 (31), Cond.methodLink RX6 354 yX6_many, Cond.instanceMethod yX6_many, Cond.selects RX6 yX6_many yX6_many, Cond.initialized RX6, Cond.code yX6_many cX6_many 2 (some .int), Cond.classLink RX6 58 "java/lang/IllegalArgumentException", Cond.initialized "java/lang/IllegalArgumentException", Cond.fieldLink RX6 12 "SurveyHouse" "form" "LSurveyHouse$Questionnaire;", Cond.fieldLink RX6 26 "SurveyHouse" "panel" "LSurveyHouse$Panel;", Cond.fieldLink RX6 33 "SurveyHouse" "interviews" "LSurveyHouse$Interviews;", Cond.fieldLink RX6 19 "SurveyHouse" "quotas" "LSurveyHouse$Quotas;", Cond.fieldLink RX6 50 "SurveyHouse" "reports" "LSurveyHouse$Reports;", Cond.methodLink RX6 65 yX2_size, Cond.instanceMethod yX2_size, Cond.selects RX2 yX2_size yX2_size, Cond.initialized RX2, Cond.code yX2_size cX2_size 1 (some .int), Cond.fieldLink RX2 27 "SurveyHouse$Questionnaire" "size" "I", Cond.methodLink RX6 116 yX1_size, Cond.instanceMethod yX1_size, Cond.selects RX1 yX1_size yX1_size, Cond.initialized RX1]
def wsX6_digest_r2 : List Cond := [Cond.code yX1_size cX1_size 1 (some .int), Cond.fieldLink RX1 24 "SurveyHouse$Panel" "size" "I", Cond.methodLink RX6 267 yX0_countIn, Cond.instanceMethod yX0_countIn, Cond.selects RX0 yX0_countIn yX0_countIn, Cond.initialized RX0, Cond.code yX0_countIn cX0_countIn 4 (some .int), Cond.fieldLink RX0 39 "SurveyHouse$Interviews" "size" "I", Cond.fieldLink RX0 18 "SurveyHouse$Interviews" "states" "[I", Cond.methodLink RX6 270 yX3_allTargets, Cond.instanceMethod yX3_allTargets, Cond.selects RX3 yX3_allTargets yX3_allTargets, Cond.initialized RX3, Cond.code yX3_allTargets cX3_allTargets 1 (some .int), Cond.fieldLink RX3 9 "SurveyHouse$Quotas" "targets" "[I", Cond.methodLink RX3 22 yX3_sumOf, Cond.static yX3_sumOf, Cond.code yX3_sumOf cX3_sumOf 6 (some .int), Cond.methodLink RX6 273 yX3_countOpen, Cond.instanceMethod yX3_countOpen, Cond.selects RX3 yX3_countOpen yX3_countOpen, Cond.code yX3_countOpen cX3_countOpen 3 (some .int), Cond.methodLink RX3 30 yX3_isOpen, Cond.instanceMethod yX3_isOpen]
def wsX6_digest_r3 : List Cond := [Cond.selects RX3 yX3_isOpen yX3_isOpen, Cond.code yX3_isOpen cX3_isOpen 2 (some .boolean), Cond.methodLink RX3 26 yX3_isOpenWith, Cond.instanceMethod yX3_isOpenWith, Cond.selects RX3 yX3_isOpenWith yX3_isOpenWith, Cond.code yX3_isOpenWith cX3_isOpenWith 5 (some .boolean), Cond.fieldLink RX3 15 "SurveyHouse$Quotas" "filled" "[I", Cond.fieldLink RX3 18 "SurveyHouse$Quotas" "edge" "I", Cond.methodLink RX6 276 yX6_countAllToAsk, Cond.instanceMethod yX6_countAllToAsk, Cond.selects RX6 yX6_countAllToAsk yX6_countAllToAsk, Cond.code yX6_countAllToAsk cX6_countAllToAsk 3 (some .int), Cond.methodLink RX6 154 yX6_countToAsk, Cond.instanceMethod yX6_countToAsk, Cond.selects RX6 yX6_countToAsk yX6_countToAsk, Cond.code yX6_countToAsk cX6_countToAsk 4 (some .int), Cond.methodLink RX6 162 yX1_cellOf, Cond.instanceMethod yX1_cellOf, Cond.selects RX1 yX1_cellOf yX1_cellOf, Cond.code yX1_cellOf cX1_cellOf 2 (some .int), Cond.fieldLink RX1 9 "SurveyHouse$Panel" "cells" "[I", Cond.methodLink RX6 177 yX6_canBeAsked, Cond.instanceMethod yX6_canBeAsked, Cond.selects RX6 yX6_canBeAsked yX6_canBeAsked]
def wsX6_digest_r4 : List Cond := [Cond.code yX6_canBeAsked cX6_canBeAsked 3 (some .boolean), Cond.methodLink RX6 181 yX1_latestOf, Cond.instanceMethod yX1_latestOf, Cond.selects RX1 yX1_latestOf yX1_latestOf, Cond.code yX1_latestOf cX1_latestOf 2 (some .int), Cond.fieldLink RX1 21 "SurveyHouse$Panel" "latest" "[I", Cond.methodLink RX6 417 yX0_isTaken, Cond.instanceMethod yX0_isTaken, Cond.selects RX0 yX0_isTaken yX0_isTaken, Cond.code yX0_isTaken cX0_isTaken 2 (some .boolean), Cond.methodLink RX6 171 yX1_fatigueIn, Cond.instanceMethod yX1_fatigueIn, Cond.selects RX1 yX1_fatigueIn yX1_fatigueIn, Cond.code yX1_fatigueIn cX1_fatigueIn 3 (some .int), Cond.fieldLink RX1 15 "SurveyHouse$Panel" "fatigue" "[I", Cond.methodLink RX1 31 Lib.Math.max.name, Cond.static Lib.Math.max.name, Cond.initialized "java/lang/Math", Cond.code Lib.Math.max.name Lib.Math.max.code 2 (some .int), Cond.methodLink RX6 148 yX3_isOpen, Cond.methodLink RX6 279 yX1_allPoints, Cond.instanceMethod yX1_allPoints, Cond.selects RX1 yX1_allPoints yX1_allPoints, Cond.code yX1_allPoints cX1_allPoints 3 (some .int)]
def wsX6_digest_r5 : List Cond := [Cond.fieldLink RX1 18 "SurveyHouse$Panel" "points" "[I", Cond.methodLink RX6 282 yX4_size, Cond.instanceMethod yX4_size, Cond.selects RX4 yX4_size yX4_size, Cond.initialized RX4, Cond.code yX4_size cX4_size 1 (some .int), Cond.fieldLink RX4 21 "SurveyHouse$Reports" "size" "I", Cond.methodLink RX6 283 yX1_today, Cond.instanceMethod yX1_today, Cond.selects RX1 yX1_today yX1_today, Cond.code yX1_today cX1_today 1 (some .int), Cond.fieldLink RX1 28 "SurveyHouse$Panel" "dayNumber" "I", Cond.methodLink RX6 357 yX6_digestCells, Cond.instanceMethod yX6_digestCells, Cond.selects RX6 yX6_digestCells yX6_digestCells, Cond.code yX6_digestCells cX6_digestCells 8 (some .long), Cond.methodLink RX6 382 yX6_ofCell, Cond.instanceMethod yX6_ofCell, Cond.selects RX6 yX6_ofCell yX6_ofCell, Cond.code yX6_ofCell cX6_ofCell 5 (some .int), Cond.methodLink RX6 123 yX6_needCell, Cond.static yX6_needCell, Cond.code yX6_needCell cX6_needCell 2 none, Cond.classLink RX6 322 "java/lang/IndexOutOfBoundsException"]
def wsX6_digest_r6 : List Cond := [Cond.initialized "java/lang/IndexOutOfBoundsException", Cond.methodLink RX6 107 yX6_isA, Cond.static yX6_isA, Cond.code yX6_isA cX6_isA 1 (some .boolean), Cond.methodLink RX6 111 yX6_isB, Cond.static yX6_isB, Cond.code yX6_isB cX6_isB 1 (some .boolean), Cond.methodLink RX6 119 yX6_cellAt, Cond.static yX6_cellAt, Cond.code yX6_cellAt cX6_cellAt 2 (some .int), Cond.methodLink RX6 128 yX3_targetOf, Cond.instanceMethod yX3_targetOf, Cond.selects RX3 yX3_targetOf yX3_targetOf, Cond.code yX3_targetOf cX3_targetOf 2 (some .int), Cond.methodLink RX6 145 yX3_filledOf, Cond.instanceMethod yX3_filledOf, Cond.selects RX3 yX3_filledOf yX3_filledOf, Cond.code yX3_filledOf cX3_filledOf 2 (some .int), Cond.methodLink RX6 151 yX1_countOf, Cond.instanceMethod yX1_countOf, Cond.selects RX1 yX1_countOf yX1_countOf, Cond.code yX1_countOf cX1_countOf 4 (some .int), Cond.methodLink RX6 361 yX6_digestPeople, Cond.instanceMethod yX6_digestPeople]
def wsX6_digest_r7 : List Cond := [Cond.selects RX6 yX6_digestPeople yX6_digestPeople, Cond.code yX6_digestPeople cX6_digestPeople 7 (some .long), Cond.methodLink RX6 385 yX6_ofPerson, Cond.instanceMethod yX6_ofPerson, Cond.selects RX6 yX6_ofPerson yX6_ofPerson, Cond.code yX6_ofPerson cX6_ofPerson 3 (some .int), Cond.methodLink RX6 159 yX6_needPerson, Cond.instanceMethod yX6_needPerson, Cond.selects RX6 yX6_needPerson yX6_needPerson, Cond.code yX6_needPerson cX6_needPerson 2 none, Cond.methodLink RX6 165 yX6_aOf, Cond.static yX6_aOf, Cond.code yX6_aOf cX6_aOf 1 (some .int), Cond.methodLink RX6 168 yX6_bOf, Cond.static yX6_bOf, Cond.code yX6_bOf cX6_bOf 1 (some .int), Cond.methodLink RX6 174 yX1_pointsOf, Cond.instanceMethod yX1_pointsOf, Cond.selects RX1 yX1_pointsOf yX1_pointsOf, Cond.code yX1_pointsOf cX1_pointsOf 2 (some .int), Cond.methodLink RX6 364 yX6_digestInterviews, Cond.instanceMethod yX6_digestInterviews, Cond.selects RX6 yX6_digestInterviews yX6_digestInterviews, Cond.code yX6_digestInterviews cX6_digestInterviews 7 (some .long)]
def wsX6_digest_r8 : List Cond := [Cond.methodLink RX6 196 yX0_size, Cond.instanceMethod yX0_size, Cond.selects RX0 yX0_size yX0_size, Cond.code yX0_size cX0_size 1 (some .int), Cond.methodLink RX6 388 yX6_ofInterview, Cond.instanceMethod yX6_ofInterview, Cond.selects RX6 yX6_ofInterview yX6_ofInterview, Cond.code yX6_ofInterview cX6_ofInterview 3 (some .int), Cond.fieldLink RX6 40 "SurveyHouse" "weights" "LSurveyHouse$Weights;", Cond.methodLink RX6 210 yX6_needInterview, Cond.instanceMethod yX6_needInterview, Cond.selects RX6 yX6_needInterview yX6_needInterview, Cond.code yX6_needInterview cX6_needInterview 2 none, Cond.methodLink RX6 240 yX0_personOf, Cond.instanceMethod yX0_personOf, Cond.selects RX0 yX0_personOf yX0_personOf, Cond.code yX0_personOf cX0_personOf 2 (some .int), Cond.fieldLink RX0 9 "SurveyHouse$Interviews" "people" "[I", Cond.methodLink RX6 213 yX0_stateOf, Cond.instanceMethod yX0_stateOf, Cond.selects RX0 yX0_stateOf yX0_stateOf, Cond.code yX0_stateOf cX0_stateOf 2 (some .int), Cond.methodLink RX6 218 yX0_placeOf, Cond.instanceMethod yX0_placeOf]
def wsX6_digest_r9 : List Cond := [Cond.selects RX0 yX0_placeOf yX0_placeOf, Cond.code yX0_placeOf cX0_placeOf 2 (some .int), Cond.fieldLink RX0 21 "SurveyHouse$Interviews" "places" "[I", Cond.methodLink RX6 232 yX0_countOf, Cond.instanceMethod yX0_countOf, Cond.selects RX0 yX0_countOf yX0_countOf, Cond.code yX0_countOf cX0_countOf 2 (some .int), Cond.fieldLink RX0 24 "SurveyHouse$Interviews" "counts" "[I", Cond.methodLink RX6 243 yX0_secondsOf, Cond.instanceMethod yX0_secondsOf, Cond.selects RX0 yX0_secondsOf yX0_secondsOf, Cond.code yX0_secondsOf cX0_secondsOf 2 (some .int), Cond.fieldLink RX0 27 "SurveyHouse$Interviews" "seconds" "[I", Cond.methodLink RX6 246 yX5_of, Cond.instanceMethod yX5_of, Cond.selects RX5 yX5_of yX5_of, Cond.initialized RX5, Cond.code yX5_of cX5_of 2 (some .int), Cond.fieldLink RX5 9 "SurveyHouse$Weights" "weights" "[I", Cond.methodLink RX6 249 yX0_isToClean, Cond.instanceMethod yX0_isToClean, Cond.selects RX0 yX0_isToClean yX0_isToClean, Cond.code yX0_isToClean cX0_isToClean 2 (some .boolean), Cond.methodLink RX0 43 yX0_isComplete]
def wsX6_digest_r10 : List Cond := [Cond.instanceMethod yX0_isComplete, Cond.selects RX0 yX0_isComplete yX0_isComplete, Cond.code yX0_isComplete cX0_isComplete 2 (some .boolean), Cond.methodLink RX0 47 yX0_isTooFast, Cond.instanceMethod yX0_isTooFast, Cond.selects RX0 yX0_isTooFast yX0_isTooFast, Cond.code yX0_isTooFast cX0_isTooFast 2 (some .boolean), Cond.methodLink RX0 50 yX0_isStraightLine, Cond.instanceMethod yX0_isStraightLine, Cond.selects RX0 yX0_isStraightLine yX0_isStraightLine, Cond.code yX0_isStraightLine cX0_isStraightLine 5 (some .boolean), Cond.methodLink RX0 56 yX0_answerTo, Cond.instanceMethod yX0_answerTo, Cond.selects RX0 yX0_answerTo yX0_answerTo, Cond.code yX0_answerTo cX0_answerTo 3 (some .int), Cond.fieldLink RX0 30 "SurveyHouse$Interviews" "answers" "[I", Cond.methodLink RX6 391 yX6_given, Cond.instanceMethod yX6_given, Cond.selects RX6 yX6_given yX6_given, Cond.code yX6_given cX6_given 3 (some .int), Cond.methodLink RX6 85 yX6_needQuestion, Cond.instanceMethod yX6_needQuestion, Cond.selects RX6 yX6_needQuestion yX6_needQuestion, Cond.code yX6_needQuestion cX6_needQuestion 2 none]
def wsX6_digest_r11 : List Cond := [Cond.methodLink RX6 402 yX2_has, Cond.instanceMethod yX2_has, Cond.selects RX2 yX2_has yX2_has, Cond.code yX2_has cX2_has 2 (some .boolean), Cond.methodLink RX6 254 yX0_answerTo, Cond.methodLink RX6 367 yX6_digestQuestions, Cond.instanceMethod yX6_digestQuestions, Cond.selects RX6 yX6_digestQuestions yX6_digestQuestions, Cond.code yX6_digestQuestions cX6_digestQuestions 7 (some .long), Cond.methodLink RX6 316 yX2_answersOf, Cond.instanceMethod yX2_answersOf, Cond.selects RX2 yX2_answersOf yX2_answersOf, Cond.code yX2_answersOf cX2_answersOf 2 (some .int), Cond.fieldLink RX2 9 "SurveyHouse$Questionnaire" "answers" "[I", Cond.methodLink RX6 394 yX6_share, Cond.instanceMethod yX6_share, Cond.selects RX6 yX6_share yX6_share, Cond.code yX6_share cX6_share 4 (some .int), Cond.methodLink RX6 81 yX6_needAnswer, Cond.instanceMethod yX6_needAnswer, Cond.selects RX6 yX6_needAnswer yX6_needAnswer, Cond.code yX6_needAnswer cX6_needAnswer 3 none, Cond.methodLink RX6 221 yX2_offers, Cond.instanceMethod yX2_offers]
def wsX6_digest_r12 : List Cond := [Cond.selects RX2 yX2_offers yX2_offers, Cond.code yX2_offers cX2_offers 3 (some .boolean), Cond.methodLink RX2 31 yX2_has, Cond.methodLink RX6 295 yX6_needA, Cond.static yX6_needA, Cond.code yX6_needA cX6_needA 1 none, Cond.methodLink RX6 298 yX5_shareOf, Cond.instanceMethod yX5_shareOf, Cond.selects RX5 yX5_shareOf yX5_shareOf, Cond.code yX5_shareOf cX5_shareOf 8 (some .int), Cond.methodLink RX5 15 yX0_size, Cond.methodLink RX5 55 yX0_isCounted, Cond.instanceMethod yX0_isCounted, Cond.selects RX0 yX0_isCounted yX0_isCounted, Cond.code yX0_isCounted cX0_isCounted 4 (some .boolean), Cond.fieldLink RX0 15 "SurveyHouse$Interviews" "cells" "[I", Cond.methodLink RX5 59 yX0_answerTo, Cond.methodLink RX6 397 yX6_shortest, Cond.instanceMethod yX6_shortest, Cond.selects RX6 yX6_shortest yX6_shortest, Cond.code yX6_shortest cX6_shortest 2 (some .int), Cond.methodLink RX6 347 yX2_stepsFrom, Cond.instanceMethod yX2_stepsFrom, Cond.selects RX2 yX2_stepsFrom yX2_stepsFrom]
def wsX6_digest_r13 : List Cond := [Cond.code yX2_stepsFrom cX2_stepsFrom 6 (some .int), Cond.fieldLink RX2 18 "SurveyHouse$Questionnaire" "steps" "[I", Cond.methodLink RX2 46 Lib.Math.min.name, Cond.static Lib.Math.min.name, Cond.code Lib.Math.min.name Lib.Math.min.code 2 (some .int), Cond.methodLink RX2 42 yX2_wayFrom, Cond.instanceMethod yX2_wayFrom, Cond.selects RX2 yX2_wayFrom yX2_wayFrom, Cond.code yX2_wayFrom cX2_wayFrom 4 (some .int), Cond.fieldLink RX2 15 "SurveyHouse$Questionnaire" "ways" "[I", Cond.methodLink RX2 38 yX2_orEnd, Cond.instanceMethod yX2_orEnd, Cond.selects RX2 yX2_orEnd yX2_orEnd, Cond.code yX2_orEnd cX2_orEnd 2 (some .int), Cond.methodLink RX6 370 yX6_next, Cond.instanceMethod yX6_next, Cond.selects RX6 yX6_next yX6_next, Cond.code yX6_next cX6_next 1 (some .int), Cond.methodLink RX6 186 yX6_firstToAsk, Cond.instanceMethod yX6_firstToAsk, Cond.selects RX6 yX6_firstToAsk yX6_firstToAsk, Cond.code yX6_firstToAsk cX6_firstToAsk 4 (some .int), Cond.methodLink RX6 420 yX6_isAhead, Cond.instanceMethod yX6_isAhead]
def wsX6_digest_r14 : List Cond := [Cond.selects RX6 yX6_isAhead yX6_isAhead, Cond.code yX6_isAhead cX6_isAhead 6 (some .boolean), Cond.methodLink RX6 423 yX3_lackOf, Cond.instanceMethod yX3_lackOf, Cond.selects RX3 yX3_lackOf yX3_lackOf, Cond.code yX3_lackOf cX3_lackOf 2 (some .int), Cond.methodLink RX6 373 yX6_off, Cond.instanceMethod yX6_off, Cond.selects RX6 yX6_off yX6_off, Cond.code yX6_off cX6_off 1 (some .int), Cond.methodLink RX6 291 yX5_farthest, Cond.instanceMethod yX5_farthest, Cond.selects RX5 yX5_farthest yX5_farthest, Cond.code yX5_farthest cX5_farthest 6 (some .int), Cond.methodLink RX5 46 Lib.Math.abs.name, Cond.static Lib.Math.abs.name, Cond.code Lib.Math.abs.name Lib.Math.abs.code 1 (some .int), Cond.methodLink RX5 51 Lib.Math.max.name, Cond.methodLink RX5 35 yX5_sumOf, Cond.instanceMethod yX5_sumOf, Cond.selects RX5 yX5_sumOf yX5_sumOf, Cond.code yX5_sumOf cX5_sumOf 5 (some .int), Cond.methodLink RX5 39 yX0_cellOf, Cond.instanceMethod yX0_cellOf]
def wsX6_digest_r15 : List Cond := [Cond.selects RX0 yX0_cellOf yX0_cellOf, Cond.code yX0_cellOf cX0_cellOf 2 (some .int), Cond.static yX6_isIn, Cond.code yX6_isIn cX6_isIn 2 (some .boolean), Cond.methodLink RX5 25 yX3_marginOf, Cond.instanceMethod yX3_marginOf, Cond.selects RX3 yX3_marginOf yX3_marginOf, Cond.code yX3_marginOf cX3_marginOf 4 (some .int), Cond.methodLink RX6 376 yX6_cleaned, Cond.instanceMethod yX6_cleaned, Cond.selects RX6 yX6_cleaned yX6_cleaned, Cond.code yX6_cleaned cX6_cleaned 4 (some .int), Cond.methodLink RX6 334 yX0_countToClean, Cond.instanceMethod yX0_countToClean, Cond.selects RX0 yX0_countToClean yX0_countToClean, Cond.code yX0_countToClean cX0_countToClean 4 (some .int), Cond.methodLink RX0 53 yX0_isToClean, Cond.methodLink RX6 337 yX3_isOpenWith, Cond.methodLink RX6 379 yX6_nextIn, Cond.instanceMethod yX6_nextIn, Cond.selects RX6 yX6_nextIn yX6_nextIn, Cond.code yX6_nextIn cX6_nextIn 2 (some .int)]
def wsX6_digest : List Cond := .code yX6_digest cX6_digest 4 (some .long) :: ((wsX6_digest_r1 ++ (wsX6_digest_r2 ++ (wsX6_digest_r3 ++ (wsX6_digest_r4 ++ (wsX6_digest_r5 ++ (wsX6_digest_r6 ++ (wsX6_digest_r7 ++ (wsX6_digest_r8 ++ (wsX6_digest_r9 ++ (wsX6_digest_r10 ++ (wsX6_digest_r11 ++ (wsX6_digest_r12 ++ (wsX6_digest_r13 ++ (wsX6_digest_r14 ++ wsX6_digest_r15)))))))))))))) ++ wsX60 ++ wsX20 ++ wsX10 ++ wsX00 ++ wsX30 ++ wsX40 ++ wsX50 ++ (vx_atS RX6 62 "java/lang/IllegalArgumentException" ["java/lang/RuntimeException", "java/lang/Exception"]).filter goodWord ++ (vx_atS RX6 326 "java/lang/IndexOutOfBoundsException" ["java/lang/RuntimeException", "java/lang/Exception"]).filter goodWord)
def wsJ9_abs_0f7a4 : List Cond := .code yJ9_abs_0f7a4 cJ9_abs_0f7a4 1 (some .int) :: ([])
def wsJ9_max_7cf53 : List Cond := .code yJ9_max_7cf53 cJ9_max_7cf53 2 (some .int) :: ([])
def wsJ9_min_7cf53 : List Cond := .code yJ9_min_7cf53 cJ9_min_7cf53 2 (some .int) :: ([])
def wsL_below : List Cond := .code yL_below cL_below 2 (some .int) :: ([.constant RL 7 (2147483647)])
def wsL_cell : List Cond := .code yL_cell cL_cell 2 (some .int) :: ([.constant RL 8 (790386105)])
def wsL_interviews_r1 : List Cond := [Cond.methodLink RL 50 yX6_many, Cond.instanceMethod yX6_many, Cond.selects RX6 yX6_many yX6_many, Cond.initialized RX6, Cond.code yX6_many cX6_many 2 (some .int), Cond.classLink RX6 58 "java/lang/IllegalArgumentException", Cond.initialized "java/lang/IllegalArgumentException", Cond.fieldLink RX6 12 "SurveyHouse" "form" "LSurveyHouse$Questionnaire;", Cond.fieldLink RX6 26 "SurveyHouse" "panel" "LSurveyHouse$Panel;", Cond.fieldLink RX6 33 "SurveyHouse" "interviews" "LSurveyHouse$Interviews;", Cond.fieldLink RX6 19 "SurveyHouse" "quotas" "LSurveyHouse$Quotas;", Cond.fieldLink RX6 50 "SurveyHouse" "reports" "LSurveyHouse$Reports;", Cond.methodLink RX6 65 yX2_size, Cond.instanceMethod yX2_size, Cond.selects RX2 yX2_size yX2_size, Cond.initialized RX2, Cond.code yX2_size cX2_size 1 (some .int), Cond.fieldLink RX2 27 "SurveyHouse$Questionnaire" "size" "I", Cond.methodLink RX6 116 yX1_size, Cond.instanceMethod yX1_size, Cond.selects RX1 yX1_size yX1_size, Cond.initialized RX1, Cond.code yX1_size cX1_size 1 (some .int), Cond.fieldLink RX1 24 "SurveyHouse$Panel" "size" "I"]
def wsL_interviews_r2 : List Cond := [Cond.methodLink RX6 267 yX0_countIn, Cond.instanceMethod yX0_countIn, Cond.selects RX0 yX0_countIn yX0_countIn, Cond.initialized RX0, Cond.code yX0_countIn cX0_countIn 4 (some .int), Cond.fieldLink RX0 39 "SurveyHouse$Interviews" "size" "I", Cond.fieldLink RX0 18 "SurveyHouse$Interviews" "states" "[I", Cond.methodLink RX6 270 yX3_allTargets, Cond.instanceMethod yX3_allTargets, Cond.selects RX3 yX3_allTargets yX3_allTargets, Cond.initialized RX3, Cond.code yX3_allTargets cX3_allTargets 1 (some .int), Cond.fieldLink RX3 9 "SurveyHouse$Quotas" "targets" "[I", Cond.methodLink RX3 22 yX3_sumOf, Cond.static yX3_sumOf, Cond.code yX3_sumOf cX3_sumOf 6 (some .int), Cond.methodLink RX6 273 yX3_countOpen, Cond.instanceMethod yX3_countOpen, Cond.selects RX3 yX3_countOpen yX3_countOpen, Cond.code yX3_countOpen cX3_countOpen 3 (some .int), Cond.methodLink RX3 30 yX3_isOpen, Cond.instanceMethod yX3_isOpen, Cond.selects RX3 yX3_isOpen yX3_isOpen, Cond.code yX3_isOpen cX3_isOpen 2 (some .boolean)]
def wsL_interviews_r3 : List Cond := [Cond.methodLink RX3 26 yX3_isOpenWith, Cond.instanceMethod yX3_isOpenWith, Cond.selects RX3 yX3_isOpenWith yX3_isOpenWith, Cond.code yX3_isOpenWith cX3_isOpenWith 5 (some .boolean), Cond.fieldLink RX3 15 "SurveyHouse$Quotas" "filled" "[I", Cond.fieldLink RX3 18 "SurveyHouse$Quotas" "edge" "I", Cond.methodLink RX6 276 yX6_countAllToAsk, Cond.instanceMethod yX6_countAllToAsk, Cond.selects RX6 yX6_countAllToAsk yX6_countAllToAsk, Cond.code yX6_countAllToAsk cX6_countAllToAsk 3 (some .int), Cond.methodLink RX6 154 yX6_countToAsk, Cond.instanceMethod yX6_countToAsk, Cond.selects RX6 yX6_countToAsk yX6_countToAsk, Cond.code yX6_countToAsk cX6_countToAsk 4 (some .int), Cond.methodLink RX6 162 yX1_cellOf, Cond.instanceMethod yX1_cellOf, Cond.selects RX1 yX1_cellOf yX1_cellOf, Cond.code yX1_cellOf cX1_cellOf 2 (some .int), Cond.fieldLink RX1 9 "SurveyHouse$Panel" "cells" "[I", Cond.methodLink RX6 177 yX6_canBeAsked, Cond.instanceMethod yX6_canBeAsked, Cond.selects RX6 yX6_canBeAsked yX6_canBeAsked, Cond.code yX6_canBeAsked cX6_canBeAsked 3 (some .boolean), Cond.methodLink RX6 181 yX1_latestOf]
def wsL_interviews_r4 : List Cond := [Cond.instanceMethod yX1_latestOf, Cond.selects RX1 yX1_latestOf yX1_latestOf, Cond.code yX1_latestOf cX1_latestOf 2 (some .int), Cond.fieldLink RX1 21 "SurveyHouse$Panel" "latest" "[I", Cond.methodLink RX6 417 yX0_isTaken, Cond.instanceMethod yX0_isTaken, Cond.selects RX0 yX0_isTaken yX0_isTaken, Cond.code yX0_isTaken cX0_isTaken 2 (some .boolean), Cond.methodLink RX6 171 yX1_fatigueIn, Cond.instanceMethod yX1_fatigueIn, Cond.selects RX1 yX1_fatigueIn yX1_fatigueIn, Cond.code yX1_fatigueIn cX1_fatigueIn 3 (some .int), Cond.fieldLink RX1 15 "SurveyHouse$Panel" "fatigue" "[I", Cond.methodLink RX1 31 Lib.Math.max.name, Cond.static Lib.Math.max.name, Cond.initialized "java/lang/Math", Cond.code Lib.Math.max.name Lib.Math.max.code 2 (some .int), Cond.methodLink RX6 148 yX3_isOpen, Cond.methodLink RX6 279 yX1_allPoints, Cond.instanceMethod yX1_allPoints, Cond.selects RX1 yX1_allPoints yX1_allPoints, Cond.code yX1_allPoints cX1_allPoints 3 (some .int), Cond.fieldLink RX1 18 "SurveyHouse$Panel" "points" "[I", Cond.methodLink RX6 282 yX4_size]
def wsL_interviews_r5 : List Cond := [Cond.instanceMethod yX4_size, Cond.selects RX4 yX4_size yX4_size, Cond.initialized RX4, Cond.code yX4_size cX4_size 1 (some .int), Cond.fieldLink RX4 21 "SurveyHouse$Reports" "size" "I", Cond.methodLink RX6 283 yX1_today, Cond.instanceMethod yX1_today, Cond.selects RX1 yX1_today yX1_today, Cond.code yX1_today cX1_today 1 (some .int), Cond.fieldLink RX1 28 "SurveyHouse$Panel" "dayNumber" "I"]
def wsL_interviews : List Cond := .code yL_interviews cL_interviews 1 (some .int) :: ((wsL_interviews_r1 ++ (wsL_interviews_r2 ++ (wsL_interviews_r3 ++ (wsL_interviews_r4 ++ wsL_interviews_r5)))) ++ wsX60 ++ wsX20 ++ wsX10 ++ wsX00 ++ wsX30 ++ wsX40 ++ (vx_atS RX6 62 "java/lang/IllegalArgumentException" ["java/lang/RuntimeException", "java/lang/Exception"]).filter goodWord)
def wsL_running_r1 : List Cond := [Cond.methodLink RL 53 yL_interviews, Cond.static yL_interviews, Cond.initialized RL, Cond.code yL_interviews cL_interviews 1 (some .int), Cond.methodLink RL 50 yX6_many, Cond.instanceMethod yX6_many, Cond.selects RX6 yX6_many yX6_many, Cond.initialized RX6, Cond.code yX6_many cX6_many 2 (some .int), Cond.classLink RX6 58 "java/lang/IllegalArgumentException", Cond.initialized "java/lang/IllegalArgumentException", Cond.fieldLink RX6 12 "SurveyHouse" "form" "LSurveyHouse$Questionnaire;", Cond.fieldLink RX6 26 "SurveyHouse" "panel" "LSurveyHouse$Panel;", Cond.fieldLink RX6 33 "SurveyHouse" "interviews" "LSurveyHouse$Interviews;", Cond.fieldLink RX6 19 "SurveyHouse" "quotas" "LSurveyHouse$Quotas;", Cond.fieldLink RX6 50 "SurveyHouse" "reports" "LSurveyHouse$Reports;", Cond.methodLink RX6 65 yX2_size, Cond.instanceMethod yX2_size, Cond.selects RX2 yX2_size yX2_size, Cond.initialized RX2, Cond.code yX2_size cX2_size 1 (some .int), Cond.fieldLink RX2 27 "SurveyHouse$Questionnaire" "size" "I", Cond.methodLink RX6 116 yX1_size, Cond.instanceMethod yX1_size]
def wsL_running_r2 : List Cond := [Cond.selects RX1 yX1_size yX1_size, Cond.initialized RX1, Cond.code yX1_size cX1_size 1 (some .int), Cond.fieldLink RX1 24 "SurveyHouse$Panel" "size" "I", Cond.methodLink RX6 267 yX0_countIn, Cond.instanceMethod yX0_countIn, Cond.selects RX0 yX0_countIn yX0_countIn, Cond.initialized RX0, Cond.code yX0_countIn cX0_countIn 4 (some .int), Cond.fieldLink RX0 39 "SurveyHouse$Interviews" "size" "I", Cond.fieldLink RX0 18 "SurveyHouse$Interviews" "states" "[I", Cond.methodLink RX6 270 yX3_allTargets, Cond.instanceMethod yX3_allTargets, Cond.selects RX3 yX3_allTargets yX3_allTargets, Cond.initialized RX3, Cond.code yX3_allTargets cX3_allTargets 1 (some .int), Cond.fieldLink RX3 9 "SurveyHouse$Quotas" "targets" "[I", Cond.methodLink RX3 22 yX3_sumOf, Cond.static yX3_sumOf, Cond.code yX3_sumOf cX3_sumOf 6 (some .int), Cond.methodLink RX6 273 yX3_countOpen, Cond.instanceMethod yX3_countOpen, Cond.selects RX3 yX3_countOpen yX3_countOpen, Cond.code yX3_countOpen cX3_countOpen 3 (some .int)]
def wsL_running_r3 : List Cond := [Cond.methodLink RX3 30 yX3_isOpen, Cond.instanceMethod yX3_isOpen, Cond.selects RX3 yX3_isOpen yX3_isOpen, Cond.code yX3_isOpen cX3_isOpen 2 (some .boolean), Cond.methodLink RX3 26 yX3_isOpenWith, Cond.instanceMethod yX3_isOpenWith, Cond.selects RX3 yX3_isOpenWith yX3_isOpenWith, Cond.code yX3_isOpenWith cX3_isOpenWith 5 (some .boolean), Cond.fieldLink RX3 15 "SurveyHouse$Quotas" "filled" "[I", Cond.fieldLink RX3 18 "SurveyHouse$Quotas" "edge" "I", Cond.methodLink RX6 276 yX6_countAllToAsk, Cond.instanceMethod yX6_countAllToAsk, Cond.selects RX6 yX6_countAllToAsk yX6_countAllToAsk, Cond.code yX6_countAllToAsk cX6_countAllToAsk 3 (some .int), Cond.methodLink RX6 154 yX6_countToAsk, Cond.instanceMethod yX6_countToAsk, Cond.selects RX6 yX6_countToAsk yX6_countToAsk, Cond.code yX6_countToAsk cX6_countToAsk 4 (some .int), Cond.methodLink RX6 162 yX1_cellOf, Cond.instanceMethod yX1_cellOf, Cond.selects RX1 yX1_cellOf yX1_cellOf, Cond.code yX1_cellOf cX1_cellOf 2 (some .int), Cond.fieldLink RX1 9 "SurveyHouse$Panel" "cells" "[I", Cond.methodLink RX6 177 yX6_canBeAsked]
def wsL_running_r4 : List Cond := [Cond.instanceMethod yX6_canBeAsked, Cond.selects RX6 yX6_canBeAsked yX6_canBeAsked, Cond.code yX6_canBeAsked cX6_canBeAsked 3 (some .boolean), Cond.methodLink RX6 181 yX1_latestOf, Cond.instanceMethod yX1_latestOf, Cond.selects RX1 yX1_latestOf yX1_latestOf, Cond.code yX1_latestOf cX1_latestOf 2 (some .int), Cond.fieldLink RX1 21 "SurveyHouse$Panel" "latest" "[I", Cond.methodLink RX6 417 yX0_isTaken, Cond.instanceMethod yX0_isTaken, Cond.selects RX0 yX0_isTaken yX0_isTaken, Cond.code yX0_isTaken cX0_isTaken 2 (some .boolean), Cond.methodLink RX6 171 yX1_fatigueIn, Cond.instanceMethod yX1_fatigueIn, Cond.selects RX1 yX1_fatigueIn yX1_fatigueIn, Cond.code yX1_fatigueIn cX1_fatigueIn 3 (some .int), Cond.fieldLink RX1 15 "SurveyHouse$Panel" "fatigue" "[I", Cond.methodLink RX1 31 Lib.Math.max.name, Cond.static Lib.Math.max.name, Cond.initialized "java/lang/Math", Cond.code Lib.Math.max.name Lib.Math.max.code 2 (some .int), Cond.methodLink RX6 148 yX3_isOpen, Cond.methodLink RX6 279 yX1_allPoints, Cond.instanceMethod yX1_allPoints]
def wsL_running_r5 : List Cond := [Cond.selects RX1 yX1_allPoints yX1_allPoints, Cond.code yX1_allPoints cX1_allPoints 3 (some .int), Cond.fieldLink RX1 18 "SurveyHouse$Panel" "points" "[I", Cond.methodLink RX6 282 yX4_size, Cond.instanceMethod yX4_size, Cond.selects RX4 yX4_size yX4_size, Cond.initialized RX4, Cond.code yX4_size cX4_size 1 (some .int), Cond.fieldLink RX4 21 "SurveyHouse$Reports" "size" "I", Cond.methodLink RX6 283 yX1_today, Cond.instanceMethod yX1_today, Cond.selects RX1 yX1_today yX1_today, Cond.code yX1_today cX1_today 1 (some .int), Cond.fieldLink RX1 28 "SurveyHouse$Panel" "dayNumber" "I", Cond.methodLink RL 56 yX6_ofInterview, Cond.instanceMethod yX6_ofInterview, Cond.selects RX6 yX6_ofInterview yX6_ofInterview, Cond.code yX6_ofInterview cX6_ofInterview 3 (some .int), Cond.fieldLink RX6 40 "SurveyHouse" "weights" "LSurveyHouse$Weights;", Cond.methodLink RX6 210 yX6_needInterview, Cond.instanceMethod yX6_needInterview, Cond.selects RX6 yX6_needInterview yX6_needInterview, Cond.code yX6_needInterview cX6_needInterview 2 none, Cond.classLink RX6 322 "java/lang/IndexOutOfBoundsException"]
def wsL_running_r6 : List Cond := [Cond.initialized "java/lang/IndexOutOfBoundsException", Cond.methodLink RX6 196 yX0_size, Cond.instanceMethod yX0_size, Cond.selects RX0 yX0_size yX0_size, Cond.code yX0_size cX0_size 1 (some .int), Cond.methodLink RX6 240 yX0_personOf, Cond.instanceMethod yX0_personOf, Cond.selects RX0 yX0_personOf yX0_personOf, Cond.code yX0_personOf cX0_personOf 2 (some .int), Cond.fieldLink RX0 9 "SurveyHouse$Interviews" "people" "[I", Cond.methodLink RX6 213 yX0_stateOf, Cond.instanceMethod yX0_stateOf, Cond.selects RX0 yX0_stateOf yX0_stateOf, Cond.code yX0_stateOf cX0_stateOf 2 (some .int), Cond.methodLink RX6 218 yX0_placeOf, Cond.instanceMethod yX0_placeOf, Cond.selects RX0 yX0_placeOf yX0_placeOf, Cond.code yX0_placeOf cX0_placeOf 2 (some .int), Cond.fieldLink RX0 21 "SurveyHouse$Interviews" "places" "[I", Cond.methodLink RX6 232 yX0_countOf, Cond.instanceMethod yX0_countOf, Cond.selects RX0 yX0_countOf yX0_countOf, Cond.code yX0_countOf cX0_countOf 2 (some .int), Cond.fieldLink RX0 24 "SurveyHouse$Interviews" "counts" "[I"]
def wsL_running_r7 : List Cond := [Cond.methodLink RX6 243 yX0_secondsOf, Cond.instanceMethod yX0_secondsOf, Cond.selects RX0 yX0_secondsOf yX0_secondsOf, Cond.code yX0_secondsOf cX0_secondsOf 2 (some .int), Cond.fieldLink RX0 27 "SurveyHouse$Interviews" "seconds" "[I", Cond.methodLink RX6 246 yX5_of, Cond.instanceMethod yX5_of, Cond.selects RX5 yX5_of yX5_of, Cond.initialized RX5, Cond.code yX5_of cX5_of 2 (some .int), Cond.fieldLink RX5 9 "SurveyHouse$Weights" "weights" "[I", Cond.methodLink RX6 249 yX0_isToClean, Cond.instanceMethod yX0_isToClean, Cond.selects RX0 yX0_isToClean yX0_isToClean, Cond.code yX0_isToClean cX0_isToClean 2 (some .boolean), Cond.methodLink RX0 43 yX0_isComplete, Cond.instanceMethod yX0_isComplete, Cond.selects RX0 yX0_isComplete yX0_isComplete, Cond.code yX0_isComplete cX0_isComplete 2 (some .boolean), Cond.methodLink RX0 47 yX0_isTooFast, Cond.instanceMethod yX0_isTooFast, Cond.selects RX0 yX0_isTooFast yX0_isTooFast, Cond.code yX0_isTooFast cX0_isTooFast 2 (some .boolean), Cond.methodLink RX0 50 yX0_isStraightLine]
def wsL_running_r8 : List Cond := [Cond.instanceMethod yX0_isStraightLine, Cond.selects RX0 yX0_isStraightLine yX0_isStraightLine, Cond.code yX0_isStraightLine cX0_isStraightLine 5 (some .boolean), Cond.methodLink RX0 56 yX0_answerTo, Cond.instanceMethod yX0_answerTo, Cond.selects RX0 yX0_answerTo yX0_answerTo, Cond.code yX0_answerTo cX0_answerTo 3 (some .int), Cond.fieldLink RX0 30 "SurveyHouse$Interviews" "answers" "[I"]
def wsL_running : List Cond := .code yL_running cL_running 2 (some .int) :: ((wsL_running_r1 ++ (wsL_running_r2 ++ (wsL_running_r3 ++ (wsL_running_r4 ++ (wsL_running_r5 ++ (wsL_running_r6 ++ (wsL_running_r7 ++ wsL_running_r8))))))) ++ wsX60 ++ wsX20 ++ wsX10 ++ wsX00 ++ wsX30 ++ wsX40 ++ wsX50 ++ (vx_atS RX6 62 "java/lang/IllegalArgumentException" ["java/lang/RuntimeException", "java/lang/Exception"]).filter goodWord ++ (vx_atS RX6 326 "java/lang/IndexOutOfBoundsException" ["java/lang/RuntimeException", "java/lang/Exception"]).filter goodWord)
def wsL_lacks_r1 : List Cond := [Cond.methodLink RL 81 yX6_ofPerson, Cond.instanceMethod yX6_ofPerson, Cond.selects RX6 yX6_ofPerson yX6_ofPerson, Cond.initialized RX6, Cond.code yX6_ofPerson cX6_ofPerson 3 (some .int), Cond.classLink RX6 58 "java/lang/IllegalArgumentException", Cond.initialized "java/lang/IllegalArgumentException", Cond.fieldLink RX6 26 "SurveyHouse" "panel" "LSurveyHouse$Panel;", Cond.methodLink RX6 159 yX6_needPerson, Cond.instanceMethod yX6_needPerson, Cond.selects RX6 yX6_needPerson yX6_needPerson, Cond.code yX6_needPerson cX6_needPerson 2 none, Cond.classLink RX6 322 "java/lang/IndexOutOfBoundsException", Cond.initialized "java/lang/IndexOutOfBoundsException", Cond.methodLink RX6 116 yX1_size, Cond.instanceMethod yX1_size, Cond.selects RX1 yX1_size yX1_size, Cond.initialized RX1, Cond.code yX1_size cX1_size 1 (some .int), Cond.fieldLink RX1 24 "SurveyHouse$Panel" "size" "I", Cond.methodLink RX6 162 yX1_cellOf, Cond.instanceMethod yX1_cellOf, Cond.selects RX1 yX1_cellOf yX1_cellOf, Cond.code yX1_cellOf cX1_cellOf 2 (some .int)]
def wsL_lacks_r2 : List Cond := [Cond.fieldLink RX1 9 "SurveyHouse$Panel" "cells" "[I", Cond.methodLink RX6 165 yX6_aOf, Cond.static yX6_aOf, Cond.code yX6_aOf cX6_aOf 1 (some .int), Cond.methodLink RX6 168 yX6_bOf, Cond.static yX6_bOf, Cond.code yX6_bOf cX6_bOf 1 (some .int), Cond.methodLink RX6 171 yX1_fatigueIn, Cond.instanceMethod yX1_fatigueIn, Cond.selects RX1 yX1_fatigueIn yX1_fatigueIn, Cond.code yX1_fatigueIn cX1_fatigueIn 3 (some .int), Cond.fieldLink RX1 15 "SurveyHouse$Panel" "fatigue" "[I", Cond.methodLink RX1 31 Lib.Math.max.name, Cond.static Lib.Math.max.name, Cond.initialized "java/lang/Math", Cond.code Lib.Math.max.name Lib.Math.max.code 2 (some .int), Cond.methodLink RX6 174 yX1_pointsOf, Cond.instanceMethod yX1_pointsOf, Cond.selects RX1 yX1_pointsOf yX1_pointsOf, Cond.code yX1_pointsOf cX1_pointsOf 2 (some .int), Cond.fieldLink RX1 18 "SurveyHouse$Panel" "points" "[I", Cond.methodLink RX6 177 yX6_canBeAsked, Cond.instanceMethod yX6_canBeAsked, Cond.selects RX6 yX6_canBeAsked yX6_canBeAsked]
def wsL_lacks_r3 : List Cond := [Cond.code yX6_canBeAsked cX6_canBeAsked 3 (some .boolean), Cond.fieldLink RX6 33 "SurveyHouse" "interviews" "LSurveyHouse$Interviews;", Cond.fieldLink RX6 19 "SurveyHouse" "quotas" "LSurveyHouse$Quotas;", Cond.methodLink RX6 181 yX1_latestOf, Cond.instanceMethod yX1_latestOf, Cond.selects RX1 yX1_latestOf yX1_latestOf, Cond.code yX1_latestOf cX1_latestOf 2 (some .int), Cond.fieldLink RX1 21 "SurveyHouse$Panel" "latest" "[I", Cond.methodLink RX6 417 yX0_isTaken, Cond.instanceMethod yX0_isTaken, Cond.selects RX0 yX0_isTaken yX0_isTaken, Cond.initialized RX0, Cond.code yX0_isTaken cX0_isTaken 2 (some .boolean), Cond.fieldLink RX0 39 "SurveyHouse$Interviews" "size" "I", Cond.fieldLink RX0 18 "SurveyHouse$Interviews" "states" "[I", Cond.methodLink RX6 148 yX3_isOpen, Cond.instanceMethod yX3_isOpen, Cond.selects RX3 yX3_isOpen yX3_isOpen, Cond.initialized RX3, Cond.code yX3_isOpen cX3_isOpen 2 (some .boolean), Cond.methodLink RX3 26 yX3_isOpenWith, Cond.instanceMethod yX3_isOpenWith, Cond.selects RX3 yX3_isOpenWith yX3_isOpenWith, Cond.code yX3_isOpenWith cX3_isOpenWith 5 (some .boolean)]
def wsL_lacks_r4 : List Cond := [Cond.fieldLink RX3 15 "SurveyHouse$Quotas" "filled" "[I", Cond.fieldLink RX3 9 "SurveyHouse$Quotas" "targets" "[I", Cond.fieldLink RX3 18 "SurveyHouse$Quotas" "edge" "I", Cond.methodLink RX3 22 yX3_sumOf, Cond.static yX3_sumOf, Cond.code yX3_sumOf cX3_sumOf 6 (some .int), Cond.methodLink RL 110 yX6_ofCell, Cond.instanceMethod yX6_ofCell, Cond.selects RX6 yX6_ofCell yX6_ofCell, Cond.code yX6_ofCell cX6_ofCell 5 (some .int), Cond.methodLink RX6 123 yX6_needCell, Cond.static yX6_needCell, Cond.code yX6_needCell cX6_needCell 2 none, Cond.methodLink RX6 107 yX6_isA, Cond.static yX6_isA, Cond.code yX6_isA cX6_isA 1 (some .boolean), Cond.methodLink RX6 111 yX6_isB, Cond.static yX6_isB, Cond.code yX6_isB cX6_isB 1 (some .boolean), Cond.methodLink RX6 119 yX6_cellAt, Cond.static yX6_cellAt, Cond.code yX6_cellAt cX6_cellAt 2 (some .int), Cond.methodLink RX6 128 yX3_targetOf, Cond.instanceMethod yX3_targetOf]
def wsL_lacks_r5 : List Cond := [Cond.selects RX3 yX3_targetOf yX3_targetOf, Cond.code yX3_targetOf cX3_targetOf 2 (some .int), Cond.methodLink RX6 145 yX3_filledOf, Cond.instanceMethod yX3_filledOf, Cond.selects RX3 yX3_filledOf yX3_filledOf, Cond.code yX3_filledOf cX3_filledOf 2 (some .int), Cond.methodLink RX6 151 yX1_countOf, Cond.instanceMethod yX1_countOf, Cond.selects RX1 yX1_countOf yX1_countOf, Cond.code yX1_countOf cX1_countOf 4 (some .int), Cond.methodLink RX6 154 yX6_countToAsk, Cond.instanceMethod yX6_countToAsk, Cond.selects RX6 yX6_countToAsk yX6_countToAsk, Cond.code yX6_countToAsk cX6_countToAsk 4 (some .int)]
def wsL_lacks : List Cond := .code yL_lacks cL_lacks 2 (some .int) :: ((wsL_lacks_r1 ++ (wsL_lacks_r2 ++ (wsL_lacks_r3 ++ (wsL_lacks_r4 ++ wsL_lacks_r5)))) ++ wsX60 ++ wsX10 ++ wsX00 ++ wsX30 ++ (vx_atS RX6 62 "java/lang/IllegalArgumentException" ["java/lang/RuntimeException", "java/lang/Exception"]).filter goodWord ++ (vx_atS RX6 326 "java/lang/IndexOutOfBoundsException" ["java/lang/RuntimeException", "java/lang/Exception"]).filter goodWord)
def wsL_isNext_r1 : List Cond := [Cond.methodLink RL 81 yX6_ofPerson, Cond.instanceMethod yX6_ofPerson, Cond.selects RX6 yX6_ofPerson yX6_ofPerson, Cond.initialized RX6, Cond.code yX6_ofPerson cX6_ofPerson 3 (some .int), Cond.classLink RX6 58 "java/lang/IllegalArgumentException", Cond.initialized "java/lang/IllegalArgumentException", Cond.fieldLink RX6 26 "SurveyHouse" "panel" "LSurveyHouse$Panel;", Cond.methodLink RX6 159 yX6_needPerson, Cond.instanceMethod yX6_needPerson, Cond.selects RX6 yX6_needPerson yX6_needPerson, Cond.code yX6_needPerson cX6_needPerson 2 none, Cond.classLink RX6 322 "java/lang/IndexOutOfBoundsException", Cond.initialized "java/lang/IndexOutOfBoundsException", Cond.methodLink RX6 116 yX1_size, Cond.instanceMethod yX1_size, Cond.selects RX1 yX1_size yX1_size, Cond.initialized RX1, Cond.code yX1_size cX1_size 1 (some .int), Cond.fieldLink RX1 24 "SurveyHouse$Panel" "size" "I", Cond.methodLink RX6 162 yX1_cellOf, Cond.instanceMethod yX1_cellOf, Cond.selects RX1 yX1_cellOf yX1_cellOf, Cond.code yX1_cellOf cX1_cellOf 2 (some .int)]
def wsL_isNext_r2 : List Cond := [Cond.fieldLink RX1 9 "SurveyHouse$Panel" "cells" "[I", Cond.methodLink RX6 165 yX6_aOf, Cond.static yX6_aOf, Cond.code yX6_aOf cX6_aOf 1 (some .int), Cond.methodLink RX6 168 yX6_bOf, Cond.static yX6_bOf, Cond.code yX6_bOf cX6_bOf 1 (some .int), Cond.methodLink RX6 171 yX1_fatigueIn, Cond.instanceMethod yX1_fatigueIn, Cond.selects RX1 yX1_fatigueIn yX1_fatigueIn, Cond.code yX1_fatigueIn cX1_fatigueIn 3 (some .int), Cond.fieldLink RX1 15 "SurveyHouse$Panel" "fatigue" "[I", Cond.methodLink RX1 31 Lib.Math.max.name, Cond.static Lib.Math.max.name, Cond.initialized "java/lang/Math", Cond.code Lib.Math.max.name Lib.Math.max.code 2 (some .int), Cond.methodLink RX6 174 yX1_pointsOf, Cond.instanceMethod yX1_pointsOf, Cond.selects RX1 yX1_pointsOf yX1_pointsOf, Cond.code yX1_pointsOf cX1_pointsOf 2 (some .int), Cond.fieldLink RX1 18 "SurveyHouse$Panel" "points" "[I", Cond.methodLink RX6 177 yX6_canBeAsked, Cond.instanceMethod yX6_canBeAsked, Cond.selects RX6 yX6_canBeAsked yX6_canBeAsked]
def wsL_isNext_r3 : List Cond := [Cond.code yX6_canBeAsked cX6_canBeAsked 3 (some .boolean), Cond.fieldLink RX6 33 "SurveyHouse" "interviews" "LSurveyHouse$Interviews;", Cond.fieldLink RX6 19 "SurveyHouse" "quotas" "LSurveyHouse$Quotas;", Cond.methodLink RX6 181 yX1_latestOf, Cond.instanceMethod yX1_latestOf, Cond.selects RX1 yX1_latestOf yX1_latestOf, Cond.code yX1_latestOf cX1_latestOf 2 (some .int), Cond.fieldLink RX1 21 "SurveyHouse$Panel" "latest" "[I", Cond.methodLink RX6 417 yX0_isTaken, Cond.instanceMethod yX0_isTaken, Cond.selects RX0 yX0_isTaken yX0_isTaken, Cond.initialized RX0, Cond.code yX0_isTaken cX0_isTaken 2 (some .boolean), Cond.fieldLink RX0 39 "SurveyHouse$Interviews" "size" "I", Cond.fieldLink RX0 18 "SurveyHouse$Interviews" "states" "[I", Cond.methodLink RX6 148 yX3_isOpen, Cond.instanceMethod yX3_isOpen, Cond.selects RX3 yX3_isOpen yX3_isOpen, Cond.initialized RX3, Cond.code yX3_isOpen cX3_isOpen 2 (some .boolean), Cond.methodLink RX3 26 yX3_isOpenWith, Cond.instanceMethod yX3_isOpenWith, Cond.selects RX3 yX3_isOpenWith yX3_isOpenWith, Cond.code yX3_isOpenWith cX3_isOpenWith 5 (some .boolean)]
def wsL_isNext_r4 : List Cond := [Cond.fieldLink RX3 15 "SurveyHouse$Quotas" "filled" "[I", Cond.fieldLink RX3 9 "SurveyHouse$Quotas" "targets" "[I", Cond.fieldLink RX3 18 "SurveyHouse$Quotas" "edge" "I", Cond.methodLink RX3 22 yX3_sumOf, Cond.static yX3_sumOf, Cond.code yX3_sumOf cX3_sumOf 6 (some .int), Cond.methodLink RL 113 yL_lacks, Cond.static yL_lacks, Cond.initialized RL, Cond.code yL_lacks cL_lacks 2 (some .int), Cond.methodLink RL 110 yX6_ofCell, Cond.instanceMethod yX6_ofCell, Cond.selects RX6 yX6_ofCell yX6_ofCell, Cond.code yX6_ofCell cX6_ofCell 5 (some .int), Cond.methodLink RX6 123 yX6_needCell, Cond.static yX6_needCell, Cond.code yX6_needCell cX6_needCell 2 none, Cond.methodLink RX6 107 yX6_isA, Cond.static yX6_isA, Cond.code yX6_isA cX6_isA 1 (some .boolean), Cond.methodLink RX6 111 yX6_isB, Cond.static yX6_isB, Cond.code yX6_isB cX6_isB 1 (some .boolean), Cond.methodLink RX6 119 yX6_cellAt]
def wsL_isNext_r5 : List Cond := [Cond.static yX6_cellAt, Cond.code yX6_cellAt cX6_cellAt 2 (some .int), Cond.methodLink RX6 128 yX3_targetOf, Cond.instanceMethod yX3_targetOf, Cond.selects RX3 yX3_targetOf yX3_targetOf, Cond.code yX3_targetOf cX3_targetOf 2 (some .int), Cond.methodLink RX6 145 yX3_filledOf, Cond.instanceMethod yX3_filledOf, Cond.selects RX3 yX3_filledOf yX3_filledOf, Cond.code yX3_filledOf cX3_filledOf 2 (some .int), Cond.methodLink RX6 151 yX1_countOf, Cond.instanceMethod yX1_countOf, Cond.selects RX1 yX1_countOf yX1_countOf, Cond.code yX1_countOf cX1_countOf 4 (some .int), Cond.methodLink RX6 154 yX6_countToAsk, Cond.instanceMethod yX6_countToAsk, Cond.selects RX6 yX6_countToAsk yX6_countToAsk, Cond.code yX6_countToAsk cX6_countToAsk 4 (some .int)]
def wsL_isNext : List Cond := .code yL_isNext cL_isNext 5 (some .boolean) :: ((wsL_isNext_r1 ++ (wsL_isNext_r2 ++ (wsL_isNext_r3 ++ (wsL_isNext_r4 ++ wsL_isNext_r5)))) ++ wsX60 ++ wsX10 ++ wsX00 ++ wsX30 ++ (vx_atS RX6 62 "java/lang/IllegalArgumentException" ["java/lang/RuntimeException", "java/lang/Exception"]).filter goodWord ++ (vx_atS RX6 326 "java/lang/IndexOutOfBoundsException" ["java/lang/RuntimeException", "java/lang/Exception"]).filter goodWord)
def wsL_isFair_r1 : List Cond := [Cond.arrayClass .int, Cond.methodLink RL 53 yL_interviews, Cond.static yL_interviews, Cond.initialized RL, Cond.code yL_interviews cL_interviews 1 (some .int), Cond.methodLink RL 50 yX6_many, Cond.instanceMethod yX6_many, Cond.selects RX6 yX6_many yX6_many, Cond.initialized RX6, Cond.code yX6_many cX6_many 2 (some .int), Cond.classLink RX6 58 "java/lang/IllegalArgumentException", Cond.initialized "java/lang/IllegalArgumentException", Cond.fieldLink RX6 12 "SurveyHouse" "form" "LSurveyHouse$Questionnaire;", Cond.fieldLink RX6 26 "SurveyHouse" "panel" "LSurveyHouse$Panel;", Cond.fieldLink RX6 33 "SurveyHouse" "interviews" "LSurveyHouse$Interviews;", Cond.fieldLink RX6 19 "SurveyHouse" "quotas" "LSurveyHouse$Quotas;", Cond.fieldLink RX6 50 "SurveyHouse" "reports" "LSurveyHouse$Reports;", Cond.methodLink RX6 65 yX2_size, Cond.instanceMethod yX2_size, Cond.selects RX2 yX2_size yX2_size, Cond.initialized RX2, Cond.code yX2_size cX2_size 1 (some .int), Cond.fieldLink RX2 27 "SurveyHouse$Questionnaire" "size" "I", Cond.methodLink RX6 116 yX1_size]
def wsL_isFair_r2 : List Cond := [Cond.instanceMethod yX1_size, Cond.selects RX1 yX1_size yX1_size, Cond.initialized RX1, Cond.code yX1_size cX1_size 1 (some .int), Cond.fieldLink RX1 24 "SurveyHouse$Panel" "size" "I", Cond.methodLink RX6 267 yX0_countIn, Cond.instanceMethod yX0_countIn, Cond.selects RX0 yX0_countIn yX0_countIn, Cond.initialized RX0, Cond.code yX0_countIn cX0_countIn 4 (some .int), Cond.fieldLink RX0 39 "SurveyHouse$Interviews" "size" "I", Cond.fieldLink RX0 18 "SurveyHouse$Interviews" "states" "[I", Cond.methodLink RX6 270 yX3_allTargets, Cond.instanceMethod yX3_allTargets, Cond.selects RX3 yX3_allTargets yX3_allTargets, Cond.initialized RX3, Cond.code yX3_allTargets cX3_allTargets 1 (some .int), Cond.fieldLink RX3 9 "SurveyHouse$Quotas" "targets" "[I", Cond.methodLink RX3 22 yX3_sumOf, Cond.static yX3_sumOf, Cond.code yX3_sumOf cX3_sumOf 6 (some .int), Cond.methodLink RX6 273 yX3_countOpen, Cond.instanceMethod yX3_countOpen, Cond.selects RX3 yX3_countOpen yX3_countOpen]
def wsL_isFair_r3 : List Cond := [Cond.code yX3_countOpen cX3_countOpen 3 (some .int), Cond.methodLink RX3 30 yX3_isOpen, Cond.instanceMethod yX3_isOpen, Cond.selects RX3 yX3_isOpen yX3_isOpen, Cond.code yX3_isOpen cX3_isOpen 2 (some .boolean), Cond.methodLink RX3 26 yX3_isOpenWith, Cond.instanceMethod yX3_isOpenWith, Cond.selects RX3 yX3_isOpenWith yX3_isOpenWith, Cond.code yX3_isOpenWith cX3_isOpenWith 5 (some .boolean), Cond.fieldLink RX3 15 "SurveyHouse$Quotas" "filled" "[I", Cond.fieldLink RX3 18 "SurveyHouse$Quotas" "edge" "I", Cond.methodLink RX6 276 yX6_countAllToAsk, Cond.instanceMethod yX6_countAllToAsk, Cond.selects RX6 yX6_countAllToAsk yX6_countAllToAsk, Cond.code yX6_countAllToAsk cX6_countAllToAsk 3 (some .int), Cond.methodLink RX6 154 yX6_countToAsk, Cond.instanceMethod yX6_countToAsk, Cond.selects RX6 yX6_countToAsk yX6_countToAsk, Cond.code yX6_countToAsk cX6_countToAsk 4 (some .int), Cond.methodLink RX6 162 yX1_cellOf, Cond.instanceMethod yX1_cellOf, Cond.selects RX1 yX1_cellOf yX1_cellOf, Cond.code yX1_cellOf cX1_cellOf 2 (some .int), Cond.fieldLink RX1 9 "SurveyHouse$Panel" "cells" "[I"]
def wsL_isFair_r4 : List Cond := [Cond.methodLink RX6 177 yX6_canBeAsked, Cond.instanceMethod yX6_canBeAsked, Cond.selects RX6 yX6_canBeAsked yX6_canBeAsked, Cond.code yX6_canBeAsked cX6_canBeAsked 3 (some .boolean), Cond.methodLink RX6 181 yX1_latestOf, Cond.instanceMethod yX1_latestOf, Cond.selects RX1 yX1_latestOf yX1_latestOf, Cond.code yX1_latestOf cX1_latestOf 2 (some .int), Cond.fieldLink RX1 21 "SurveyHouse$Panel" "latest" "[I", Cond.methodLink RX6 417 yX0_isTaken, Cond.instanceMethod yX0_isTaken, Cond.selects RX0 yX0_isTaken yX0_isTaken, Cond.code yX0_isTaken cX0_isTaken 2 (some .boolean), Cond.methodLink RX6 171 yX1_fatigueIn, Cond.instanceMethod yX1_fatigueIn, Cond.selects RX1 yX1_fatigueIn yX1_fatigueIn, Cond.code yX1_fatigueIn cX1_fatigueIn 3 (some .int), Cond.fieldLink RX1 15 "SurveyHouse$Panel" "fatigue" "[I", Cond.methodLink RX1 31 Lib.Math.max.name, Cond.static Lib.Math.max.name, Cond.initialized "java/lang/Math", Cond.code Lib.Math.max.name Lib.Math.max.code 2 (some .int), Cond.methodLink RX6 148 yX3_isOpen, Cond.methodLink RX6 279 yX1_allPoints]
def wsL_isFair_r5 : List Cond := [Cond.instanceMethod yX1_allPoints, Cond.selects RX1 yX1_allPoints yX1_allPoints, Cond.code yX1_allPoints cX1_allPoints 3 (some .int), Cond.fieldLink RX1 18 "SurveyHouse$Panel" "points" "[I", Cond.methodLink RX6 282 yX4_size, Cond.instanceMethod yX4_size, Cond.selects RX4 yX4_size yX4_size, Cond.initialized RX4, Cond.code yX4_size cX4_size 1 (some .int), Cond.fieldLink RX4 21 "SurveyHouse$Reports" "size" "I", Cond.methodLink RX6 283 yX1_today, Cond.instanceMethod yX1_today, Cond.selects RX1 yX1_today yX1_today, Cond.code yX1_today cX1_today 1 (some .int), Cond.fieldLink RX1 28 "SurveyHouse$Panel" "dayNumber" "I", Cond.methodLink RL 56 yX6_ofInterview, Cond.instanceMethod yX6_ofInterview, Cond.selects RX6 yX6_ofInterview yX6_ofInterview, Cond.code yX6_ofInterview cX6_ofInterview 3 (some .int), Cond.fieldLink RX6 40 "SurveyHouse" "weights" "LSurveyHouse$Weights;", Cond.methodLink RX6 210 yX6_needInterview, Cond.instanceMethod yX6_needInterview, Cond.selects RX6 yX6_needInterview yX6_needInterview, Cond.code yX6_needInterview cX6_needInterview 2 none]
def wsL_isFair_r6 : List Cond := [Cond.classLink RX6 322 "java/lang/IndexOutOfBoundsException", Cond.initialized "java/lang/IndexOutOfBoundsException", Cond.methodLink RX6 196 yX0_size, Cond.instanceMethod yX0_size, Cond.selects RX0 yX0_size yX0_size, Cond.code yX0_size cX0_size 1 (some .int), Cond.methodLink RX6 240 yX0_personOf, Cond.instanceMethod yX0_personOf, Cond.selects RX0 yX0_personOf yX0_personOf, Cond.code yX0_personOf cX0_personOf 2 (some .int), Cond.fieldLink RX0 9 "SurveyHouse$Interviews" "people" "[I", Cond.methodLink RX6 213 yX0_stateOf, Cond.instanceMethod yX0_stateOf, Cond.selects RX0 yX0_stateOf yX0_stateOf, Cond.code yX0_stateOf cX0_stateOf 2 (some .int), Cond.methodLink RX6 218 yX0_placeOf, Cond.instanceMethod yX0_placeOf, Cond.selects RX0 yX0_placeOf yX0_placeOf, Cond.code yX0_placeOf cX0_placeOf 2 (some .int), Cond.fieldLink RX0 21 "SurveyHouse$Interviews" "places" "[I", Cond.methodLink RX6 232 yX0_countOf, Cond.instanceMethod yX0_countOf, Cond.selects RX0 yX0_countOf yX0_countOf, Cond.code yX0_countOf cX0_countOf 2 (some .int)]
def wsL_isFair_r7 : List Cond := [Cond.fieldLink RX0 24 "SurveyHouse$Interviews" "counts" "[I", Cond.methodLink RX6 243 yX0_secondsOf, Cond.instanceMethod yX0_secondsOf, Cond.selects RX0 yX0_secondsOf yX0_secondsOf, Cond.code yX0_secondsOf cX0_secondsOf 2 (some .int), Cond.fieldLink RX0 27 "SurveyHouse$Interviews" "seconds" "[I", Cond.methodLink RX6 246 yX5_of, Cond.instanceMethod yX5_of, Cond.selects RX5 yX5_of yX5_of, Cond.initialized RX5, Cond.code yX5_of cX5_of 2 (some .int), Cond.fieldLink RX5 9 "SurveyHouse$Weights" "weights" "[I", Cond.methodLink RX6 249 yX0_isToClean, Cond.instanceMethod yX0_isToClean, Cond.selects RX0 yX0_isToClean yX0_isToClean, Cond.code yX0_isToClean cX0_isToClean 2 (some .boolean), Cond.methodLink RX0 43 yX0_isComplete, Cond.instanceMethod yX0_isComplete, Cond.selects RX0 yX0_isComplete yX0_isComplete, Cond.code yX0_isComplete cX0_isComplete 2 (some .boolean), Cond.methodLink RX0 47 yX0_isTooFast, Cond.instanceMethod yX0_isTooFast, Cond.selects RX0 yX0_isTooFast yX0_isTooFast, Cond.code yX0_isTooFast cX0_isTooFast 2 (some .boolean)]
def wsL_isFair_r8 : List Cond := [Cond.methodLink RX0 50 yX0_isStraightLine, Cond.instanceMethod yX0_isStraightLine, Cond.selects RX0 yX0_isStraightLine yX0_isStraightLine, Cond.code yX0_isStraightLine cX0_isStraightLine 5 (some .boolean), Cond.methodLink RX0 56 yX0_answerTo, Cond.instanceMethod yX0_answerTo, Cond.selects RX0 yX0_answerTo yX0_answerTo, Cond.code yX0_answerTo cX0_answerTo 3 (some .int), Cond.fieldLink RX0 30 "SurveyHouse$Interviews" "answers" "[I", Cond.methodLink RL 87 yX6_given, Cond.instanceMethod yX6_given, Cond.selects RX6 yX6_given yX6_given, Cond.code yX6_given cX6_given 3 (some .int), Cond.methodLink RX6 85 yX6_needQuestion, Cond.instanceMethod yX6_needQuestion, Cond.selects RX6 yX6_needQuestion yX6_needQuestion, Cond.code yX6_needQuestion cX6_needQuestion 2 none, Cond.methodLink RX6 402 yX2_has, Cond.instanceMethod yX2_has, Cond.selects RX2 yX2_has yX2_has, Cond.code yX2_has cX2_has 2 (some .boolean), Cond.methodLink RX6 254 yX0_answerTo, Cond.methodLink RL 81 yX6_ofPerson, Cond.instanceMethod yX6_ofPerson]
def wsL_isFair_r9 : List Cond := [Cond.selects RX6 yX6_ofPerson yX6_ofPerson, Cond.code yX6_ofPerson cX6_ofPerson 3 (some .int), Cond.methodLink RX6 159 yX6_needPerson, Cond.instanceMethod yX6_needPerson, Cond.selects RX6 yX6_needPerson yX6_needPerson, Cond.code yX6_needPerson cX6_needPerson 2 none, Cond.methodLink RX6 165 yX6_aOf, Cond.static yX6_aOf, Cond.code yX6_aOf cX6_aOf 1 (some .int), Cond.methodLink RX6 168 yX6_bOf, Cond.static yX6_bOf, Cond.code yX6_bOf cX6_bOf 1 (some .int), Cond.methodLink RX6 174 yX1_pointsOf, Cond.instanceMethod yX1_pointsOf, Cond.selects RX1 yX1_pointsOf yX1_pointsOf, Cond.code yX1_pointsOf cX1_pointsOf 2 (some .int), Cond.methodLink RL 110 yX6_ofCell, Cond.instanceMethod yX6_ofCell, Cond.selects RX6 yX6_ofCell yX6_ofCell, Cond.code yX6_ofCell cX6_ofCell 5 (some .int), Cond.methodLink RX6 123 yX6_needCell, Cond.static yX6_needCell, Cond.code yX6_needCell cX6_needCell 2 none, Cond.methodLink RX6 107 yX6_isA]
def wsL_isFair_r10 : List Cond := [Cond.static yX6_isA, Cond.code yX6_isA cX6_isA 1 (some .boolean), Cond.methodLink RX6 111 yX6_isB, Cond.static yX6_isB, Cond.code yX6_isB cX6_isB 1 (some .boolean), Cond.methodLink RX6 119 yX6_cellAt, Cond.static yX6_cellAt, Cond.code yX6_cellAt cX6_cellAt 2 (some .int), Cond.methodLink RX6 128 yX3_targetOf, Cond.instanceMethod yX3_targetOf, Cond.selects RX3 yX3_targetOf yX3_targetOf, Cond.code yX3_targetOf cX3_targetOf 2 (some .int), Cond.methodLink RX6 145 yX3_filledOf, Cond.instanceMethod yX3_filledOf, Cond.selects RX3 yX3_filledOf yX3_filledOf, Cond.code yX3_filledOf cX3_filledOf 2 (some .int), Cond.methodLink RX6 151 yX1_countOf, Cond.instanceMethod yX1_countOf, Cond.selects RX1 yX1_countOf yX1_countOf, Cond.code yX1_countOf cX1_countOf 4 (some .int), Cond.methodLink RL 65 yX6_share, Cond.instanceMethod yX6_share, Cond.selects RX6 yX6_share yX6_share, Cond.code yX6_share cX6_share 4 (some .int)]
def wsL_isFair_r11 : List Cond := [Cond.methodLink RX6 81 yX6_needAnswer, Cond.instanceMethod yX6_needAnswer, Cond.selects RX6 yX6_needAnswer yX6_needAnswer, Cond.code yX6_needAnswer cX6_needAnswer 3 none, Cond.methodLink RX6 221 yX2_offers, Cond.instanceMethod yX2_offers, Cond.selects RX2 yX2_offers yX2_offers, Cond.code yX2_offers cX2_offers 3 (some .boolean), Cond.fieldLink RX2 9 "SurveyHouse$Questionnaire" "answers" "[I", Cond.methodLink RX2 31 yX2_has, Cond.methodLink RX6 295 yX6_needA, Cond.static yX6_needA, Cond.code yX6_needA cX6_needA 1 none, Cond.methodLink RX6 298 yX5_shareOf, Cond.instanceMethod yX5_shareOf, Cond.selects RX5 yX5_shareOf yX5_shareOf, Cond.code yX5_shareOf cX5_shareOf 8 (some .int), Cond.methodLink RX5 15 yX0_size, Cond.methodLink RX5 55 yX0_isCounted, Cond.instanceMethod yX0_isCounted, Cond.selects RX0 yX0_isCounted yX0_isCounted, Cond.code yX0_isCounted cX0_isCounted 4 (some .boolean), Cond.fieldLink RX0 15 "SurveyHouse$Interviews" "cells" "[I", Cond.methodLink RX5 59 yX0_answerTo]
def wsL_isFair : List Cond := .code yL_isFair cL_isFair 12 (some .boolean) :: ((wsL_isFair_r1 ++ (wsL_isFair_r2 ++ (wsL_isFair_r3 ++ (wsL_isFair_r4 ++ (wsL_isFair_r5 ++ (wsL_isFair_r6 ++ (wsL_isFair_r7 ++ (wsL_isFair_r8 ++ (wsL_isFair_r9 ++ (wsL_isFair_r10 ++ wsL_isFair_r11)))))))))) ++ wsX60 ++ wsX20 ++ wsX10 ++ wsX00 ++ wsX30 ++ wsX40 ++ wsX50 ++ (vx_atS RX6 62 "java/lang/IllegalArgumentException" ["java/lang/RuntimeException", "java/lang/Exception"]).filter goodWord ++ (vx_atS RX6 326 "java/lang/IndexOutOfBoundsException" ["java/lang/RuntimeException", "java/lang/Exception"]).filter goodWord)
def wsL_law0_r1 : List Cond := [Cond.classLink RL 9 RX6, Cond.instantiable RX6 8, Cond.initialized RX6, Cond.arrayClass .int, Cond.methodLink RL 11 yX6_init, Cond.instanceMethod yX6_init, Cond.code yX6_init cX6_init 1 none, Cond.methodLink RX6 3 objectInit, Cond.instanceMethod objectInit, Cond.code objectInit ⟨#[0xb1]⟩ 1 none, Cond.classLink RX6 9 RX2, Cond.instantiable RX2 5, Cond.initialized RX2, Cond.fieldLink RX6 12 "SurveyHouse" "form" "LSurveyHouse$Questionnaire;", Cond.classLink RX6 16 RX3, Cond.instantiable RX3 3, Cond.initialized RX3, Cond.fieldLink RX6 19 "SurveyHouse" "quotas" "LSurveyHouse$Quotas;", Cond.classLink RX6 23 RX1, Cond.instantiable RX1 6, Cond.initialized RX1, Cond.fieldLink RX6 26 "SurveyHouse" "panel" "LSurveyHouse$Panel;", Cond.classLink RX6 30 RX0, Cond.instantiable RX0 8]
def wsL_law0_r2 : List Cond := [Cond.initialized RX0, Cond.fieldLink RX6 33 "SurveyHouse" "interviews" "LSurveyHouse$Interviews;", Cond.classLink RX6 37 RX5, Cond.instantiable RX5 1, Cond.initialized RX5, Cond.fieldLink RX6 40 "SurveyHouse" "weights" "LSurveyHouse$Weights;", Cond.fieldLink RX6 44 "SurveyHouse" "trial" "LSurveyHouse$Weights;", Cond.classLink RX6 47 RX4, Cond.instantiable RX4 2, Cond.initialized RX4, Cond.fieldLink RX6 50 "SurveyHouse" "reports" "LSurveyHouse$Reports;", Cond.fieldLink RX6 54 "SurveyHouse" "roundsTold" "I", Cond.methodLink RX6 11 yX2_init, Cond.instanceMethod yX2_init, Cond.code yX2_init cX2_init 1 none, Cond.methodLink RX2 3 objectInit, Cond.fieldLink RX2 9 "SurveyHouse$Questionnaire" "answers" "[I", Cond.fieldLink RX2 15 "SurveyHouse$Questionnaire" "ways" "[I", Cond.fieldLink RX2 18 "SurveyHouse$Questionnaire" "steps" "[I", Cond.methodLink RX2 21 yJ7_fill_53178, Cond.static yJ7_fill_53178, Cond.initialized RJ7, Cond.code yJ7_fill_53178 cJ7_fill_53178 4 none, Cond.instanceMethod yX3_init]
def wsL_law0_r3 : List Cond := [Cond.code yX3_init cX3_init 1 none, Cond.methodLink RX3 3 objectInit, Cond.fieldLink RX3 9 "SurveyHouse$Quotas" "targets" "[I", Cond.fieldLink RX3 15 "SurveyHouse$Quotas" "filled" "[I", Cond.instanceMethod yX1_init, Cond.code yX1_init cX1_init 1 none, Cond.methodLink RX1 3 objectInit, Cond.fieldLink RX1 9 "SurveyHouse$Panel" "cells" "[I", Cond.fieldLink RX1 15 "SurveyHouse$Panel" "fatigue" "[I", Cond.fieldLink RX1 18 "SurveyHouse$Panel" "points" "[I", Cond.fieldLink RX1 21 "SurveyHouse$Panel" "latest" "[I", Cond.methodLink RX6 32 yX0_init, Cond.instanceMethod yX0_init, Cond.code yX0_init cX0_init 1 none, Cond.methodLink RX0 3 objectInit, Cond.fieldLink RX0 9 "SurveyHouse$Interviews" "people" "[I", Cond.fieldLink RX0 15 "SurveyHouse$Interviews" "cells" "[I", Cond.fieldLink RX0 18 "SurveyHouse$Interviews" "states" "[I", Cond.fieldLink RX0 21 "SurveyHouse$Interviews" "places" "[I", Cond.fieldLink RX0 24 "SurveyHouse$Interviews" "counts" "[I", Cond.fieldLink RX0 27 "SurveyHouse$Interviews" "seconds" "[I", Cond.fieldLink RX0 30 "SurveyHouse$Interviews" "answers" "[I", Cond.methodLink RX0 33 yJ7_fill_53178, Cond.instanceMethod yX5_init]
def wsL_law0_r4 : List Cond := [Cond.code yX5_init cX5_init 1 none, Cond.methodLink RX5 3 objectInit, Cond.fieldLink RX5 9 "SurveyHouse$Weights" "weights" "[I", Cond.methodLink RX6 49 yX4_init, Cond.instanceMethod yX4_init, Cond.code yX4_init cX4_init 1 none, Cond.methodLink RX4 3 objectInit, Cond.fieldLink RX4 9 "SurveyHouse$Reports" "shares" "[I", Cond.methodLink RX4 15 yJ7_fill_53178, Cond.methodLink RL 12 yL_cell, Cond.static yL_cell, Cond.initialized RL, Cond.code yL_cell cL_cell 2 (some .int), Cond.constant RL 8 (790386105), Cond.methodLink RL 18 yL_below, Cond.static yL_below, Cond.code yL_below cL_below 2 (some .int), Cond.constant RL 7 (2147483647), Cond.methodLink RL 22 yX6_question, Cond.instanceMethod yX6_question, Cond.selects RX6 yX6_question yX6_question, Cond.code yX6_question cX6_question 2 (some .int), Cond.classLink RX6 58 "java/lang/IllegalArgumentException", Cond.initialized "java/lang/IllegalArgumentException"]
def wsL_law0_r5 : List Cond := [Cond.classLink RX6 69 "java/lang/IllegalStateException", Cond.initialized "java/lang/IllegalStateException", Cond.methodLink RX6 65 yX2_size, Cond.instanceMethod yX2_size, Cond.selects RX2 yX2_size yX2_size, Cond.code yX2_size cX2_size 1 (some .int), Cond.fieldLink RX2 27 "SurveyHouse$Questionnaire" "size" "I", Cond.methodLink RX6 74 yX6_needNoInterview, Cond.instanceMethod yX6_needNoInterview, Cond.selects RX6 yX6_needNoInterview yX6_needNoInterview, Cond.code yX6_needNoInterview cX6_needNoInterview 1 none, Cond.methodLink RX6 196 yX0_size, Cond.instanceMethod yX0_size, Cond.selects RX0 yX0_size yX0_size, Cond.code yX0_size cX0_size 1 (some .int), Cond.fieldLink RX0 39 "SurveyHouse$Interviews" "size" "I", Cond.methodLink RX6 77 yX2_add, Cond.instanceMethod yX2_add, Cond.selects RX2 yX2_add yX2_add, Cond.code yX2_add cX2_add 2 (some .int), Cond.methodLink RL 26 yX6_route, Cond.instanceMethod yX6_route, Cond.selects RX6 yX6_route yX6_route, Cond.code yX6_route cX6_route 5 (some .int)]
def wsL_law0_r6 : List Cond := [Cond.methodLink RX6 81 yX6_needAnswer, Cond.instanceMethod yX6_needAnswer, Cond.selects RX6 yX6_needAnswer yX6_needAnswer, Cond.code yX6_needAnswer cX6_needAnswer 3 none, Cond.classLink RX6 322 "java/lang/IndexOutOfBoundsException", Cond.initialized "java/lang/IndexOutOfBoundsException", Cond.methodLink RX6 221 yX2_offers, Cond.instanceMethod yX2_offers, Cond.selects RX2 yX2_offers yX2_offers, Cond.code yX2_offers cX2_offers 3 (some .boolean), Cond.methodLink RX2 31 yX2_has, Cond.instanceMethod yX2_has, Cond.selects RX2 yX2_has yX2_has, Cond.code yX2_has cX2_has 2 (some .boolean), Cond.methodLink RX6 85 yX6_needQuestion, Cond.instanceMethod yX6_needQuestion, Cond.selects RX6 yX6_needQuestion yX6_needQuestion, Cond.code yX6_needQuestion cX6_needQuestion 2 none, Cond.methodLink RX6 402 yX2_has, Cond.methodLink RX6 91 yX2_wayFrom, Cond.instanceMethod yX2_wayFrom, Cond.selects RX2 yX2_wayFrom yX2_wayFrom, Cond.code yX2_wayFrom cX2_wayFrom 4 (some .int), Cond.methodLink RX2 38 yX2_orEnd]
def wsL_law0_r7 : List Cond := [Cond.instanceMethod yX2_orEnd, Cond.selects RX2 yX2_orEnd yX2_orEnd, Cond.code yX2_orEnd cX2_orEnd 2 (some .int), Cond.methodLink RX6 95 yX2_setWay, Cond.instanceMethod yX2_setWay, Cond.selects RX2 yX2_setWay yX2_setWay, Cond.code yX2_setWay cX2_setWay 4 none, Cond.methodLink RL 30 yX6_rotate, Cond.instanceMethod yX6_rotate, Cond.selects RX6 yX6_rotate yX6_rotate, Cond.code yX6_rotate cX6_rotate 3 (some .int), Cond.methodLink RX6 101 yX2_rotation, Cond.instanceMethod yX2_rotation, Cond.selects RX2 yX2_rotation yX2_rotation, Cond.code yX2_rotation cX2_rotation 1 (some .int), Cond.fieldLink RX2 35 "SurveyHouse$Questionnaire" "rotated" "I", Cond.methodLink RX6 104 yX2_setRotation, Cond.instanceMethod yX2_setRotation, Cond.selects RX2 yX2_setRotation yX2_setRotation, Cond.code yX2_setRotation cX2_setRotation 2 none, Cond.methodLink RL 33 yX6_person, Cond.instanceMethod yX6_person, Cond.selects RX6 yX6_person yX6_person, Cond.code yX6_person cX6_person 3 (some .int)]
def wsL_law0_r8 : List Cond := [Cond.methodLink RX6 107 yX6_isA, Cond.static yX6_isA, Cond.code yX6_isA cX6_isA 1 (some .boolean), Cond.methodLink RX6 111 yX6_isB, Cond.static yX6_isB, Cond.code yX6_isB cX6_isB 1 (some .boolean), Cond.methodLink RX6 116 yX1_size, Cond.instanceMethod yX1_size, Cond.selects RX1 yX1_size yX1_size, Cond.code yX1_size cX1_size 1 (some .int), Cond.fieldLink RX1 24 "SurveyHouse$Panel" "size" "I", Cond.methodLink RX6 119 yX6_cellAt, Cond.static yX6_cellAt, Cond.code yX6_cellAt cX6_cellAt 2 (some .int), Cond.methodLink RX6 122 yX1_add, Cond.instanceMethod yX1_add, Cond.selects RX1 yX1_add yX1_add, Cond.code yX1_add cX1_add 2 (some .int), Cond.methodLink RL 36 yX6_target, Cond.instanceMethod yX6_target, Cond.selects RX6 yX6_target yX6_target, Cond.code yX6_target cX6_target 6 (some .int), Cond.methodLink RX6 123 yX6_needCell, Cond.static yX6_needCell]
def wsL_law0_r9 : List Cond := [Cond.code yX6_needCell cX6_needCell 2 none, Cond.methodLink RX6 128 yX3_targetOf, Cond.instanceMethod yX3_targetOf, Cond.selects RX3 yX3_targetOf yX3_targetOf, Cond.code yX3_targetOf cX3_targetOf 2 (some .int), Cond.methodLink RX6 131 yX3_setTarget, Cond.instanceMethod yX3_setTarget, Cond.selects RX3 yX3_setTarget yX3_setTarget, Cond.code yX3_setTarget cX3_setTarget 3 none, Cond.methodLink RX6 134 yX6_reweigh, Cond.instanceMethod yX6_reweigh, Cond.selects RX6 yX6_reweigh yX6_reweigh, Cond.code yX6_reweigh cX6_reweigh 1 none, Cond.methodLink RX6 343 yX5_weigh, Cond.instanceMethod yX5_weigh, Cond.selects RX5 yX5_weigh yX5_weigh, Cond.code yX5_weigh cX5_weigh 6 none, Cond.methodLink RX5 15 yX0_size, Cond.methodLink RX5 21 yX0_isComplete, Cond.instanceMethod yX0_isComplete, Cond.selects RX0 yX0_isComplete yX0_isComplete, Cond.code yX0_isComplete cX0_isComplete 2 (some .boolean), Cond.methodLink RX5 25 yX3_marginOf, Cond.instanceMethod yX3_marginOf]
def wsL_law0_r10 : List Cond := [Cond.selects RX3 yX3_marginOf yX3_marginOf, Cond.code yX3_marginOf cX3_marginOf 4 (some .int), Cond.static yX6_isIn, Cond.code yX6_isIn cX6_isIn 2 (some .boolean), Cond.methodLink RX6 165 yX6_aOf, Cond.static yX6_aOf, Cond.code yX6_aOf cX6_aOf 1 (some .int), Cond.methodLink RX6 168 yX6_bOf, Cond.static yX6_bOf, Cond.code yX6_bOf cX6_bOf 1 (some .int), Cond.methodLink RX5 31 yX5_scale, Cond.instanceMethod yX5_scale, Cond.selects RX5 yX5_scale yX5_scale, Cond.code yX5_scale cX5_scale 6 none, Cond.methodLink RX5 35 yX5_sumOf, Cond.instanceMethod yX5_sumOf, Cond.selects RX5 yX5_sumOf yX5_sumOf, Cond.code yX5_sumOf cX5_sumOf 5 (some .int), Cond.methodLink RX5 39 yX0_cellOf, Cond.instanceMethod yX0_cellOf, Cond.selects RX0 yX0_cellOf yX0_cellOf, Cond.code yX0_cellOf cX0_cellOf 2 (some .int), Cond.methodLink RL 39 yX6_soft, Cond.instanceMethod yX6_soft]
def wsL_law0_r11 : List Cond := [Cond.selects RX6 yX6_soft yX6_soft, Cond.code yX6_soft cX6_soft 3 (some .int), Cond.methodLink RX6 139 yX3_softEdge, Cond.instanceMethod yX3_softEdge, Cond.selects RX3 yX3_softEdge yX3_softEdge, Cond.code yX3_softEdge cX3_softEdge 1 (some .int), Cond.fieldLink RX3 18 "SurveyHouse$Quotas" "edge" "I", Cond.methodLink RX6 142 yX3_setSoftEdge, Cond.instanceMethod yX3_setSoftEdge, Cond.selects RX3 yX3_setSoftEdge yX3_setSoftEdge, Cond.code yX3_setSoftEdge cX3_setSoftEdge 2 none, Cond.methodLink RL 42 yL_running, Cond.static yL_running, Cond.code yL_running cL_running 2 (some .int), Cond.methodLink RL 53 yL_interviews, Cond.static yL_interviews, Cond.code yL_interviews cL_interviews 1 (some .int), Cond.methodLink RL 50 yX6_many, Cond.instanceMethod yX6_many, Cond.selects RX6 yX6_many yX6_many, Cond.code yX6_many cX6_many 2 (some .int), Cond.methodLink RX6 267 yX0_countIn, Cond.instanceMethod yX0_countIn, Cond.selects RX0 yX0_countIn yX0_countIn]
def wsL_law0_r12 : List Cond := [Cond.code yX0_countIn cX0_countIn 4 (some .int), Cond.methodLink RX6 270 yX3_allTargets, Cond.instanceMethod yX3_allTargets, Cond.selects RX3 yX3_allTargets yX3_allTargets, Cond.code yX3_allTargets cX3_allTargets 1 (some .int), Cond.methodLink RX3 22 yX3_sumOf, Cond.static yX3_sumOf, Cond.code yX3_sumOf cX3_sumOf 6 (some .int), Cond.methodLink RX6 273 yX3_countOpen, Cond.instanceMethod yX3_countOpen, Cond.selects RX3 yX3_countOpen yX3_countOpen, Cond.code yX3_countOpen cX3_countOpen 3 (some .int), Cond.methodLink RX3 30 yX3_isOpen, Cond.instanceMethod yX3_isOpen, Cond.selects RX3 yX3_isOpen yX3_isOpen, Cond.code yX3_isOpen cX3_isOpen 2 (some .boolean), Cond.methodLink RX3 26 yX3_isOpenWith, Cond.instanceMethod yX3_isOpenWith, Cond.selects RX3 yX3_isOpenWith yX3_isOpenWith, Cond.code yX3_isOpenWith cX3_isOpenWith 5 (some .boolean), Cond.methodLink RX6 276 yX6_countAllToAsk, Cond.instanceMethod yX6_countAllToAsk, Cond.selects RX6 yX6_countAllToAsk yX6_countAllToAsk, Cond.code yX6_countAllToAsk cX6_countAllToAsk 3 (some .int)]
def wsL_law0_r13 : List Cond := [Cond.methodLink RX6 154 yX6_countToAsk, Cond.instanceMethod yX6_countToAsk, Cond.selects RX6 yX6_countToAsk yX6_countToAsk, Cond.code yX6_countToAsk cX6_countToAsk 4 (some .int), Cond.methodLink RX6 162 yX1_cellOf, Cond.instanceMethod yX1_cellOf, Cond.selects RX1 yX1_cellOf yX1_cellOf, Cond.code yX1_cellOf cX1_cellOf 2 (some .int), Cond.methodLink RX6 177 yX6_canBeAsked, Cond.instanceMethod yX6_canBeAsked, Cond.selects RX6 yX6_canBeAsked yX6_canBeAsked, Cond.code yX6_canBeAsked cX6_canBeAsked 3 (some .boolean), Cond.methodLink RX6 181 yX1_latestOf, Cond.instanceMethod yX1_latestOf, Cond.selects RX1 yX1_latestOf yX1_latestOf, Cond.code yX1_latestOf cX1_latestOf 2 (some .int), Cond.methodLink RX6 417 yX0_isTaken, Cond.instanceMethod yX0_isTaken, Cond.selects RX0 yX0_isTaken yX0_isTaken, Cond.code yX0_isTaken cX0_isTaken 2 (some .boolean), Cond.methodLink RX6 171 yX1_fatigueIn, Cond.instanceMethod yX1_fatigueIn, Cond.selects RX1 yX1_fatigueIn yX1_fatigueIn, Cond.code yX1_fatigueIn cX1_fatigueIn 3 (some .int)]
def wsL_law0_r14 : List Cond := [Cond.methodLink RX1 31 Lib.Math.max.name, Cond.static Lib.Math.max.name, Cond.initialized "java/lang/Math", Cond.code Lib.Math.max.name Lib.Math.max.code 2 (some .int), Cond.methodLink RX6 148 yX3_isOpen, Cond.methodLink RX6 279 yX1_allPoints, Cond.instanceMethod yX1_allPoints, Cond.selects RX1 yX1_allPoints yX1_allPoints, Cond.code yX1_allPoints cX1_allPoints 3 (some .int), Cond.methodLink RX6 282 yX4_size, Cond.instanceMethod yX4_size, Cond.selects RX4 yX4_size yX4_size, Cond.code yX4_size cX4_size 1 (some .int), Cond.fieldLink RX4 21 "SurveyHouse$Reports" "size" "I", Cond.methodLink RX6 283 yX1_today, Cond.instanceMethod yX1_today, Cond.selects RX1 yX1_today yX1_today, Cond.code yX1_today cX1_today 1 (some .int), Cond.fieldLink RX1 28 "SurveyHouse$Panel" "dayNumber" "I", Cond.methodLink RL 56 yX6_ofInterview, Cond.instanceMethod yX6_ofInterview, Cond.selects RX6 yX6_ofInterview yX6_ofInterview, Cond.code yX6_ofInterview cX6_ofInterview 3 (some .int), Cond.methodLink RX6 210 yX6_needInterview]
def wsL_law0_r15 : List Cond := [Cond.instanceMethod yX6_needInterview, Cond.selects RX6 yX6_needInterview yX6_needInterview, Cond.code yX6_needInterview cX6_needInterview 2 none, Cond.methodLink RX6 240 yX0_personOf, Cond.instanceMethod yX0_personOf, Cond.selects RX0 yX0_personOf yX0_personOf, Cond.code yX0_personOf cX0_personOf 2 (some .int), Cond.methodLink RX6 213 yX0_stateOf, Cond.instanceMethod yX0_stateOf, Cond.selects RX0 yX0_stateOf yX0_stateOf, Cond.code yX0_stateOf cX0_stateOf 2 (some .int), Cond.methodLink RX6 218 yX0_placeOf, Cond.instanceMethod yX0_placeOf, Cond.selects RX0 yX0_placeOf yX0_placeOf, Cond.code yX0_placeOf cX0_placeOf 2 (some .int), Cond.methodLink RX6 232 yX0_countOf, Cond.instanceMethod yX0_countOf, Cond.selects RX0 yX0_countOf yX0_countOf, Cond.code yX0_countOf cX0_countOf 2 (some .int), Cond.methodLink RX6 243 yX0_secondsOf, Cond.instanceMethod yX0_secondsOf, Cond.selects RX0 yX0_secondsOf yX0_secondsOf, Cond.code yX0_secondsOf cX0_secondsOf 2 (some .int), Cond.methodLink RX6 246 yX5_of]
def wsL_law0_r16 : List Cond := [Cond.instanceMethod yX5_of, Cond.selects RX5 yX5_of yX5_of, Cond.code yX5_of cX5_of 2 (some .int), Cond.methodLink RX6 249 yX0_isToClean, Cond.instanceMethod yX0_isToClean, Cond.selects RX0 yX0_isToClean yX0_isToClean, Cond.code yX0_isToClean cX0_isToClean 2 (some .boolean), Cond.methodLink RX0 43 yX0_isComplete, Cond.methodLink RX0 47 yX0_isTooFast, Cond.instanceMethod yX0_isTooFast, Cond.selects RX0 yX0_isTooFast yX0_isTooFast, Cond.code yX0_isTooFast cX0_isTooFast 2 (some .boolean), Cond.methodLink RX0 50 yX0_isStraightLine, Cond.instanceMethod yX0_isStraightLine, Cond.selects RX0 yX0_isStraightLine yX0_isStraightLine, Cond.code yX0_isStraightLine cX0_isStraightLine 5 (some .boolean), Cond.methodLink RX0 56 yX0_answerTo, Cond.instanceMethod yX0_answerTo, Cond.selects RX0 yX0_answerTo yX0_answerTo, Cond.code yX0_answerTo cX0_answerTo 3 (some .int), Cond.methodLink RL 46 yX6_day, Cond.instanceMethod yX6_day, Cond.selects RX6 yX6_day yX6_day, Cond.code yX6_day cX6_day 1 (some .int)]
def wsL_law0_r17 : List Cond := [Cond.methodLink RX6 189 yX1_beginDay, Cond.instanceMethod yX1_beginDay, Cond.selects RX1 yX1_beginDay yX1_beginDay, Cond.code yX1_beginDay cX1_beginDay 2 (some .int), Cond.methodLink RX1 40 yX1_fatigueIn, Cond.methodLink RL 59 yX6_cleaned, Cond.instanceMethod yX6_cleaned, Cond.selects RX6 yX6_cleaned yX6_cleaned, Cond.code yX6_cleaned cX6_cleaned 4 (some .int), Cond.methodLink RX6 334 yX0_countToClean, Cond.instanceMethod yX0_countToClean, Cond.selects RX0 yX0_countToClean yX0_countToClean, Cond.code yX0_countToClean cX0_countToClean 4 (some .int), Cond.methodLink RX0 53 yX0_isToClean, Cond.methodLink RX6 337 yX3_isOpenWith, Cond.methodLink RL 62 yX6_clean, Cond.instanceMethod yX6_clean, Cond.selects RX6 yX6_clean yX6_clean, Cond.code yX6_clean cX6_clean 3 (some .int), Cond.methodLink RX6 257 yX0_setState, Cond.instanceMethod yX0_setState, Cond.selects RX0 yX0_setState yX0_setState, Cond.code yX0_setState cX0_setState 3 none, Cond.methodLink RX6 260 yX0_cellOf]
def wsL_law0_r18 : List Cond := [Cond.methodLink RX6 261 yX3_fill, Cond.instanceMethod yX3_fill, Cond.selects RX3 yX3_fill yX3_fill, Cond.code yX3_fill cX3_fill 3 none, Cond.methodLink RX6 264 yX1_addPoints, Cond.instanceMethod yX1_addPoints, Cond.selects RX1 yX1_addPoints yX1_addPoints, Cond.code yX1_addPoints cX1_addPoints 3 none, Cond.methodLink RL 65 yX6_share, Cond.instanceMethod yX6_share, Cond.selects RX6 yX6_share yX6_share, Cond.code yX6_share cX6_share 4 (some .int), Cond.methodLink RX6 295 yX6_needA, Cond.static yX6_needA, Cond.code yX6_needA cX6_needA 1 none, Cond.methodLink RX6 298 yX5_shareOf, Cond.instanceMethod yX5_shareOf, Cond.selects RX5 yX5_shareOf yX5_shareOf, Cond.code yX5_shareOf cX5_shareOf 8 (some .int), Cond.methodLink RX5 55 yX0_isCounted, Cond.instanceMethod yX0_isCounted, Cond.selects RX0 yX0_isCounted yX0_isCounted, Cond.code yX0_isCounted cX0_isCounted 4 (some .boolean), Cond.methodLink RX5 59 yX0_answerTo]
def wsL_law0_r19 : List Cond := [Cond.methodLink RL 68 yX6_hold, Cond.instanceMethod yX6_hold, Cond.selects RX6 yX6_hold yX6_hold, Cond.code yX6_hold cX6_hold 4 (some .int), Cond.methodLink RX6 314 yX4_add, Cond.instanceMethod yX4_add, Cond.selects RX4 yX4_add yX4_add, Cond.code yX4_add cX4_add 1 (some .int), Cond.methodLink RX6 316 yX2_answersOf, Cond.instanceMethod yX2_answersOf, Cond.selects RX2 yX2_answersOf yX2_answersOf, Cond.code yX2_answersOf cX2_answersOf 2 (some .int), Cond.methodLink RX6 319 yX4_put, Cond.instanceMethod yX4_put, Cond.selects RX4 yX4_put yX4_put, Cond.code yX4_put cX4_put 5 none, Cond.methodLink RX4 25 yX4_placeOf, Cond.static yX4_placeOf, Cond.code yX4_placeOf cX4_placeOf 3 (some .int), Cond.methodLink RL 71 yX6_next, Cond.instanceMethod yX6_next, Cond.selects RX6 yX6_next yX6_next, Cond.code yX6_next cX6_next 1 (some .int), Cond.methodLink RX6 186 yX6_firstToAsk]
def wsL_law0_r20 : List Cond := [Cond.instanceMethod yX6_firstToAsk, Cond.selects RX6 yX6_firstToAsk yX6_firstToAsk, Cond.code yX6_firstToAsk cX6_firstToAsk 4 (some .int), Cond.methodLink RX6 420 yX6_isAhead, Cond.instanceMethod yX6_isAhead, Cond.selects RX6 yX6_isAhead yX6_isAhead, Cond.code yX6_isAhead cX6_isAhead 6 (some .boolean), Cond.methodLink RX6 423 yX3_lackOf, Cond.instanceMethod yX3_lackOf, Cond.selects RX3 yX3_lackOf yX3_lackOf, Cond.code yX3_lackOf cX3_lackOf 2 (some .int), Cond.methodLink RL 74 yL_isNext, Cond.static yL_isNext, Cond.code yL_isNext cL_isNext 5 (some .boolean), Cond.methodLink RL 81 yX6_ofPerson, Cond.instanceMethod yX6_ofPerson, Cond.selects RX6 yX6_ofPerson yX6_ofPerson, Cond.code yX6_ofPerson cX6_ofPerson 3 (some .int), Cond.methodLink RX6 159 yX6_needPerson, Cond.instanceMethod yX6_needPerson, Cond.selects RX6 yX6_needPerson yX6_needPerson, Cond.code yX6_needPerson cX6_needPerson 2 none, Cond.methodLink RX6 174 yX1_pointsOf, Cond.instanceMethod yX1_pointsOf]
def wsL_law0_r21 : List Cond := [Cond.selects RX1 yX1_pointsOf yX1_pointsOf, Cond.code yX1_pointsOf cX1_pointsOf 2 (some .int), Cond.methodLink RL 113 yL_lacks, Cond.static yL_lacks, Cond.code yL_lacks cL_lacks 2 (some .int), Cond.methodLink RL 110 yX6_ofCell, Cond.instanceMethod yX6_ofCell, Cond.selects RX6 yX6_ofCell yX6_ofCell, Cond.code yX6_ofCell cX6_ofCell 5 (some .int), Cond.methodLink RX6 145 yX3_filledOf, Cond.instanceMethod yX3_filledOf, Cond.selects RX3 yX3_filledOf yX3_filledOf, Cond.code yX3_filledOf cX3_filledOf 2 (some .int), Cond.methodLink RX6 151 yX1_countOf, Cond.instanceMethod yX1_countOf, Cond.selects RX1 yX1_countOf yX1_countOf, Cond.code yX1_countOf cX1_countOf 4 (some .int), Cond.methodLink RL 78 yX6_begin, Cond.instanceMethod yX6_begin, Cond.selects RX6 yX6_begin yX6_begin, Cond.code yX6_begin cX6_begin 3 (some .int), Cond.methodLink RX6 199 yX0_add, Cond.instanceMethod yX0_add, Cond.selects RX0 yX0_add yX0_add]
def wsL_law0_r22 : List Cond := [Cond.code yX0_add cX0_add 3 (some .int), Cond.methodLink RX6 201 yX2_firstOf, Cond.instanceMethod yX2_firstOf, Cond.selects RX2 yX2_firstOf yX2_firstOf, Cond.code yX2_firstOf cX2_firstOf 2 (some .int), Cond.methodLink RX6 204 yX0_moveTo, Cond.instanceMethod yX0_moveTo, Cond.selects RX0 yX0_moveTo yX0_moveTo, Cond.code yX0_moveTo cX0_moveTo 3 none, Cond.methodLink RX6 207 yX1_ask, Cond.instanceMethod yX1_ask, Cond.selects RX1 yX1_ask yX1_ask, Cond.code yX1_ask cX1_ask 3 none, Cond.methodLink RX1 37 Lib.Math.min.name, Cond.static Lib.Math.min.name, Cond.code Lib.Math.min.name Lib.Math.min.code 2 (some .int), Cond.methodLink RL 84 yX6_answer, Cond.instanceMethod yX6_answer, Cond.selects RX6 yX6_answer yX6_answer, Cond.code yX6_answer cX6_answer 6 (some .int), Cond.methodLink RX6 228 yX0_note, Cond.instanceMethod yX0_note, Cond.selects RX0 yX0_note yX0_note, Cond.code yX0_note cX0_note 5 none]
def wsL_law0_r23 : List Cond := [Cond.methodLink RX6 233 yX2_nextOf, Cond.instanceMethod yX2_nextOf, Cond.selects RX2 yX2_nextOf yX2_nextOf, Cond.code yX2_nextOf cX2_nextOf 5 (some .int), Cond.methodLink RX2 42 yX2_wayFrom, Cond.methodLink RX6 237 yX6_finish, Cond.instanceMethod yX6_finish, Cond.selects RX6 yX6_finish yX6_finish, Cond.code yX6_finish cX6_finish 4 none, Cond.methodLink RL 87 yX6_given, Cond.instanceMethod yX6_given, Cond.selects RX6 yX6_given yX6_given, Cond.code yX6_given cX6_given 3 (some .int), Cond.methodLink RX6 254 yX0_answerTo, Cond.methodLink RL 90 yL_isFair, Cond.static yL_isFair, Cond.code yL_isFair cL_isFair 12 (some .boolean), Cond.methodLink RL 94 yX6_held, Cond.instanceMethod yX6_held, Cond.selects RX6 yX6_held yX6_held, Cond.code yX6_held cX6_held 4 (some .int), Cond.methodLink RX6 327 yX4_shareIn, Cond.instanceMethod yX4_shareIn, Cond.selects RX4 yX4_shareIn yX4_shareIn]
def wsL_law0_r24 : List Cond := [Cond.code yX4_shareIn cX4_shareIn 4 (some .int), Cond.methodLink RL 97 yX6_digest, Cond.instanceMethod yX6_digest, Cond.selects RX6 yX6_digest yX6_digest, Cond.code yX6_digest cX6_digest 4 (some .long), Cond.constantLong RX6 350 (58114), Cond.constantLong RX6 352 (31), Cond.methodLink RX6 354 yX6_many, Cond.methodLink RX6 357 yX6_digestCells, Cond.instanceMethod yX6_digestCells, Cond.selects RX6 yX6_digestCells yX6_digestCells, Cond.code yX6_digestCells cX6_digestCells 8 (some .long), Cond.methodLink RX6 382 yX6_ofCell, Cond.methodLink RX6 361 yX6_digestPeople, Cond.instanceMethod yX6_digestPeople, Cond.selects RX6 yX6_digestPeople yX6_digestPeople, Cond.code yX6_digestPeople cX6_digestPeople 7 (some .long), Cond.methodLink RX6 385 yX6_ofPerson, Cond.methodLink RX6 364 yX6_digestInterviews, Cond.instanceMethod yX6_digestInterviews, Cond.selects RX6 yX6_digestInterviews yX6_digestInterviews, Cond.code yX6_digestInterviews cX6_digestInterviews 7 (some .long), Cond.methodLink RX6 388 yX6_ofInterview, Cond.methodLink RX6 391 yX6_given]
def wsL_law0_r25 : List Cond := [Cond.methodLink RX6 367 yX6_digestQuestions, Cond.instanceMethod yX6_digestQuestions, Cond.selects RX6 yX6_digestQuestions yX6_digestQuestions, Cond.code yX6_digestQuestions cX6_digestQuestions 7 (some .long), Cond.methodLink RX6 394 yX6_share, Cond.methodLink RX6 397 yX6_shortest, Cond.instanceMethod yX6_shortest, Cond.selects RX6 yX6_shortest yX6_shortest, Cond.code yX6_shortest cX6_shortest 2 (some .int), Cond.methodLink RX6 347 yX2_stepsFrom, Cond.instanceMethod yX2_stepsFrom, Cond.selects RX2 yX2_stepsFrom yX2_stepsFrom, Cond.code yX2_stepsFrom cX2_stepsFrom 6 (some .int), Cond.methodLink RX2 46 Lib.Math.min.name, Cond.methodLink RX6 370 yX6_next, Cond.methodLink RX6 373 yX6_off, Cond.instanceMethod yX6_off, Cond.selects RX6 yX6_off yX6_off, Cond.code yX6_off cX6_off 1 (some .int), Cond.methodLink RX6 291 yX5_farthest, Cond.instanceMethod yX5_farthest, Cond.selects RX5 yX5_farthest yX5_farthest, Cond.code yX5_farthest cX5_farthest 6 (some .int), Cond.methodLink RX5 46 Lib.Math.abs.name]
def wsL_law0_r26 : List Cond := [Cond.static Lib.Math.abs.name, Cond.code Lib.Math.abs.name Lib.Math.abs.code 1 (some .int), Cond.methodLink RX5 51 Lib.Math.max.name, Cond.methodLink RX6 376 yX6_cleaned, Cond.methodLink RX6 379 yX6_nextIn, Cond.instanceMethod yX6_nextIn, Cond.selects RX6 yX6_nextIn yX6_nextIn, Cond.code yX6_nextIn cX6_nextIn 2 (some .int), Cond.methodLink RL 101 yX6_nextIn, Cond.methodLink RL 104 yX6_offWith, Cond.instanceMethod yX6_offWith, Cond.selects RX6 yX6_offWith yX6_offWith, Cond.code yX6_offWith cX6_offWith 2 (some .int), Cond.methodLink RX6 288 yX6_needRounds, Cond.static yX6_needRounds, Cond.code yX6_needRounds cX6_needRounds 1 none, Cond.methodLink RL 107 yX6_off]
def wsL_law0 : List Cond := (wsL_law0_r1 ++ (wsL_law0_r2 ++ (wsL_law0_r3 ++ (wsL_law0_r4 ++ (wsL_law0_r5 ++ (wsL_law0_r6 ++ (wsL_law0_r7 ++ (wsL_law0_r8 ++ (wsL_law0_r9 ++ (wsL_law0_r10 ++ (wsL_law0_r11 ++ (wsL_law0_r12 ++ (wsL_law0_r13 ++ (wsL_law0_r14 ++ (wsL_law0_r15 ++ (wsL_law0_r16 ++ (wsL_law0_r17 ++ (wsL_law0_r18 ++ (wsL_law0_r19 ++ (wsL_law0_r20 ++ (wsL_law0_r21 ++ (wsL_law0_r22 ++ (wsL_law0_r23 ++ (wsL_law0_r24 ++ (wsL_law0_r25 ++ wsL_law0_r26))))))))))))))))))))))))) ++ wsX60 ++ wsX20 ++ wsX30 ++ wsX10 ++ wsX00 ++ wsX50 ++ wsX40 ++ ([] : List Cond)
def wsL_law : List Cond := wsL_law0 ++ (vx_atS RX6 62 "java/lang/IllegalArgumentException" ["java/lang/RuntimeException", "java/lang/Exception"]).filter goodWord ++ (vx_atS RX6 73 "java/lang/IllegalStateException" ["java/lang/RuntimeException", "java/lang/Exception"]).filter goodWord ++ (vx_atS RX6 326 "java/lang/IndexOutOfBoundsException" ["java/lang/RuntimeException", "java/lang/Exception"]).filter goodWord
set_option maxRecDepth 20000 in
theorem ggX0_init_J7_fill_53178 : GoodIn wsX0_init wsJ7_fill_53178 := goodIn_r _ [15] (by decide +kernel) (by decide +kernel)
set_option maxRecDepth 20000 in
theorem gX0_init_J7_fill_53178 : GoodIn wsX0_init (va_wsS RX0 33 yJ7_fill_53178 wsJ7_fill_53178) := goodIn_app (goodIn_of _ (by decide +kernel)) ggX0_init_J7_fill_53178
theorem dX0_init_0 : decode cX0_init 0 = .ok (.aload_n 0, 1) := by decide +kernel
theorem dX0_init_1 : decode cX0_init 1 = .ok (.invokespecial 3, 3) := by decide +kernel
theorem dX0_init_4 : decode cX0_init 4 = .ok (.aload_n 0, 1) := by decide +kernel
theorem dX0_init_5 : decode cX0_init 5 = .ok (.bipush 40, 2) := by decide +kernel
theorem dX0_init_7 : decode cX0_init 7 = .ok (.newarray .int, 2) := by decide +kernel
theorem dX0_init_9 : decode cX0_init 9 = .ok (.putfield 9, 3) := by decide +kernel
theorem dX0_init_12 : decode cX0_init 12 = .ok (.aload_n 0, 1) := by decide +kernel
theorem dX0_init_13 : decode cX0_init 13 = .ok (.bipush 40, 2) := by decide +kernel
theorem dX0_init_15 : decode cX0_init 15 = .ok (.newarray .int, 2) := by decide +kernel
theorem dX0_init_17 : decode cX0_init 17 = .ok (.putfield 15, 3) := by decide +kernel
theorem dX0_init_20 : decode cX0_init 20 = .ok (.aload_n 0, 1) := by decide +kernel
theorem dX0_init_21 : decode cX0_init 21 = .ok (.bipush 40, 2) := by decide +kernel
theorem dX0_init_23 : decode cX0_init 23 = .ok (.newarray .int, 2) := by decide +kernel
theorem dX0_init_25 : decode cX0_init 25 = .ok (.putfield 18, 3) := by decide +kernel
theorem dX0_init_28 : decode cX0_init 28 = .ok (.aload_n 0, 1) := by decide +kernel
theorem dX0_init_29 : decode cX0_init 29 = .ok (.bipush 40, 2) := by decide +kernel
theorem dX0_init_31 : decode cX0_init 31 = .ok (.newarray .int, 2) := by decide +kernel
theorem dX0_init_33 : decode cX0_init 33 = .ok (.putfield 21, 3) := by decide +kernel
theorem dX0_init_36 : decode cX0_init 36 = .ok (.aload_n 0, 1) := by decide +kernel
theorem dX0_init_37 : decode cX0_init 37 = .ok (.bipush 40, 2) := by decide +kernel
theorem dX0_init_39 : decode cX0_init 39 = .ok (.newarray .int, 2) := by decide +kernel
theorem dX0_init_41 : decode cX0_init 41 = .ok (.putfield 24, 3) := by decide +kernel
theorem dX0_init_44 : decode cX0_init 44 = .ok (.aload_n 0, 1) := by decide +kernel
theorem dX0_init_45 : decode cX0_init 45 = .ok (.bipush 40, 2) := by decide +kernel
theorem dX0_init_47 : decode cX0_init 47 = .ok (.newarray .int, 2) := by decide +kernel
theorem dX0_init_49 : decode cX0_init 49 = .ok (.putfield 27, 3) := by decide +kernel
theorem dX0_init_52 : decode cX0_init 52 = .ok (.aload_n 0, 1) := by decide +kernel
theorem dX0_init_53 : decode cX0_init 53 = .ok (.sipush 400, 3) := by decide +kernel
theorem dX0_init_56 : decode cX0_init 56 = .ok (.newarray .int, 2) := by decide +kernel
theorem dX0_init_58 : decode cX0_init 58 = .ok (.putfield 30, 3) := by decide +kernel
theorem dX0_init_61 : decode cX0_init 61 = .ok (.aload_n 0, 1) := by decide +kernel
theorem dX0_init_62 : decode cX0_init 62 = .ok (.getfield 30, 3) := by decide +kernel
theorem dX0_init_65 : decode cX0_init 65 = .ok (.iconst (-1), 1) := by decide +kernel
theorem dX0_init_66 : decode cX0_init 66 = .ok (.invokestatic 33, 3) := by decide +kernel
theorem dX0_init_69 : decode cX0_init 69 = .ok (.return_, 1) := by decide +kernel
theorem dX0_size_0 : decode cX0_size 0 = .ok (.aload_n 0, 1) := by decide +kernel
theorem dX0_size_1 : decode cX0_size 1 = .ok (.getfield 39, 3) := by decide +kernel
theorem dX0_size_4 : decode cX0_size 4 = .ok (.ireturn, 1) := by decide +kernel
theorem dX0_add_0 : decode cX0_add 0 = .ok (.aload_n 0, 1) := by decide +kernel
theorem dX0_add_1 : decode cX0_add 1 = .ok (.getfield 9, 3) := by decide +kernel
theorem dX0_add_4 : decode cX0_add 4 = .ok (.aload_n 0, 1) := by decide +kernel
theorem dX0_add_5 : decode cX0_add 5 = .ok (.getfield 39, 3) := by decide +kernel
theorem dX0_add_8 : decode cX0_add 8 = .ok (.iload_n 1, 1) := by decide +kernel
theorem dX0_add_9 : decode cX0_add 9 = .ok (.iastore, 1) := by decide +kernel
theorem dX0_add_10 : decode cX0_add 10 = .ok (.aload_n 0, 1) := by decide +kernel
theorem dX0_add_11 : decode cX0_add 11 = .ok (.getfield 15, 3) := by decide +kernel
theorem dX0_add_14 : decode cX0_add 14 = .ok (.aload_n 0, 1) := by decide +kernel
theorem dX0_add_15 : decode cX0_add 15 = .ok (.getfield 39, 3) := by decide +kernel
theorem dX0_add_18 : decode cX0_add 18 = .ok (.iload_n 2, 1) := by decide +kernel
theorem dX0_add_19 : decode cX0_add 19 = .ok (.iastore, 1) := by decide +kernel
theorem dX0_add_20 : decode cX0_add 20 = .ok (.aload_n 0, 1) := by decide +kernel
theorem dX0_add_21 : decode cX0_add 21 = .ok (.getfield 18, 3) := by decide +kernel
theorem dX0_add_24 : decode cX0_add 24 = .ok (.aload_n 0, 1) := by decide +kernel
theorem dX0_add_25 : decode cX0_add 25 = .ok (.getfield 39, 3) := by decide +kernel
theorem dX0_add_28 : decode cX0_add 28 = .ok (.iconst 0, 1) := by decide +kernel
theorem dX0_add_29 : decode cX0_add 29 = .ok (.iastore, 1) := by decide +kernel
theorem dX0_add_30 : decode cX0_add 30 = .ok (.aload_n 0, 1) := by decide +kernel
theorem dX0_add_31 : decode cX0_add 31 = .ok (.dup, 1) := by decide +kernel
theorem dX0_add_32 : decode cX0_add 32 = .ok (.getfield 39, 3) := by decide +kernel
theorem dX0_add_35 : decode cX0_add 35 = .ok (.iconst 1, 1) := by decide +kernel
theorem dX0_add_36 : decode cX0_add 36 = .ok (.iadd, 1) := by decide +kernel
theorem dX0_add_37 : decode cX0_add 37 = .ok (.putfield 39, 3) := by decide +kernel
theorem dX0_add_40 : decode cX0_add 40 = .ok (.aload_n 0, 1) := by decide +kernel
theorem dX0_add_41 : decode cX0_add 41 = .ok (.getfield 39, 3) := by decide +kernel
theorem dX0_add_44 : decode cX0_add 44 = .ok (.iconst 1, 1) := by decide +kernel
theorem dX0_add_45 : decode cX0_add 45 = .ok (.isub, 1) := by decide +kernel
theorem dX0_add_46 : decode cX0_add 46 = .ok (.ireturn, 1) := by decide +kernel
theorem dX0_personOf_0 : decode cX0_personOf 0 = .ok (.aload_n 0, 1) := by decide +kernel
theorem dX0_personOf_1 : decode cX0_personOf 1 = .ok (.getfield 9, 3) := by decide +kernel
theorem dX0_personOf_4 : decode cX0_personOf 4 = .ok (.iload_n 1, 1) := by decide +kernel
theorem dX0_personOf_5 : decode cX0_personOf 5 = .ok (.iaload, 1) := by decide +kernel
theorem dX0_personOf_6 : decode cX0_personOf 6 = .ok (.ireturn, 1) := by decide +kernel
theorem dX0_cellOf_0 : decode cX0_cellOf 0 = .ok (.aload_n 0, 1) := by decide +kernel
theorem dX0_cellOf_1 : decode cX0_cellOf 1 = .ok (.getfield 15, 3) := by decide +kernel
theorem dX0_cellOf_4 : decode cX0_cellOf 4 = .ok (.iload_n 1, 1) := by decide +kernel
theorem dX0_cellOf_5 : decode cX0_cellOf 5 = .ok (.iaload, 1) := by decide +kernel
theorem dX0_cellOf_6 : decode cX0_cellOf 6 = .ok (.ireturn, 1) := by decide +kernel
theorem dX0_stateOf_0 : decode cX0_stateOf 0 = .ok (.aload_n 0, 1) := by decide +kernel
theorem dX0_stateOf_1 : decode cX0_stateOf 1 = .ok (.getfield 18, 3) := by decide +kernel
theorem dX0_stateOf_4 : decode cX0_stateOf 4 = .ok (.iload_n 1, 1) := by decide +kernel
theorem dX0_stateOf_5 : decode cX0_stateOf 5 = .ok (.iaload, 1) := by decide +kernel
theorem dX0_stateOf_6 : decode cX0_stateOf 6 = .ok (.ireturn, 1) := by decide +kernel
theorem dX0_setState_0 : decode cX0_setState 0 = .ok (.aload_n 0, 1) := by decide +kernel
theorem dX0_setState_1 : decode cX0_setState 1 = .ok (.getfield 18, 3) := by decide +kernel
theorem dX0_setState_4 : decode cX0_setState 4 = .ok (.iload_n 1, 1) := by decide +kernel
theorem dX0_setState_5 : decode cX0_setState 5 = .ok (.iload_n 2, 1) := by decide +kernel
theorem dX0_setState_6 : decode cX0_setState 6 = .ok (.iastore, 1) := by decide +kernel
theorem dX0_setState_7 : decode cX0_setState 7 = .ok (.return_, 1) := by decide +kernel
theorem dX0_isComplete_0 : decode cX0_isComplete 0 = .ok (.aload_n 0, 1) := by decide +kernel
theorem dX0_isComplete_1 : decode cX0_isComplete 1 = .ok (.getfield 18, 3) := by decide +kernel
theorem dX0_isComplete_4 : decode cX0_isComplete 4 = .ok (.iload_n 1, 1) := by decide +kernel
theorem dX0_isComplete_5 : decode cX0_isComplete 5 = .ok (.iaload, 1) := by decide +kernel
theorem dX0_isComplete_6 : decode cX0_isComplete 6 = .ok (.iconst 1, 1) := by decide +kernel
theorem dX0_isComplete_7 : decode cX0_isComplete 7 = .ok (.if_icmp .ne 7, 3) := by decide +kernel
theorem dX0_isComplete_10 : decode cX0_isComplete 10 = .ok (.iconst 1, 1) := by decide +kernel
theorem dX0_isComplete_11 : decode cX0_isComplete 11 = .ok (.goto 4, 3) := by decide +kernel
theorem dX0_isComplete_14 : decode cX0_isComplete 14 = .ok (.iconst 0, 1) := by decide +kernel
theorem dX0_isComplete_15 : decode cX0_isComplete 15 = .ok (.ireturn, 1) := by decide +kernel
theorem dX0_placeOf_0 : decode cX0_placeOf 0 = .ok (.aload_n 0, 1) := by decide +kernel
theorem dX0_placeOf_1 : decode cX0_placeOf 1 = .ok (.getfield 21, 3) := by decide +kernel
theorem dX0_placeOf_4 : decode cX0_placeOf 4 = .ok (.iload_n 1, 1) := by decide +kernel
theorem dX0_placeOf_5 : decode cX0_placeOf 5 = .ok (.iaload, 1) := by decide +kernel
theorem dX0_placeOf_6 : decode cX0_placeOf 6 = .ok (.ireturn, 1) := by decide +kernel
theorem dX0_moveTo_0 : decode cX0_moveTo 0 = .ok (.aload_n 0, 1) := by decide +kernel
theorem dX0_moveTo_1 : decode cX0_moveTo 1 = .ok (.getfield 21, 3) := by decide +kernel
theorem dX0_moveTo_4 : decode cX0_moveTo 4 = .ok (.iload_n 1, 1) := by decide +kernel
theorem dX0_moveTo_5 : decode cX0_moveTo 5 = .ok (.iload_n 2, 1) := by decide +kernel
theorem dX0_moveTo_6 : decode cX0_moveTo 6 = .ok (.iastore, 1) := by decide +kernel
theorem dX0_moveTo_7 : decode cX0_moveTo 7 = .ok (.return_, 1) := by decide +kernel
theorem dX0_countOf_0 : decode cX0_countOf 0 = .ok (.aload_n 0, 1) := by decide +kernel
theorem dX0_countOf_1 : decode cX0_countOf 1 = .ok (.getfield 24, 3) := by decide +kernel
theorem dX0_countOf_4 : decode cX0_countOf 4 = .ok (.iload_n 1, 1) := by decide +kernel
theorem dX0_countOf_5 : decode cX0_countOf 5 = .ok (.iaload, 1) := by decide +kernel
theorem dX0_countOf_6 : decode cX0_countOf 6 = .ok (.ireturn, 1) := by decide +kernel
theorem dX0_secondsOf_0 : decode cX0_secondsOf 0 = .ok (.aload_n 0, 1) := by decide +kernel
theorem dX0_secondsOf_1 : decode cX0_secondsOf 1 = .ok (.getfield 27, 3) := by decide +kernel
theorem dX0_secondsOf_4 : decode cX0_secondsOf 4 = .ok (.iload_n 1, 1) := by decide +kernel
theorem dX0_secondsOf_5 : decode cX0_secondsOf 5 = .ok (.iaload, 1) := by decide +kernel
theorem dX0_secondsOf_6 : decode cX0_secondsOf 6 = .ok (.ireturn, 1) := by decide +kernel
theorem dX0_answerTo_0 : decode cX0_answerTo 0 = .ok (.aload_n 0, 1) := by decide +kernel
theorem dX0_answerTo_1 : decode cX0_answerTo 1 = .ok (.getfield 30, 3) := by decide +kernel
theorem dX0_answerTo_4 : decode cX0_answerTo 4 = .ok (.iload_n 1, 1) := by decide +kernel
theorem dX0_answerTo_5 : decode cX0_answerTo 5 = .ok (.bipush 10, 2) := by decide +kernel
theorem dX0_answerTo_7 : decode cX0_answerTo 7 = .ok (.imul, 1) := by decide +kernel
theorem dX0_answerTo_8 : decode cX0_answerTo 8 = .ok (.iload_n 2, 1) := by decide +kernel
theorem dX0_answerTo_9 : decode cX0_answerTo 9 = .ok (.iadd, 1) := by decide +kernel
theorem dX0_answerTo_10 : decode cX0_answerTo 10 = .ok (.iaload, 1) := by decide +kernel
theorem dX0_answerTo_11 : decode cX0_answerTo 11 = .ok (.ireturn, 1) := by decide +kernel
theorem dX0_note_0 : decode cX0_note 0 = .ok (.aload_n 0, 1) := by decide +kernel
theorem dX0_note_1 : decode cX0_note 1 = .ok (.getfield 30, 3) := by decide +kernel
theorem dX0_note_4 : decode cX0_note 4 = .ok (.iload_n 1, 1) := by decide +kernel
theorem dX0_note_5 : decode cX0_note 5 = .ok (.bipush 10, 2) := by decide +kernel
theorem dX0_note_7 : decode cX0_note 7 = .ok (.imul, 1) := by decide +kernel
theorem dX0_note_8 : decode cX0_note 8 = .ok (.iload_n 2, 1) := by decide +kernel
theorem dX0_note_9 : decode cX0_note 9 = .ok (.iadd, 1) := by decide +kernel
theorem dX0_note_10 : decode cX0_note 10 = .ok (.iload_n 3, 1) := by decide +kernel
theorem dX0_note_11 : decode cX0_note 11 = .ok (.iastore, 1) := by decide +kernel
theorem dX0_note_12 : decode cX0_note 12 = .ok (.aload_n 0, 1) := by decide +kernel
theorem dX0_note_13 : decode cX0_note 13 = .ok (.getfield 27, 3) := by decide +kernel
theorem dX0_note_16 : decode cX0_note 16 = .ok (.iload_n 1, 1) := by decide +kernel
theorem dX0_note_17 : decode cX0_note 17 = .ok (.dup2, 1) := by decide +kernel
theorem dX0_note_18 : decode cX0_note 18 = .ok (.iaload, 1) := by decide +kernel
theorem dX0_note_19 : decode cX0_note 19 = .ok (.iload 4, 2) := by decide +kernel
theorem dX0_note_21 : decode cX0_note 21 = .ok (.iadd, 1) := by decide +kernel
theorem dX0_note_22 : decode cX0_note 22 = .ok (.iastore, 1) := by decide +kernel
theorem dX0_note_23 : decode cX0_note 23 = .ok (.aload_n 0, 1) := by decide +kernel
theorem dX0_note_24 : decode cX0_note 24 = .ok (.getfield 24, 3) := by decide +kernel
theorem dX0_note_27 : decode cX0_note 27 = .ok (.iload_n 1, 1) := by decide +kernel
theorem dX0_note_28 : decode cX0_note 28 = .ok (.dup2, 1) := by decide +kernel
theorem dX0_note_29 : decode cX0_note 29 = .ok (.iaload, 1) := by decide +kernel
theorem dX0_note_30 : decode cX0_note 30 = .ok (.iconst 1, 1) := by decide +kernel
theorem dX0_note_31 : decode cX0_note 31 = .ok (.iadd, 1) := by decide +kernel
theorem dX0_note_32 : decode cX0_note 32 = .ok (.iastore, 1) := by decide +kernel
theorem dX0_note_33 : decode cX0_note 33 = .ok (.return_, 1) := by decide +kernel
theorem dX0_isTaken_0 : decode cX0_isTaken 0 = .ok (.iload_n 1, 1) := by decide +kernel
theorem dX0_isTaken_1 : decode cX0_isTaken 1 = .ok (.ifCond .lt 34, 3) := by decide +kernel
theorem dX0_isTaken_4 : decode cX0_isTaken 4 = .ok (.iload_n 1, 1) := by decide +kernel
theorem dX0_isTaken_5 : decode cX0_isTaken 5 = .ok (.aload_n 0, 1) := by decide +kernel
theorem dX0_isTaken_6 : decode cX0_isTaken 6 = .ok (.getfield 39, 3) := by decide +kernel
theorem dX0_isTaken_9 : decode cX0_isTaken 9 = .ok (.if_icmp .ge 26, 3) := by decide +kernel
theorem dX0_isTaken_12 : decode cX0_isTaken 12 = .ok (.aload_n 0, 1) := by decide +kernel
theorem dX0_isTaken_13 : decode cX0_isTaken 13 = .ok (.getfield 18, 3) := by decide +kernel
theorem dX0_isTaken_16 : decode cX0_isTaken 16 = .ok (.iload_n 1, 1) := by decide +kernel
theorem dX0_isTaken_17 : decode cX0_isTaken 17 = .ok (.iaload, 1) := by decide +kernel
theorem dX0_isTaken_18 : decode cX0_isTaken 18 = .ok (.ifCond .eq 13, 3) := by decide +kernel
theorem dX0_isTaken_21 : decode cX0_isTaken 21 = .ok (.aload_n 0, 1) := by decide +kernel
theorem dX0_isTaken_22 : decode cX0_isTaken 22 = .ok (.getfield 18, 3) := by decide +kernel
theorem dX0_isTaken_25 : decode cX0_isTaken 25 = .ok (.iload_n 1, 1) := by decide +kernel
theorem dX0_isTaken_26 : decode cX0_isTaken 26 = .ok (.iaload, 1) := by decide +kernel
theorem dX0_isTaken_27 : decode cX0_isTaken 27 = .ok (.iconst 1, 1) := by decide +kernel
theorem dX0_isTaken_28 : decode cX0_isTaken 28 = .ok (.if_icmp .ne 7, 3) := by decide +kernel
theorem dX0_isTaken_31 : decode cX0_isTaken 31 = .ok (.iconst 1, 1) := by decide +kernel
theorem dX0_isTaken_32 : decode cX0_isTaken 32 = .ok (.goto 4, 3) := by decide +kernel
theorem dX0_isTaken_35 : decode cX0_isTaken 35 = .ok (.iconst 0, 1) := by decide +kernel
theorem dX0_isTaken_36 : decode cX0_isTaken 36 = .ok (.ireturn, 1) := by decide +kernel
theorem dX0_countIn_0 : decode cX0_countIn 0 = .ok (.iconst 0, 1) := by decide +kernel
theorem dX0_countIn_1 : decode cX0_countIn 1 = .ok (.istore_n 2, 1) := by decide +kernel
theorem dX0_countIn_2 : decode cX0_countIn 2 = .ok (.iconst 0, 1) := by decide +kernel
theorem dX0_countIn_3 : decode cX0_countIn 3 = .ok (.istore_n 3, 1) := by decide +kernel
theorem dX0_countIn_4 : decode cX0_countIn 4 = .ok (.iload_n 3, 1) := by decide +kernel
theorem dX0_countIn_5 : decode cX0_countIn 5 = .ok (.aload_n 0, 1) := by decide +kernel
theorem dX0_countIn_6 : decode cX0_countIn 6 = .ok (.getfield 39, 3) := by decide +kernel
theorem dX0_countIn_9 : decode cX0_countIn 9 = .ok (.if_icmp .ge 22, 3) := by decide +kernel
theorem dX0_countIn_12 : decode cX0_countIn 12 = .ok (.aload_n 0, 1) := by decide +kernel
theorem dX0_countIn_13 : decode cX0_countIn 13 = .ok (.getfield 18, 3) := by decide +kernel
theorem dX0_countIn_16 : decode cX0_countIn 16 = .ok (.iload_n 3, 1) := by decide +kernel
theorem dX0_countIn_17 : decode cX0_countIn 17 = .ok (.iaload, 1) := by decide +kernel
theorem dX0_countIn_18 : decode cX0_countIn 18 = .ok (.iload_n 1, 1) := by decide +kernel
theorem dX0_countIn_19 : decode cX0_countIn 19 = .ok (.if_icmp .ne 6, 3) := by decide +kernel
theorem dX0_countIn_22 : decode cX0_countIn 22 = .ok (.iinc 2 1, 3) := by decide +kernel
theorem dX0_countIn_25 : decode cX0_countIn 25 = .ok (.iinc 3 1, 3) := by decide +kernel
theorem dX0_countIn_28 : decode cX0_countIn 28 = .ok (.goto (-24), 3) := by decide +kernel
theorem dX0_countIn_31 : decode cX0_countIn 31 = .ok (.iload_n 2, 1) := by decide +kernel
theorem dX0_countIn_32 : decode cX0_countIn 32 = .ok (.ireturn, 1) := by decide +kernel
set_option maxRecDepth 20000 in
theorem ggX0_isToClean_X0_isComplete : GoodIn wsX0_isToClean wsX0_isComplete := goodIn_r _ [5, 6, 22, 23, 24, 25, 26, 27, 28, 29] (by decide +kernel) (by decide +kernel)
set_option maxRecDepth 20000 in
theorem gX0_isToClean_X0_isComplete : GoodIn wsX0_isToClean (wsV RX0 43 RX0 yX0_isComplete wsX0_isComplete) := goodIn_app (goodIn_of _ (by decide +kernel)) ggX0_isToClean_X0_isComplete
set_option maxRecDepth 20000 in
theorem ggX0_isToClean_X0_isTooFast : GoodIn wsX0_isToClean wsX0_isTooFast := goodIn_r _ [10, 11, 12, 22, 23, 24, 25, 26, 27, 28, 29] (by decide +kernel) (by decide +kernel)
set_option maxRecDepth 20000 in
theorem gX0_isToClean_X0_isTooFast : GoodIn wsX0_isToClean (wsV RX0 47 RX0 yX0_isTooFast wsX0_isTooFast) := goodIn_app (goodIn_of _ (by decide +kernel)) ggX0_isToClean_X0_isTooFast
set_option maxRecDepth 20000 in
theorem ggX0_isToClean_X0_isStraightLine : GoodIn wsX0_isToClean wsX0_isStraightLine := goodIn_r _ [16, 12, 17, 18, 19, 4, 20, 21, 22, 23, 24, 25, 26, 27, 28, 29] (by decide +kernel) (by decide +kernel)
set_option maxRecDepth 20000 in
theorem gX0_isToClean_X0_isStraightLine : GoodIn wsX0_isToClean (wsV RX0 50 RX0 yX0_isStraightLine wsX0_isStraightLine) := goodIn_app (goodIn_of _ (by decide +kernel)) ggX0_isToClean_X0_isStraightLine
theorem dX0_isToClean_0 : decode cX0_isToClean 0 = .ok (.aload_n 0, 1) := by decide +kernel
theorem dX0_isToClean_1 : decode cX0_isToClean 1 = .ok (.iload_n 1, 1) := by decide +kernel
theorem dX0_isToClean_2 : decode cX0_isToClean 2 = .ok (.invokevirtual 43, 3) := by decide +kernel
theorem dX0_isToClean_5 : decode cX0_isToClean 5 = .ok (.ifCond .eq 23, 3) := by decide +kernel
theorem dX0_isToClean_8 : decode cX0_isToClean 8 = .ok (.aload_n 0, 1) := by decide +kernel
theorem dX0_isToClean_9 : decode cX0_isToClean 9 = .ok (.iload_n 1, 1) := by decide +kernel
theorem dX0_isToClean_10 : decode cX0_isToClean 10 = .ok (.invokevirtual 47, 3) := by decide +kernel
theorem dX0_isToClean_13 : decode cX0_isToClean 13 = .ok (.ifCond .ne 11, 3) := by decide +kernel
theorem dX0_isToClean_16 : decode cX0_isToClean 16 = .ok (.aload_n 0, 1) := by decide +kernel
theorem dX0_isToClean_17 : decode cX0_isToClean 17 = .ok (.iload_n 1, 1) := by decide +kernel
theorem dX0_isToClean_18 : decode cX0_isToClean 18 = .ok (.invokevirtual 50, 3) := by decide +kernel
theorem dX0_isToClean_21 : decode cX0_isToClean 21 = .ok (.ifCond .eq 7, 3) := by decide +kernel
theorem dX0_isToClean_24 : decode cX0_isToClean 24 = .ok (.iconst 1, 1) := by decide +kernel
theorem dX0_isToClean_25 : decode cX0_isToClean 25 = .ok (.goto 4, 3) := by decide +kernel
theorem dX0_isToClean_28 : decode cX0_isToClean 28 = .ok (.iconst 0, 1) := by decide +kernel
theorem dX0_isToClean_29 : decode cX0_isToClean 29 = .ok (.ireturn, 1) := by decide +kernel
set_option maxRecDepth 20000 in
theorem ggX0_countToClean_X0_isToClean : GoodIn wsX0_countToClean wsX0_isToClean := goodIn_r _ [7, 8, 9, 10, 6, 11, 12, 13, 14, 15, 16, 17, 18, 19, 20, 21, 22, 23, 24, 25, 26, 27, 28, 29, 30, 31, 32, 33, 34, 35] (by decide +kernel) (by decide +kernel)
set_option maxRecDepth 20000 in
theorem gX0_countToClean_X0_isToClean : GoodIn wsX0_countToClean (wsV RX0 53 RX0 yX0_isToClean wsX0_isToClean) := goodIn_app (goodIn_of _ (by decide +kernel)) ggX0_countToClean_X0_isToClean
theorem dX0_countToClean_0 : decode cX0_countToClean 0 = .ok (.iconst 0, 1) := by decide +kernel
theorem dX0_countToClean_1 : decode cX0_countToClean 1 = .ok (.istore_n 2, 1) := by decide +kernel
theorem dX0_countToClean_2 : decode cX0_countToClean 2 = .ok (.iconst 0, 1) := by decide +kernel
theorem dX0_countToClean_3 : decode cX0_countToClean 3 = .ok (.istore_n 3, 1) := by decide +kernel
theorem dX0_countToClean_4 : decode cX0_countToClean 4 = .ok (.iload_n 3, 1) := by decide +kernel
theorem dX0_countToClean_5 : decode cX0_countToClean 5 = .ok (.aload_n 0, 1) := by decide +kernel
theorem dX0_countToClean_6 : decode cX0_countToClean 6 = .ok (.getfield 39, 3) := by decide +kernel
theorem dX0_countToClean_9 : decode cX0_countToClean 9 = .ok (.if_icmp .ge 30, 3) := by decide +kernel
theorem dX0_countToClean_12 : decode cX0_countToClean 12 = .ok (.aload_n 0, 1) := by decide +kernel
theorem dX0_countToClean_13 : decode cX0_countToClean 13 = .ok (.getfield 15, 3) := by decide +kernel
theorem dX0_countToClean_16 : decode cX0_countToClean 16 = .ok (.iload_n 3, 1) := by decide +kernel
theorem dX0_countToClean_17 : decode cX0_countToClean 17 = .ok (.iaload, 1) := by decide +kernel
theorem dX0_countToClean_18 : decode cX0_countToClean 18 = .ok (.iload_n 1, 1) := by decide +kernel
theorem dX0_countToClean_19 : decode cX0_countToClean 19 = .ok (.if_icmp .ne 14, 3) := by decide +kernel
theorem dX0_countToClean_22 : decode cX0_countToClean 22 = .ok (.aload_n 0, 1) := by decide +kernel
theorem dX0_countToClean_23 : decode cX0_countToClean 23 = .ok (.iload_n 3, 1) := by decide +kernel
theorem dX0_countToClean_24 : decode cX0_countToClean 24 = .ok (.invokevirtual 53, 3) := by decide +kernel
theorem dX0_countToClean_27 : decode cX0_countToClean 27 = .ok (.ifCond .eq 6, 3) := by decide +kernel
theorem dX0_countToClean_30 : decode cX0_countToClean 30 = .ok (.iinc 2 1, 3) := by decide +kernel
theorem dX0_countToClean_33 : decode cX0_countToClean 33 = .ok (.iinc 3 1, 3) := by decide +kernel
theorem dX0_countToClean_36 : decode cX0_countToClean 36 = .ok (.goto (-32), 3) := by decide +kernel
theorem dX0_countToClean_39 : decode cX0_countToClean 39 = .ok (.iload_n 2, 1) := by decide +kernel
theorem dX0_countToClean_40 : decode cX0_countToClean 40 = .ok (.ireturn, 1) := by decide +kernel
theorem dX0_isTooFast_0 : decode cX0_isTooFast 0 = .ok (.aload_n 0, 1) := by decide +kernel
theorem dX0_isTooFast_1 : decode cX0_isTooFast 1 = .ok (.getfield 27, 3) := by decide +kernel
theorem dX0_isTooFast_4 : decode cX0_isTooFast 4 = .ok (.iload_n 1, 1) := by decide +kernel
theorem dX0_isTooFast_5 : decode cX0_isTooFast 5 = .ok (.iaload, 1) := by decide +kernel
theorem dX0_isTooFast_6 : decode cX0_isTooFast 6 = .ok (.iconst 3, 1) := by decide +kernel
theorem dX0_isTooFast_7 : decode cX0_isTooFast 7 = .ok (.aload_n 0, 1) := by decide +kernel
theorem dX0_isTooFast_8 : decode cX0_isTooFast 8 = .ok (.getfield 24, 3) := by decide +kernel
theorem dX0_isTooFast_11 : decode cX0_isTooFast 11 = .ok (.iload_n 1, 1) := by decide +kernel
theorem dX0_isTooFast_12 : decode cX0_isTooFast 12 = .ok (.iaload, 1) := by decide +kernel
theorem dX0_isTooFast_13 : decode cX0_isTooFast 13 = .ok (.imul, 1) := by decide +kernel
theorem dX0_isTooFast_14 : decode cX0_isTooFast 14 = .ok (.if_icmp .ge 7, 3) := by decide +kernel
theorem dX0_isTooFast_17 : decode cX0_isTooFast 17 = .ok (.iconst 1, 1) := by decide +kernel
theorem dX0_isTooFast_18 : decode cX0_isTooFast 18 = .ok (.goto 4, 3) := by decide +kernel
theorem dX0_isTooFast_21 : decode cX0_isTooFast 21 = .ok (.iconst 0, 1) := by decide +kernel
theorem dX0_isTooFast_22 : decode cX0_isTooFast 22 = .ok (.ireturn, 1) := by decide +kernel
set_option maxRecDepth 20000 in
theorem ggX0_isStraightLine_X0_answerTo : GoodIn wsX0_isStraightLine wsX0_answerTo := goodIn_r _ [6, 7, 8, 9, 10, 11, 12, 13, 14, 15] (by decide +kernel) (by decide +kernel)
set_option maxRecDepth 20000 in
theorem gX0_isStraightLine_X0_answerTo : GoodIn wsX0_isStraightLine (wsV RX0 56 RX0 yX0_answerTo wsX0_answerTo) := goodIn_app (goodIn_of _ (by decide +kernel)) ggX0_isStraightLine_X0_answerTo
theorem dX0_isStraightLine_0 : decode cX0_isStraightLine 0 = .ok (.aload_n 0, 1) := by decide +kernel
theorem dX0_isStraightLine_1 : decode cX0_isStraightLine 1 = .ok (.getfield 24, 3) := by decide +kernel
theorem dX0_isStraightLine_4 : decode cX0_isStraightLine 4 = .ok (.iload_n 1, 1) := by decide +kernel
theorem dX0_isStraightLine_5 : decode cX0_isStraightLine 5 = .ok (.iaload, 1) := by decide +kernel
theorem dX0_isStraightLine_6 : decode cX0_isStraightLine 6 = .ok (.iconst 4, 1) := by decide +kernel
theorem dX0_isStraightLine_7 : decode cX0_isStraightLine 7 = .ok (.if_icmp .ge 5, 3) := by decide +kernel
theorem dX0_isStraightLine_10 : decode cX0_isStraightLine 10 = .ok (.iconst 0, 1) := by decide +kernel
theorem dX0_isStraightLine_11 : decode cX0_isStraightLine 11 = .ok (.ireturn, 1) := by decide +kernel
theorem dX0_isStraightLine_12 : decode cX0_isStraightLine 12 = .ok (.iconst (-1), 1) := by decide +kernel
theorem dX0_isStraightLine_13 : decode cX0_isStraightLine 13 = .ok (.istore_n 2, 1) := by decide +kernel
theorem dX0_isStraightLine_14 : decode cX0_isStraightLine 14 = .ok (.iconst 0, 1) := by decide +kernel
theorem dX0_isStraightLine_15 : decode cX0_isStraightLine 15 = .ok (.istore_n 3, 1) := by decide +kernel
theorem dX0_isStraightLine_16 : decode cX0_isStraightLine 16 = .ok (.iload_n 3, 1) := by decide +kernel
theorem dX0_isStraightLine_17 : decode cX0_isStraightLine 17 = .ok (.bipush 10, 2) := by decide +kernel
theorem dX0_isStraightLine_19 : decode cX0_isStraightLine 19 = .ok (.if_icmp .ge 42, 3) := by decide +kernel
theorem dX0_isStraightLine_22 : decode cX0_isStraightLine 22 = .ok (.aload_n 0, 1) := by decide +kernel
theorem dX0_isStraightLine_23 : decode cX0_isStraightLine 23 = .ok (.iload_n 1, 1) := by decide +kernel
theorem dX0_isStraightLine_24 : decode cX0_isStraightLine 24 = .ok (.iload_n 3, 1) := by decide +kernel
theorem dX0_isStraightLine_25 : decode cX0_isStraightLine 25 = .ok (.invokevirtual 56, 3) := by decide +kernel
theorem dX0_isStraightLine_28 : decode cX0_isStraightLine 28 = .ok (.istore 4, 2) := by decide +kernel
theorem dX0_isStraightLine_30 : decode cX0_isStraightLine 30 = .ok (.iload_n 2, 1) := by decide +kernel
theorem dX0_isStraightLine_31 : decode cX0_isStraightLine 31 = .ok (.iconst (-1), 1) := by decide +kernel
theorem dX0_isStraightLine_32 : decode cX0_isStraightLine 32 = .ok (.if_icmp .ne 9, 3) := by decide +kernel
theorem dX0_isStraightLine_35 : decode cX0_isStraightLine 35 = .ok (.iload 4, 2) := by decide +kernel
theorem dX0_isStraightLine_37 : decode cX0_isStraightLine 37 = .ok (.istore_n 2, 1) := by decide +kernel
theorem dX0_isStraightLine_38 : decode cX0_isStraightLine 38 = .ok (.goto 17, 3) := by decide +kernel
theorem dX0_isStraightLine_41 : decode cX0_isStraightLine 41 = .ok (.iload 4, 2) := by decide +kernel
theorem dX0_isStraightLine_43 : decode cX0_isStraightLine 43 = .ok (.iconst (-1), 1) := by decide +kernel
theorem dX0_isStraightLine_44 : decode cX0_isStraightLine 44 = .ok (.if_icmp .eq 11, 3) := by decide +kernel
theorem dX0_isStraightLine_47 : decode cX0_isStraightLine 47 = .ok (.iload 4, 2) := by decide +kernel
theorem dX0_isStraightLine_49 : decode cX0_isStraightLine 49 = .ok (.iload_n 2, 1) := by decide +kernel
theorem dX0_isStraightLine_50 : decode cX0_isStraightLine 50 = .ok (.if_icmp .eq 5, 3) := by decide +kernel
theorem dX0_isStraightLine_53 : decode cX0_isStraightLine 53 = .ok (.iconst 0, 1) := by decide +kernel
theorem dX0_isStraightLine_54 : decode cX0_isStraightLine 54 = .ok (.ireturn, 1) := by decide +kernel
theorem dX0_isStraightLine_55 : decode cX0_isStraightLine 55 = .ok (.iinc 3 1, 3) := by decide +kernel
theorem dX0_isStraightLine_58 : decode cX0_isStraightLine 58 = .ok (.goto (-42), 3) := by decide +kernel
theorem dX0_isStraightLine_61 : decode cX0_isStraightLine 61 = .ok (.iconst 1, 1) := by decide +kernel
theorem dX0_isStraightLine_62 : decode cX0_isStraightLine 62 = .ok (.ireturn, 1) := by decide +kernel
set_option maxRecDepth 20000 in
theorem ggX0_isCounted_X0_isComplete : GoodIn wsX0_isCounted wsX0_isComplete := goodIn_r _ [6, 7, 16, 17, 18, 19, 20, 21, 22, 23] (by decide +kernel) (by decide +kernel)
set_option maxRecDepth 20000 in
theorem gX0_isCounted_X0_isComplete : GoodIn wsX0_isCounted (wsV RX0 43 RX0 yX0_isComplete wsX0_isComplete) := goodIn_app (goodIn_of _ (by decide +kernel)) ggX0_isCounted_X0_isComplete
set_option maxRecDepth 20000 in
theorem ggX0_isCounted_X0_answerTo : GoodIn wsX0_isCounted wsX0_answerTo := goodIn_r _ [11, 12, 16, 17, 18, 19, 20, 21, 22, 23] (by decide +kernel) (by decide +kernel)
set_option maxRecDepth 20000 in
theorem gX0_isCounted_X0_answerTo : GoodIn wsX0_isCounted (wsV RX0 56 RX0 yX0_answerTo wsX0_answerTo) := goodIn_app (goodIn_of _ (by decide +kernel)) ggX0_isCounted_X0_answerTo
set_option maxRecDepth 20000 in
theorem ggX0_isCounted_X6_aOf : GoodIn wsX0_isCounted wsX6_aOf := goodIn_r _ [15] (by decide +kernel) (by decide +kernel)
set_option maxRecDepth 20000 in
theorem gX0_isCounted_X6_aOf_n60 : GoodIn wsX0_isCounted (wsX6_aOf) := ggX0_isCounted_X6_aOf
theorem dX0_isCounted_0 : decode cX0_isCounted 0 = .ok (.aload_n 0, 1) := by decide +kernel
theorem dX0_isCounted_1 : decode cX0_isCounted 1 = .ok (.iload_n 1, 1) := by decide +kernel
theorem dX0_isCounted_2 : decode cX0_isCounted 2 = .ok (.invokevirtual 43, 3) := by decide +kernel
theorem dX0_isCounted_5 : decode cX0_isCounted 5 = .ok (.ifCond .eq 35, 3) := by decide +kernel
theorem dX0_isCounted_8 : decode cX0_isCounted 8 = .ok (.aload_n 0, 1) := by decide +kernel
theorem dX0_isCounted_9 : decode cX0_isCounted 9 = .ok (.iload_n 1, 1) := by decide +kernel
theorem dX0_isCounted_10 : decode cX0_isCounted 10 = .ok (.iload_n 2, 1) := by decide +kernel
theorem dX0_isCounted_11 : decode cX0_isCounted 11 = .ok (.invokevirtual 56, 3) := by decide +kernel
theorem dX0_isCounted_14 : decode cX0_isCounted 14 = .ok (.iconst (-1), 1) := by decide +kernel
theorem dX0_isCounted_15 : decode cX0_isCounted 15 = .ok (.if_icmp .eq 25, 3) := by decide +kernel
theorem dX0_isCounted_18 : decode cX0_isCounted 18 = .ok (.iload_n 3, 1) := by decide +kernel
theorem dX0_isCounted_19 : decode cX0_isCounted 19 = .ok (.iconst (-1), 1) := by decide +kernel
theorem dX0_isCounted_20 : decode cX0_isCounted 20 = .ok (.if_icmp .eq 16, 3) := by decide +kernel
theorem dX0_isCounted_23 : decode cX0_isCounted 23 = .ok (.aload_n 0, 1) := by decide +kernel
theorem dX0_isCounted_24 : decode cX0_isCounted 24 = .ok (.getfield 15, 3) := by decide +kernel
theorem dX0_isCounted_27 : decode cX0_isCounted 27 = .ok (.iload_n 1, 1) := by decide +kernel
theorem dX0_isCounted_28 : decode cX0_isCounted 28 = .ok (.iaload, 1) := by decide +kernel
theorem dX0_isCounted_29 : decode cX0_isCounted 29 = .ok (.invokestatic 60, 3) := by decide +kernel
theorem dX0_isCounted_32 : decode cX0_isCounted 32 = .ok (.iload_n 3, 1) := by decide +kernel
theorem dX0_isCounted_33 : decode cX0_isCounted 33 = .ok (.if_icmp .ne 7, 3) := by decide +kernel
theorem dX0_isCounted_36 : decode cX0_isCounted 36 = .ok (.iconst 1, 1) := by decide +kernel
theorem dX0_isCounted_37 : decode cX0_isCounted 37 = .ok (.goto 4, 3) := by decide +kernel
theorem dX0_isCounted_40 : decode cX0_isCounted 40 = .ok (.iconst 0, 1) := by decide +kernel
theorem dX0_isCounted_41 : decode cX0_isCounted 41 = .ok (.ireturn, 1) := by decide +kernel
theorem dX1_init_0 : decode cX1_init 0 = .ok (.aload_n 0, 1) := by decide +kernel
theorem dX1_init_1 : decode cX1_init 1 = .ok (.invokespecial 3, 3) := by decide +kernel
theorem dX1_init_4 : decode cX1_init 4 = .ok (.aload_n 0, 1) := by decide +kernel
theorem dX1_init_5 : decode cX1_init 5 = .ok (.bipush 24, 2) := by decide +kernel
theorem dX1_init_7 : decode cX1_init 7 = .ok (.newarray .int, 2) := by decide +kernel
theorem dX1_init_9 : decode cX1_init 9 = .ok (.putfield 9, 3) := by decide +kernel
theorem dX1_init_12 : decode cX1_init 12 = .ok (.aload_n 0, 1) := by decide +kernel
theorem dX1_init_13 : decode cX1_init 13 = .ok (.bipush 24, 2) := by decide +kernel
theorem dX1_init_15 : decode cX1_init 15 = .ok (.newarray .int, 2) := by decide +kernel
theorem dX1_init_17 : decode cX1_init 17 = .ok (.putfield 15, 3) := by decide +kernel
theorem dX1_init_20 : decode cX1_init 20 = .ok (.aload_n 0, 1) := by decide +kernel
theorem dX1_init_21 : decode cX1_init 21 = .ok (.bipush 24, 2) := by decide +kernel
theorem dX1_init_23 : decode cX1_init 23 = .ok (.newarray .int, 2) := by decide +kernel
theorem dX1_init_25 : decode cX1_init 25 = .ok (.putfield 18, 3) := by decide +kernel
theorem dX1_init_28 : decode cX1_init 28 = .ok (.aload_n 0, 1) := by decide +kernel
theorem dX1_init_29 : decode cX1_init 29 = .ok (.bipush 24, 2) := by decide +kernel
theorem dX1_init_31 : decode cX1_init 31 = .ok (.newarray .int, 2) := by decide +kernel
theorem dX1_init_33 : decode cX1_init 33 = .ok (.putfield 21, 3) := by decide +kernel
theorem dX1_init_36 : decode cX1_init 36 = .ok (.return_, 1) := by decide +kernel
theorem dX1_size_0 : decode cX1_size 0 = .ok (.aload_n 0, 1) := by decide +kernel
theorem dX1_size_1 : decode cX1_size 1 = .ok (.getfield 24, 3) := by decide +kernel
theorem dX1_size_4 : decode cX1_size 4 = .ok (.ireturn, 1) := by decide +kernel
theorem dX1_today_0 : decode cX1_today 0 = .ok (.aload_n 0, 1) := by decide +kernel
theorem dX1_today_1 : decode cX1_today 1 = .ok (.getfield 28, 3) := by decide +kernel
theorem dX1_today_4 : decode cX1_today 4 = .ok (.ireturn, 1) := by decide +kernel
theorem dX1_add_0 : decode cX1_add 0 = .ok (.aload_n 0, 1) := by decide +kernel
theorem dX1_add_1 : decode cX1_add 1 = .ok (.getfield 9, 3) := by decide +kernel
theorem dX1_add_4 : decode cX1_add 4 = .ok (.aload_n 0, 1) := by decide +kernel
theorem dX1_add_5 : decode cX1_add 5 = .ok (.getfield 24, 3) := by decide +kernel
theorem dX1_add_8 : decode cX1_add 8 = .ok (.iload_n 1, 1) := by decide +kernel
theorem dX1_add_9 : decode cX1_add 9 = .ok (.iastore, 1) := by decide +kernel
theorem dX1_add_10 : decode cX1_add 10 = .ok (.aload_n 0, 1) := by decide +kernel
theorem dX1_add_11 : decode cX1_add 11 = .ok (.getfield 21, 3) := by decide +kernel
theorem dX1_add_14 : decode cX1_add 14 = .ok (.aload_n 0, 1) := by decide +kernel
theorem dX1_add_15 : decode cX1_add 15 = .ok (.getfield 24, 3) := by decide +kernel
theorem dX1_add_18 : decode cX1_add 18 = .ok (.iconst (-1), 1) := by decide +kernel
theorem dX1_add_19 : decode cX1_add 19 = .ok (.iastore, 1) := by decide +kernel
theorem dX1_add_20 : decode cX1_add 20 = .ok (.aload_n 0, 1) := by decide +kernel
theorem dX1_add_21 : decode cX1_add 21 = .ok (.dup, 1) := by decide +kernel
theorem dX1_add_22 : decode cX1_add 22 = .ok (.getfield 24, 3) := by decide +kernel
theorem dX1_add_25 : decode cX1_add 25 = .ok (.iconst 1, 1) := by decide +kernel
theorem dX1_add_26 : decode cX1_add 26 = .ok (.iadd, 1) := by decide +kernel
theorem dX1_add_27 : decode cX1_add 27 = .ok (.putfield 24, 3) := by decide +kernel
theorem dX1_add_30 : decode cX1_add 30 = .ok (.aload_n 0, 1) := by decide +kernel
theorem dX1_add_31 : decode cX1_add 31 = .ok (.getfield 24, 3) := by decide +kernel
theorem dX1_add_34 : decode cX1_add 34 = .ok (.iconst 1, 1) := by decide +kernel
theorem dX1_add_35 : decode cX1_add 35 = .ok (.isub, 1) := by decide +kernel
theorem dX1_add_36 : decode cX1_add 36 = .ok (.ireturn, 1) := by decide +kernel
theorem dX1_cellOf_0 : decode cX1_cellOf 0 = .ok (.aload_n 0, 1) := by decide +kernel
theorem dX1_cellOf_1 : decode cX1_cellOf 1 = .ok (.getfield 9, 3) := by decide +kernel
theorem dX1_cellOf_4 : decode cX1_cellOf 4 = .ok (.iload_n 1, 1) := by decide +kernel
theorem dX1_cellOf_5 : decode cX1_cellOf 5 = .ok (.iaload, 1) := by decide +kernel
theorem dX1_cellOf_6 : decode cX1_cellOf 6 = .ok (.ireturn, 1) := by decide +kernel
theorem dX1_latestOf_0 : decode cX1_latestOf 0 = .ok (.aload_n 0, 1) := by decide +kernel
theorem dX1_latestOf_1 : decode cX1_latestOf 1 = .ok (.getfield 21, 3) := by decide +kernel
theorem dX1_latestOf_4 : decode cX1_latestOf 4 = .ok (.iload_n 1, 1) := by decide +kernel
theorem dX1_latestOf_5 : decode cX1_latestOf 5 = .ok (.iaload, 1) := by decide +kernel
theorem dX1_latestOf_6 : decode cX1_latestOf 6 = .ok (.ireturn, 1) := by decide +kernel
theorem dX1_pointsOf_0 : decode cX1_pointsOf 0 = .ok (.aload_n 0, 1) := by decide +kernel
theorem dX1_pointsOf_1 : decode cX1_pointsOf 1 = .ok (.getfield 18, 3) := by decide +kernel
theorem dX1_pointsOf_4 : decode cX1_pointsOf 4 = .ok (.iload_n 1, 1) := by decide +kernel
theorem dX1_pointsOf_5 : decode cX1_pointsOf 5 = .ok (.iaload, 1) := by decide +kernel
theorem dX1_pointsOf_6 : decode cX1_pointsOf 6 = .ok (.ireturn, 1) := by decide +kernel
theorem dX1_addPoints_0 : decode cX1_addPoints 0 = .ok (.aload_n 0, 1) := by decide +kernel
theorem dX1_addPoints_1 : decode cX1_addPoints 1 = .ok (.getfield 18, 3) := by decide +kernel
theorem dX1_addPoints_4 : decode cX1_addPoints 4 = .ok (.iload_n 1, 1) := by decide +kernel
theorem dX1_addPoints_5 : decode cX1_addPoints 5 = .ok (.dup2, 1) := by decide +kernel
theorem dX1_addPoints_6 : decode cX1_addPoints 6 = .ok (.iaload, 1) := by decide +kernel
theorem dX1_addPoints_7 : decode cX1_addPoints 7 = .ok (.iload_n 2, 1) := by decide +kernel
theorem dX1_addPoints_8 : decode cX1_addPoints 8 = .ok (.iadd, 1) := by decide +kernel
theorem dX1_addPoints_9 : decode cX1_addPoints 9 = .ok (.iastore, 1) := by decide +kernel
theorem dX1_addPoints_10 : decode cX1_addPoints 10 = .ok (.return_, 1) := by decide +kernel
theorem dX1_allPoints_0 : decode cX1_allPoints 0 = .ok (.iconst 0, 1) := by decide +kernel
theorem dX1_allPoints_1 : decode cX1_allPoints 1 = .ok (.istore_n 1, 1) := by decide +kernel
theorem dX1_allPoints_2 : decode cX1_allPoints 2 = .ok (.iconst 0, 1) := by decide +kernel
theorem dX1_allPoints_3 : decode cX1_allPoints 3 = .ok (.istore_n 2, 1) := by decide +kernel
theorem dX1_allPoints_4 : decode cX1_allPoints 4 = .ok (.iload_n 2, 1) := by decide +kernel
theorem dX1_allPoints_5 : decode cX1_allPoints 5 = .ok (.aload_n 0, 1) := by decide +kernel
theorem dX1_allPoints_6 : decode cX1_allPoints 6 = .ok (.getfield 24, 3) := by decide +kernel
theorem dX1_allPoints_9 : decode cX1_allPoints 9 = .ok (.if_icmp .ge 18, 3) := by decide +kernel
theorem dX1_allPoints_12 : decode cX1_allPoints 12 = .ok (.iload_n 1, 1) := by decide +kernel
theorem dX1_allPoints_13 : decode cX1_allPoints 13 = .ok (.aload_n 0, 1) := by decide +kernel
theorem dX1_allPoints_14 : decode cX1_allPoints 14 = .ok (.getfield 18, 3) := by decide +kernel
theorem dX1_allPoints_17 : decode cX1_allPoints 17 = .ok (.iload_n 2, 1) := by decide +kernel
theorem dX1_allPoints_18 : decode cX1_allPoints 18 = .ok (.iaload, 1) := by decide +kernel
theorem dX1_allPoints_19 : decode cX1_allPoints 19 = .ok (.iadd, 1) := by decide +kernel
theorem dX1_allPoints_20 : decode cX1_allPoints 20 = .ok (.istore_n 1, 1) := by decide +kernel
theorem dX1_allPoints_21 : decode cX1_allPoints 21 = .ok (.iinc 2 1, 3) := by decide +kernel
theorem dX1_allPoints_24 : decode cX1_allPoints 24 = .ok (.goto (-20), 3) := by decide +kernel
theorem dX1_allPoints_27 : decode cX1_allPoints 27 = .ok (.iload_n 1, 1) := by decide +kernel
theorem dX1_allPoints_28 : decode cX1_allPoints 28 = .ok (.ireturn, 1) := by decide +kernel
theorem dX1_countOf_0 : decode cX1_countOf 0 = .ok (.iconst 0, 1) := by decide +kernel
theorem dX1_countOf_1 : decode cX1_countOf 1 = .ok (.istore_n 2, 1) := by decide +kernel
theorem dX1_countOf_2 : decode cX1_countOf 2 = .ok (.iconst 0, 1) := by decide +kernel
theorem dX1_countOf_3 : decode cX1_countOf 3 = .ok (.istore_n 3, 1) := by decide +kernel
theorem dX1_countOf_4 : decode cX1_countOf 4 = .ok (.iload_n 3, 1) := by decide +kernel
theorem dX1_countOf_5 : decode cX1_countOf 5 = .ok (.aload_n 0, 1) := by decide +kernel
theorem dX1_countOf_6 : decode cX1_countOf 6 = .ok (.getfield 24, 3) := by decide +kernel
theorem dX1_countOf_9 : decode cX1_countOf 9 = .ok (.if_icmp .ge 22, 3) := by decide +kernel
theorem dX1_countOf_12 : decode cX1_countOf 12 = .ok (.aload_n 0, 1) := by decide +kernel
theorem dX1_countOf_13 : decode cX1_countOf 13 = .ok (.getfield 9, 3) := by decide +kernel
theorem dX1_countOf_16 : decode cX1_countOf 16 = .ok (.iload_n 3, 1) := by decide +kernel
theorem dX1_countOf_17 : decode cX1_countOf 17 = .ok (.iaload, 1) := by decide +kernel
theorem dX1_countOf_18 : decode cX1_countOf 18 = .ok (.iload_n 1, 1) := by decide +kernel
theorem dX1_countOf_19 : decode cX1_countOf 19 = .ok (.if_icmp .ne 6, 3) := by decide +kernel
theorem dX1_countOf_22 : decode cX1_countOf 22 = .ok (.iinc 2 1, 3) := by decide +kernel
theorem dX1_countOf_25 : decode cX1_countOf 25 = .ok (.iinc 3 1, 3) := by decide +kernel
theorem dX1_countOf_28 : decode cX1_countOf 28 = .ok (.goto (-24), 3) := by decide +kernel
theorem dX1_countOf_31 : decode cX1_countOf 31 = .ok (.iload_n 2, 1) := by decide +kernel
theorem dX1_countOf_32 : decode cX1_countOf 32 = .ok (.ireturn, 1) := by decide +kernel
theorem dX1_fatigueIn_0 : decode cX1_fatigueIn 0 = .ok (.iconst 0, 1) := by decide +kernel
theorem dX1_fatigueIn_1 : decode cX1_fatigueIn 1 = .ok (.aload_n 0, 1) := by decide +kernel
theorem dX1_fatigueIn_2 : decode cX1_fatigueIn 2 = .ok (.getfield 15, 3) := by decide +kernel
theorem dX1_fatigueIn_5 : decode cX1_fatigueIn 5 = .ok (.iload_n 1, 1) := by decide +kernel
theorem dX1_fatigueIn_6 : decode cX1_fatigueIn 6 = .ok (.iaload, 1) := by decide +kernel
theorem dX1_fatigueIn_7 : decode cX1_fatigueIn 7 = .ok (.iload_n 2, 1) := by decide +kernel
theorem dX1_fatigueIn_8 : decode cX1_fatigueIn 8 = .ok (.isub, 1) := by decide +kernel
theorem dX1_fatigueIn_9 : decode cX1_fatigueIn 9 = .ok (.invokestatic 31, 3) := by decide +kernel
theorem dX1_fatigueIn_12 : decode cX1_fatigueIn 12 = .ok (.ireturn, 1) := by decide +kernel
theorem dX1_ask_0 : decode cX1_ask 0 = .ok (.aload_n 0, 1) := by decide +kernel
theorem dX1_ask_1 : decode cX1_ask 1 = .ok (.getfield 15, 3) := by decide +kernel
theorem dX1_ask_4 : decode cX1_ask 4 = .ok (.iload_n 1, 1) := by decide +kernel
theorem dX1_ask_5 : decode cX1_ask 5 = .ok (.bipush 9, 2) := by decide +kernel
theorem dX1_ask_7 : decode cX1_ask 7 = .ok (.aload_n 0, 1) := by decide +kernel
theorem dX1_ask_8 : decode cX1_ask 8 = .ok (.getfield 15, 3) := by decide +kernel
theorem dX1_ask_11 : decode cX1_ask 11 = .ok (.iload_n 1, 1) := by decide +kernel
theorem dX1_ask_12 : decode cX1_ask 12 = .ok (.iaload, 1) := by decide +kernel
theorem dX1_ask_13 : decode cX1_ask 13 = .ok (.iconst 2, 1) := by decide +kernel
theorem dX1_ask_14 : decode cX1_ask 14 = .ok (.iadd, 1) := by decide +kernel
theorem dX1_ask_15 : decode cX1_ask 15 = .ok (.invokestatic 37, 3) := by decide +kernel
theorem dX1_ask_18 : decode cX1_ask 18 = .ok (.iastore, 1) := by decide +kernel
theorem dX1_ask_19 : decode cX1_ask 19 = .ok (.aload_n 0, 1) := by decide +kernel
theorem dX1_ask_20 : decode cX1_ask 20 = .ok (.getfield 21, 3) := by decide +kernel
theorem dX1_ask_23 : decode cX1_ask 23 = .ok (.iload_n 1, 1) := by decide +kernel
theorem dX1_ask_24 : decode cX1_ask 24 = .ok (.iload_n 2, 1) := by decide +kernel
theorem dX1_ask_25 : decode cX1_ask 25 = .ok (.iastore, 1) := by decide +kernel
theorem dX1_ask_26 : decode cX1_ask 26 = .ok (.return_, 1) := by decide +kernel
set_option maxRecDepth 20000 in
theorem ggX1_beginDay_X1_fatigueIn : GoodIn wsX1_beginDay wsX1_fatigueIn := goodIn_r _ [8, 2, 9, 10, 11, 12, 13, 14, 15, 16, 17, 18] (by decide +kernel) (by decide +kernel)
set_option maxRecDepth 20000 in
theorem gX1_beginDay_X1_fatigueIn : GoodIn wsX1_beginDay (wsV RX1 40 RX1 yX1_fatigueIn wsX1_fatigueIn) := goodIn_app (goodIn_of _ (by decide +kernel)) ggX1_beginDay_X1_fatigueIn
theorem dX1_beginDay_0 : decode cX1_beginDay 0 = .ok (.iconst 0, 1) := by decide +kernel
theorem dX1_beginDay_1 : decode cX1_beginDay 1 = .ok (.istore_n 1, 1) := by decide +kernel
theorem dX1_beginDay_2 : decode cX1_beginDay 2 = .ok (.iload_n 1, 1) := by decide +kernel
theorem dX1_beginDay_3 : decode cX1_beginDay 3 = .ok (.aload_n 0, 1) := by decide +kernel
theorem dX1_beginDay_4 : decode cX1_beginDay 4 = .ok (.getfield 24, 3) := by decide +kernel
theorem dX1_beginDay_7 : decode cX1_beginDay 7 = .ok (.if_icmp .ge 21, 3) := by decide +kernel
theorem dX1_beginDay_10 : decode cX1_beginDay 10 = .ok (.aload_n 0, 1) := by decide +kernel
theorem dX1_beginDay_11 : decode cX1_beginDay 11 = .ok (.getfield 15, 3) := by decide +kernel
theorem dX1_beginDay_14 : decode cX1_beginDay 14 = .ok (.iload_n 1, 1) := by decide +kernel
theorem dX1_beginDay_15 : decode cX1_beginDay 15 = .ok (.aload_n 0, 1) := by decide +kernel
theorem dX1_beginDay_16 : decode cX1_beginDay 16 = .ok (.iload_n 1, 1) := by decide +kernel
theorem dX1_beginDay_17 : decode cX1_beginDay 17 = .ok (.iconst 1, 1) := by decide +kernel
theorem dX1_beginDay_18 : decode cX1_beginDay 18 = .ok (.invokevirtual 40, 3) := by decide +kernel
theorem dX1_beginDay_21 : decode cX1_beginDay 21 = .ok (.iastore, 1) := by decide +kernel
theorem dX1_beginDay_22 : decode cX1_beginDay 22 = .ok (.iinc 1 1, 3) := by decide +kernel
theorem dX1_beginDay_25 : decode cX1_beginDay 25 = .ok (.goto (-23), 3) := by decide +kernel
theorem dX1_beginDay_28 : decode cX1_beginDay 28 = .ok (.aload_n 0, 1) := by decide +kernel
theorem dX1_beginDay_29 : decode cX1_beginDay 29 = .ok (.dup, 1) := by decide +kernel
theorem dX1_beginDay_30 : decode cX1_beginDay 30 = .ok (.getfield 28, 3) := by decide +kernel
theorem dX1_beginDay_33 : decode cX1_beginDay 33 = .ok (.iconst 1, 1) := by decide +kernel
theorem dX1_beginDay_34 : decode cX1_beginDay 34 = .ok (.iadd, 1) := by decide +kernel
theorem dX1_beginDay_35 : decode cX1_beginDay 35 = .ok (.putfield 28, 3) := by decide +kernel
theorem dX1_beginDay_38 : decode cX1_beginDay 38 = .ok (.aload_n 0, 1) := by decide +kernel
theorem dX1_beginDay_39 : decode cX1_beginDay 39 = .ok (.getfield 28, 3) := by decide +kernel
theorem dX1_beginDay_42 : decode cX1_beginDay 42 = .ok (.ireturn, 1) := by decide +kernel
set_option maxRecDepth 20000 in
theorem ggX2_init_J7_fill_53178 : GoodIn wsX2_init wsJ7_fill_53178 := goodIn_r _ [11] (by decide +kernel) (by decide +kernel)
set_option maxRecDepth 20000 in
theorem gX2_init_J7_fill_53178 : GoodIn wsX2_init (va_wsS RX2 21 yJ7_fill_53178 wsJ7_fill_53178) := goodIn_app (goodIn_of _ (by decide +kernel)) ggX2_init_J7_fill_53178
theorem dX2_init_0 : decode cX2_init 0 = .ok (.aload_n 0, 1) := by decide +kernel
theorem dX2_init_1 : decode cX2_init 1 = .ok (.invokespecial 3, 3) := by decide +kernel
theorem dX2_init_4 : decode cX2_init 4 = .ok (.aload_n 0, 1) := by decide +kernel
theorem dX2_init_5 : decode cX2_init 5 = .ok (.bipush 10, 2) := by decide +kernel
theorem dX2_init_7 : decode cX2_init 7 = .ok (.newarray .int, 2) := by decide +kernel
theorem dX2_init_9 : decode cX2_init 9 = .ok (.putfield 9, 3) := by decide +kernel
theorem dX2_init_12 : decode cX2_init 12 = .ok (.aload_n 0, 1) := by decide +kernel
theorem dX2_init_13 : decode cX2_init 13 = .ok (.bipush 50, 2) := by decide +kernel
theorem dX2_init_15 : decode cX2_init 15 = .ok (.newarray .int, 2) := by decide +kernel
theorem dX2_init_17 : decode cX2_init 17 = .ok (.putfield 15, 3) := by decide +kernel
theorem dX2_init_20 : decode cX2_init 20 = .ok (.aload_n 0, 1) := by decide +kernel
theorem dX2_init_21 : decode cX2_init 21 = .ok (.bipush 10, 2) := by decide +kernel
theorem dX2_init_23 : decode cX2_init 23 = .ok (.newarray .int, 2) := by decide +kernel
theorem dX2_init_25 : decode cX2_init 25 = .ok (.putfield 18, 3) := by decide +kernel
theorem dX2_init_28 : decode cX2_init 28 = .ok (.aload_n 0, 1) := by decide +kernel
theorem dX2_init_29 : decode cX2_init 29 = .ok (.getfield 15, 3) := by decide +kernel
theorem dX2_init_32 : decode cX2_init 32 = .ok (.bipush (-2), 2) := by decide +kernel
theorem dX2_init_34 : decode cX2_init 34 = .ok (.invokestatic 21, 3) := by decide +kernel
theorem dX2_init_37 : decode cX2_init 37 = .ok (.return_, 1) := by decide +kernel
theorem dX2_size_0 : decode cX2_size 0 = .ok (.aload_n 0, 1) := by decide +kernel
theorem dX2_size_1 : decode cX2_size 1 = .ok (.getfield 27, 3) := by decide +kernel
theorem dX2_size_4 : decode cX2_size 4 = .ok (.ireturn, 1) := by decide +kernel
theorem dX2_has_0 : decode cX2_has 0 = .ok (.iload_n 1, 1) := by decide +kernel
theorem dX2_has_1 : decode cX2_has 1 = .ok (.ifCond .lt 15, 3) := by decide +kernel
theorem dX2_has_4 : decode cX2_has 4 = .ok (.iload_n 1, 1) := by decide +kernel
theorem dX2_has_5 : decode cX2_has 5 = .ok (.aload_n 0, 1) := by decide +kernel
theorem dX2_has_6 : decode cX2_has 6 = .ok (.getfield 27, 3) := by decide +kernel
theorem dX2_has_9 : decode cX2_has 9 = .ok (.if_icmp .ge 7, 3) := by decide +kernel
theorem dX2_has_12 : decode cX2_has 12 = .ok (.iconst 1, 1) := by decide +kernel
theorem dX2_has_13 : decode cX2_has 13 = .ok (.goto 4, 3) := by decide +kernel
theorem dX2_has_16 : decode cX2_has 16 = .ok (.iconst 0, 1) := by decide +kernel
theorem dX2_has_17 : decode cX2_has 17 = .ok (.ireturn, 1) := by decide +kernel
set_option maxRecDepth 20000 in
theorem ggX2_offers_X2_has : GoodIn wsX2_offers wsX2_has := goodIn_r _ [6, 7, 8, 9, 10, 11, 12] (by decide +kernel) (by decide +kernel)
set_option maxRecDepth 20000 in
theorem gX2_offers_X2_has : GoodIn wsX2_offers (wsV RX2 31 RX2 yX2_has wsX2_has) := goodIn_app (goodIn_of _ (by decide +kernel)) ggX2_offers_X2_has
theorem dX2_offers_0 : decode cX2_offers 0 = .ok (.aload_n 0, 1) := by decide +kernel
theorem dX2_offers_1 : decode cX2_offers 1 = .ok (.iload_n 1, 1) := by decide +kernel
theorem dX2_offers_2 : decode cX2_offers 2 = .ok (.invokevirtual 31, 3) := by decide +kernel
theorem dX2_offers_5 : decode cX2_offers 5 = .ok (.ifCond .eq 21, 3) := by decide +kernel
theorem dX2_offers_8 : decode cX2_offers 8 = .ok (.iload_n 2, 1) := by decide +kernel
theorem dX2_offers_9 : decode cX2_offers 9 = .ok (.ifCond .lt 17, 3) := by decide +kernel
theorem dX2_offers_12 : decode cX2_offers 12 = .ok (.iload_n 2, 1) := by decide +kernel
theorem dX2_offers_13 : decode cX2_offers 13 = .ok (.aload_n 0, 1) := by decide +kernel
theorem dX2_offers_14 : decode cX2_offers 14 = .ok (.getfield 9, 3) := by decide +kernel
theorem dX2_offers_17 : decode cX2_offers 17 = .ok (.iload_n 1, 1) := by decide +kernel
theorem dX2_offers_18 : decode cX2_offers 18 = .ok (.iaload, 1) := by decide +kernel
theorem dX2_offers_19 : decode cX2_offers 19 = .ok (.if_icmp .ge 7, 3) := by decide +kernel
theorem dX2_offers_22 : decode cX2_offers 22 = .ok (.iconst 1, 1) := by decide +kernel
theorem dX2_offers_23 : decode cX2_offers 23 = .ok (.goto 4, 3) := by decide +kernel
theorem dX2_offers_26 : decode cX2_offers 26 = .ok (.iconst 0, 1) := by decide +kernel
theorem dX2_offers_27 : decode cX2_offers 27 = .ok (.ireturn, 1) := by decide +kernel
theorem dX2_answersOf_0 : decode cX2_answersOf 0 = .ok (.aload_n 0, 1) := by decide +kernel
theorem dX2_answersOf_1 : decode cX2_answersOf 1 = .ok (.getfield 9, 3) := by decide +kernel
theorem dX2_answersOf_4 : decode cX2_answersOf 4 = .ok (.iload_n 1, 1) := by decide +kernel
theorem dX2_answersOf_5 : decode cX2_answersOf 5 = .ok (.iaload, 1) := by decide +kernel
theorem dX2_answersOf_6 : decode cX2_answersOf 6 = .ok (.ireturn, 1) := by decide +kernel
theorem dX2_add_0 : decode cX2_add 0 = .ok (.aload_n 0, 1) := by decide +kernel
theorem dX2_add_1 : decode cX2_add 1 = .ok (.getfield 9, 3) := by decide +kernel
theorem dX2_add_4 : decode cX2_add 4 = .ok (.aload_n 0, 1) := by decide +kernel
theorem dX2_add_5 : decode cX2_add 5 = .ok (.getfield 27, 3) := by decide +kernel
theorem dX2_add_8 : decode cX2_add 8 = .ok (.iload_n 1, 1) := by decide +kernel
theorem dX2_add_9 : decode cX2_add 9 = .ok (.iastore, 1) := by decide +kernel
theorem dX2_add_10 : decode cX2_add 10 = .ok (.aload_n 0, 1) := by decide +kernel
theorem dX2_add_11 : decode cX2_add 11 = .ok (.dup, 1) := by decide +kernel
theorem dX2_add_12 : decode cX2_add 12 = .ok (.getfield 27, 3) := by decide +kernel
theorem dX2_add_15 : decode cX2_add 15 = .ok (.iconst 1, 1) := by decide +kernel
theorem dX2_add_16 : decode cX2_add 16 = .ok (.iadd, 1) := by decide +kernel
theorem dX2_add_17 : decode cX2_add 17 = .ok (.putfield 27, 3) := by decide +kernel
theorem dX2_add_20 : decode cX2_add 20 = .ok (.aload_n 0, 1) := by decide +kernel
theorem dX2_add_21 : decode cX2_add 21 = .ok (.getfield 27, 3) := by decide +kernel
theorem dX2_add_24 : decode cX2_add 24 = .ok (.iconst 1, 1) := by decide +kernel
theorem dX2_add_25 : decode cX2_add 25 = .ok (.isub, 1) := by decide +kernel
theorem dX2_add_26 : decode cX2_add 26 = .ok (.ireturn, 1) := by decide +kernel
theorem dX2_rotation_0 : decode cX2_rotation 0 = .ok (.aload_n 0, 1) := by decide +kernel
theorem dX2_rotation_1 : decode cX2_rotation 1 = .ok (.getfield 35, 3) := by decide +kernel
theorem dX2_rotation_4 : decode cX2_rotation 4 = .ok (.ireturn, 1) := by decide +kernel
theorem dX2_setRotation_0 : decode cX2_setRotation 0 = .ok (.aload_n 0, 1) := by decide +kernel
theorem dX2_setRotation_1 : decode cX2_setRotation 1 = .ok (.iload_n 1, 1) := by decide +kernel
theorem dX2_setRotation_2 : decode cX2_setRotation 2 = .ok (.putfield 35, 3) := by decide +kernel
theorem dX2_setRotation_5 : decode cX2_setRotation 5 = .ok (.return_, 1) := by decide +kernel
set_option maxRecDepth 20000 in
theorem ggX2_wayFrom_X2_orEnd : GoodIn wsX2_wayFrom wsX2_orEnd := goodIn_r _ [6, 7, 8, 9, 10, 11, 12] (by decide +kernel) (by decide +kernel)
set_option maxRecDepth 20000 in
theorem gX2_wayFrom_X2_orEnd : GoodIn wsX2_wayFrom (wsV RX2 38 RX2 yX2_orEnd wsX2_orEnd) := goodIn_app (goodIn_of _ (by decide +kernel)) ggX2_wayFrom_X2_orEnd
theorem dX2_wayFrom_0 : decode cX2_wayFrom 0 = .ok (.aload_n 0, 1) := by decide +kernel
theorem dX2_wayFrom_1 : decode cX2_wayFrom 1 = .ok (.getfield 15, 3) := by decide +kernel
theorem dX2_wayFrom_4 : decode cX2_wayFrom 4 = .ok (.iload_n 1, 1) := by decide +kernel
theorem dX2_wayFrom_5 : decode cX2_wayFrom 5 = .ok (.iconst 5, 1) := by decide +kernel
theorem dX2_wayFrom_6 : decode cX2_wayFrom 6 = .ok (.imul, 1) := by decide +kernel
theorem dX2_wayFrom_7 : decode cX2_wayFrom 7 = .ok (.iload_n 2, 1) := by decide +kernel
theorem dX2_wayFrom_8 : decode cX2_wayFrom 8 = .ok (.iadd, 1) := by decide +kernel
theorem dX2_wayFrom_9 : decode cX2_wayFrom 9 = .ok (.iaload, 1) := by decide +kernel
theorem dX2_wayFrom_10 : decode cX2_wayFrom 10 = .ok (.istore_n 3, 1) := by decide +kernel
theorem dX2_wayFrom_11 : decode cX2_wayFrom 11 = .ok (.iload_n 3, 1) := by decide +kernel
theorem dX2_wayFrom_12 : decode cX2_wayFrom 12 = .ok (.bipush (-2), 2) := by decide +kernel
theorem dX2_wayFrom_14 : decode cX2_wayFrom 14 = .ok (.if_icmp .ne 13, 3) := by decide +kernel
theorem dX2_wayFrom_17 : decode cX2_wayFrom 17 = .ok (.aload_n 0, 1) := by decide +kernel
theorem dX2_wayFrom_18 : decode cX2_wayFrom 18 = .ok (.iload_n 1, 1) := by decide +kernel
theorem dX2_wayFrom_19 : decode cX2_wayFrom 19 = .ok (.iconst 1, 1) := by decide +kernel
theorem dX2_wayFrom_20 : decode cX2_wayFrom 20 = .ok (.iadd, 1) := by decide +kernel
theorem dX2_wayFrom_21 : decode cX2_wayFrom 21 = .ok (.invokevirtual 38, 3) := by decide +kernel
theorem dX2_wayFrom_24 : decode cX2_wayFrom 24 = .ok (.goto 4, 3) := by decide +kernel
theorem dX2_wayFrom_27 : decode cX2_wayFrom 27 = .ok (.iload_n 3, 1) := by decide +kernel
theorem dX2_wayFrom_28 : decode cX2_wayFrom 28 = .ok (.ireturn, 1) := by decide +kernel
theorem dX2_setWay_0 : decode cX2_setWay 0 = .ok (.aload_n 0, 1) := by decide +kernel
theorem dX2_setWay_1 : decode cX2_setWay 1 = .ok (.getfield 15, 3) := by decide +kernel
theorem dX2_setWay_4 : decode cX2_setWay 4 = .ok (.iload_n 1, 1) := by decide +kernel
theorem dX2_setWay_5 : decode cX2_setWay 5 = .ok (.iconst 5, 1) := by decide +kernel
theorem dX2_setWay_6 : decode cX2_setWay 6 = .ok (.imul, 1) := by decide +kernel
theorem dX2_setWay_7 : decode cX2_setWay 7 = .ok (.iload_n 2, 1) := by decide +kernel
theorem dX2_setWay_8 : decode cX2_setWay 8 = .ok (.iadd, 1) := by decide +kernel
theorem dX2_setWay_9 : decode cX2_setWay 9 = .ok (.iload_n 3, 1) := by decide +kernel
theorem dX2_setWay_10 : decode cX2_setWay 10 = .ok (.iastore, 1) := by decide +kernel
theorem dX2_setWay_11 : decode cX2_setWay 11 = .ok (.return_, 1) := by decide +kernel
theorem dX2_orEnd_0 : decode cX2_orEnd 0 = .ok (.iload_n 1, 1) := by decide +kernel
theorem dX2_orEnd_1 : decode cX2_orEnd 1 = .ok (.aload_n 0, 1) := by decide +kernel
theorem dX2_orEnd_2 : decode cX2_orEnd 2 = .ok (.getfield 27, 3) := by decide +kernel
theorem dX2_orEnd_5 : decode cX2_orEnd 5 = .ok (.if_icmp .ge 7, 3) := by decide +kernel
theorem dX2_orEnd_8 : decode cX2_orEnd 8 = .ok (.iload_n 1, 1) := by decide +kernel
theorem dX2_orEnd_9 : decode cX2_orEnd 9 = .ok (.goto 4, 3) := by decide +kernel
theorem dX2_orEnd_12 : decode cX2_orEnd 12 = .ok (.iconst (-1), 1) := by decide +kernel
theorem dX2_orEnd_13 : decode cX2_orEnd 13 = .ok (.ireturn, 1) := by decide +kernel
theorem dX2_firstOf_0 : decode cX2_firstOf 0 = .ok (.aload_n 0, 1) := by decide +kernel
theorem dX2_firstOf_1 : decode cX2_firstOf 1 = .ok (.getfield 35, 3) := by decide +kernel
theorem dX2_firstOf_4 : decode cX2_firstOf 4 = .ok (.ifCond .le 12, 3) := by decide +kernel
theorem dX2_firstOf_7 : decode cX2_firstOf 7 = .ok (.iload_n 1, 1) := by decide +kernel
theorem dX2_firstOf_8 : decode cX2_firstOf 8 = .ok (.aload_n 0, 1) := by decide +kernel
theorem dX2_firstOf_9 : decode cX2_firstOf 9 = .ok (.getfield 35, 3) := by decide +kernel
theorem dX2_firstOf_12 : decode cX2_firstOf 12 = .ok (.irem, 1) := by decide +kernel
theorem dX2_firstOf_13 : decode cX2_firstOf 13 = .ok (.goto 4, 3) := by decide +kernel
theorem dX2_firstOf_16 : decode cX2_firstOf 16 = .ok (.iconst 0, 1) := by decide +kernel
theorem dX2_firstOf_17 : decode cX2_firstOf 17 = .ok (.ireturn, 1) := by decide +kernel
set_option maxRecDepth 20000 in
theorem ggX2_nextOf_X2_orEnd : GoodIn wsX2_nextOf wsX2_orEnd := goodIn_r _ [6, 7, 13, 14, 15, 16, 17] (by decide +kernel) (by decide +kernel)
set_option maxRecDepth 20000 in
theorem gX2_nextOf_X2_orEnd : GoodIn wsX2_nextOf (wsV RX2 38 RX2 yX2_orEnd wsX2_orEnd) := goodIn_app (goodIn_of _ (by decide +kernel)) ggX2_nextOf_X2_orEnd
set_option maxRecDepth 20000 in
theorem ggX2_nextOf_X2_wayFrom : GoodIn wsX2_nextOf wsX2_wayFrom := goodIn_r _ [11, 12, 2, 3, 4, 5, 6, 7, 13, 14, 15, 16, 17] (by decide +kernel) (by decide +kernel)
set_option maxRecDepth 20000 in
theorem gX2_nextOf_X2_wayFrom : GoodIn wsX2_nextOf (wsV RX2 42 RX2 yX2_wayFrom wsX2_wayFrom) := goodIn_app (goodIn_of _ (by decide +kernel)) ggX2_nextOf_X2_wayFrom
theorem dX2_nextOf_0 : decode cX2_nextOf 0 = .ok (.aload_n 0, 1) := by decide +kernel
theorem dX2_nextOf_1 : decode cX2_nextOf 1 = .ok (.getfield 35, 3) := by decide +kernel
theorem dX2_nextOf_4 : decode cX2_nextOf 4 = .ok (.ifCond .le 20, 3) := by decide +kernel
theorem dX2_nextOf_7 : decode cX2_nextOf 7 = .ok (.iload_n 2, 1) := by decide +kernel
theorem dX2_nextOf_8 : decode cX2_nextOf 8 = .ok (.aload_n 0, 1) := by decide +kernel
theorem dX2_nextOf_9 : decode cX2_nextOf 9 = .ok (.getfield 35, 3) := by decide +kernel
theorem dX2_nextOf_12 : decode cX2_nextOf 12 = .ok (.if_icmp .ge 12, 3) := by decide +kernel
theorem dX2_nextOf_15 : decode cX2_nextOf 15 = .ok (.iload_n 1, 1) := by decide +kernel
theorem dX2_nextOf_16 : decode cX2_nextOf 16 = .ok (.iload_n 2, 1) := by decide +kernel
theorem dX2_nextOf_17 : decode cX2_nextOf 17 = .ok (.iadd, 1) := by decide +kernel
theorem dX2_nextOf_18 : decode cX2_nextOf 18 = .ok (.aload_n 0, 1) := by decide +kernel
theorem dX2_nextOf_19 : decode cX2_nextOf 19 = .ok (.getfield 35, 3) := by decide +kernel
theorem dX2_nextOf_22 : decode cX2_nextOf 22 = .ok (.irem, 1) := by decide +kernel
theorem dX2_nextOf_23 : decode cX2_nextOf 23 = .ok (.ireturn, 1) := by decide +kernel
theorem dX2_nextOf_24 : decode cX2_nextOf 24 = .ok (.aload_n 0, 1) := by decide +kernel
theorem dX2_nextOf_25 : decode cX2_nextOf 25 = .ok (.getfield 35, 3) := by decide +kernel
theorem dX2_nextOf_28 : decode cX2_nextOf 28 = .ok (.ifCond .le 20, 3) := by decide +kernel
theorem dX2_nextOf_31 : decode cX2_nextOf 31 = .ok (.iload_n 2, 1) := by decide +kernel
theorem dX2_nextOf_32 : decode cX2_nextOf 32 = .ok (.aload_n 0, 1) := by decide +kernel
theorem dX2_nextOf_33 : decode cX2_nextOf 33 = .ok (.getfield 35, 3) := by decide +kernel
theorem dX2_nextOf_36 : decode cX2_nextOf 36 = .ok (.if_icmp .ne 12, 3) := by decide +kernel
theorem dX2_nextOf_39 : decode cX2_nextOf 39 = .ok (.aload_n 0, 1) := by decide +kernel
theorem dX2_nextOf_40 : decode cX2_nextOf 40 = .ok (.aload_n 0, 1) := by decide +kernel
theorem dX2_nextOf_41 : decode cX2_nextOf 41 = .ok (.getfield 35, 3) := by decide +kernel
theorem dX2_nextOf_44 : decode cX2_nextOf 44 = .ok (.invokevirtual 38, 3) := by decide +kernel
theorem dX2_nextOf_47 : decode cX2_nextOf 47 = .ok (.ireturn, 1) := by decide +kernel
theorem dX2_nextOf_48 : decode cX2_nextOf 48 = .ok (.aload_n 0, 1) := by decide +kernel
theorem dX2_nextOf_49 : decode cX2_nextOf 49 = .ok (.iload_n 3, 1) := by decide +kernel
theorem dX2_nextOf_50 : decode cX2_nextOf 50 = .ok (.iload 4, 2) := by decide +kernel
theorem dX2_nextOf_52 : decode cX2_nextOf 52 = .ok (.invokevirtual 42, 3) := by decide +kernel
theorem dX2_nextOf_55 : decode cX2_nextOf 55 = .ok (.ireturn, 1) := by decide +kernel
set_option maxRecDepth 20000 in
theorem ggX2_stepsFrom_X2_wayFrom : GoodIn wsX2_stepsFrom wsX2_wayFrom := goodIn_r _ [12, 13, 14, 15, 16, 11, 17, 1, 18, 19, 20, 21, 22] (by decide +kernel) (by decide +kernel)
set_option maxRecDepth 20000 in
theorem gX2_stepsFrom_X2_wayFrom : GoodIn wsX2_stepsFrom (wsV RX2 42 RX2 yX2_wayFrom wsX2_wayFrom) := goodIn_app (goodIn_of _ (by decide +kernel)) ggX2_stepsFrom_X2_wayFrom
theorem dX2_stepsFrom_0 : decode cX2_stepsFrom 0 = .ok (.aload_n 0, 1) := by decide +kernel
theorem dX2_stepsFrom_1 : decode cX2_stepsFrom 1 = .ok (.getfield 27, 3) := by decide +kernel
theorem dX2_stepsFrom_4 : decode cX2_stepsFrom 4 = .ok (.iconst 1, 1) := by decide +kernel
theorem dX2_stepsFrom_5 : decode cX2_stepsFrom 5 = .ok (.isub, 1) := by decide +kernel
theorem dX2_stepsFrom_6 : decode cX2_stepsFrom 6 = .ok (.istore_n 2, 1) := by decide +kernel
theorem dX2_stepsFrom_7 : decode cX2_stepsFrom 7 = .ok (.iload_n 2, 1) := by decide +kernel
theorem dX2_stepsFrom_8 : decode cX2_stepsFrom 8 = .ok (.iload_n 1, 1) := by decide +kernel
theorem dX2_stepsFrom_9 : decode cX2_stepsFrom 9 = .ok (.if_icmp .lt 72, 3) := by decide +kernel
theorem dX2_stepsFrom_12 : decode cX2_stepsFrom 12 = .ok (.bipush 10, 2) := by decide +kernel
theorem dX2_stepsFrom_14 : decode cX2_stepsFrom 14 = .ok (.istore_n 3, 1) := by decide +kernel
theorem dX2_stepsFrom_15 : decode cX2_stepsFrom 15 = .ok (.iconst 0, 1) := by decide +kernel
theorem dX2_stepsFrom_16 : decode cX2_stepsFrom 16 = .ok (.istore 4, 2) := by decide +kernel
theorem dX2_stepsFrom_18 : decode cX2_stepsFrom 18 = .ok (.iload 4, 2) := by decide +kernel
theorem dX2_stepsFrom_20 : decode cX2_stepsFrom 20 = .ok (.aload_n 0, 1) := by decide +kernel
theorem dX2_stepsFrom_21 : decode cX2_stepsFrom 21 = .ok (.getfield 9, 3) := by decide +kernel
theorem dX2_stepsFrom_24 : decode cX2_stepsFrom 24 = .ok (.iload_n 2, 1) := by decide +kernel
theorem dX2_stepsFrom_25 : decode cX2_stepsFrom 25 = .ok (.iaload, 1) := by decide +kernel
theorem dX2_stepsFrom_26 : decode cX2_stepsFrom 26 = .ok (.if_icmp .ge 42, 3) := by decide +kernel
theorem dX2_stepsFrom_29 : decode cX2_stepsFrom 29 = .ok (.aload_n 0, 1) := by decide +kernel
theorem dX2_stepsFrom_30 : decode cX2_stepsFrom 30 = .ok (.iload_n 2, 1) := by decide +kernel
theorem dX2_stepsFrom_31 : decode cX2_stepsFrom 31 = .ok (.iload 4, 2) := by decide +kernel
theorem dX2_stepsFrom_33 : decode cX2_stepsFrom 33 = .ok (.invokevirtual 42, 3) := by decide +kernel
theorem dX2_stepsFrom_36 : decode cX2_stepsFrom 36 = .ok (.istore 5, 2) := by decide +kernel
theorem dX2_stepsFrom_38 : decode cX2_stepsFrom 38 = .ok (.iload_n 3, 1) := by decide +kernel
theorem dX2_stepsFrom_39 : decode cX2_stepsFrom 39 = .ok (.iload 5, 2) := by decide +kernel
theorem dX2_stepsFrom_41 : decode cX2_stepsFrom 41 = .ok (.iconst (-1), 1) := by decide +kernel
theorem dX2_stepsFrom_42 : decode cX2_stepsFrom 42 = .ok (.if_icmp .ne 7, 3) := by decide +kernel
theorem dX2_stepsFrom_45 : decode cX2_stepsFrom 45 = .ok (.iconst 1, 1) := by decide +kernel
theorem dX2_stepsFrom_46 : decode cX2_stepsFrom 46 = .ok (.goto 12, 3) := by decide +kernel
theorem dX2_stepsFrom_49 : decode cX2_stepsFrom 49 = .ok (.iconst 1, 1) := by decide +kernel
theorem dX2_stepsFrom_50 : decode cX2_stepsFrom 50 = .ok (.aload_n 0, 1) := by decide +kernel
theorem dX2_stepsFrom_51 : decode cX2_stepsFrom 51 = .ok (.getfield 18, 3) := by decide +kernel
theorem dX2_stepsFrom_54 : decode cX2_stepsFrom 54 = .ok (.iload 5, 2) := by decide +kernel
theorem dX2_stepsFrom_56 : decode cX2_stepsFrom 56 = .ok (.iaload, 1) := by decide +kernel
theorem dX2_stepsFrom_57 : decode cX2_stepsFrom 57 = .ok (.iadd, 1) := by decide +kernel
theorem dX2_stepsFrom_58 : decode cX2_stepsFrom 58 = .ok (.invokestatic 46, 3) := by decide +kernel
theorem dX2_stepsFrom_61 : decode cX2_stepsFrom 61 = .ok (.istore_n 3, 1) := by decide +kernel
theorem dX2_stepsFrom_62 : decode cX2_stepsFrom 62 = .ok (.iinc 4 1, 3) := by decide +kernel
theorem dX2_stepsFrom_65 : decode cX2_stepsFrom 65 = .ok (.goto (-47), 3) := by decide +kernel
theorem dX2_stepsFrom_68 : decode cX2_stepsFrom 68 = .ok (.aload_n 0, 1) := by decide +kernel
theorem dX2_stepsFrom_69 : decode cX2_stepsFrom 69 = .ok (.getfield 18, 3) := by decide +kernel
theorem dX2_stepsFrom_72 : decode cX2_stepsFrom 72 = .ok (.iload_n 2, 1) := by decide +kernel
theorem dX2_stepsFrom_73 : decode cX2_stepsFrom 73 = .ok (.iload_n 3, 1) := by decide +kernel
theorem dX2_stepsFrom_74 : decode cX2_stepsFrom 74 = .ok (.iastore, 1) := by decide +kernel
theorem dX2_stepsFrom_75 : decode cX2_stepsFrom 75 = .ok (.iinc 2 (-1), 3) := by decide +kernel
theorem dX2_stepsFrom_78 : decode cX2_stepsFrom 78 = .ok (.goto (-71), 3) := by decide +kernel
theorem dX2_stepsFrom_81 : decode cX2_stepsFrom 81 = .ok (.aload_n 0, 1) := by decide +kernel
theorem dX2_stepsFrom_82 : decode cX2_stepsFrom 82 = .ok (.getfield 18, 3) := by decide +kernel
theorem dX2_stepsFrom_85 : decode cX2_stepsFrom 85 = .ok (.iload_n 1, 1) := by decide +kernel
theorem dX2_stepsFrom_86 : decode cX2_stepsFrom 86 = .ok (.iaload, 1) := by decide +kernel
theorem dX2_stepsFrom_87 : decode cX2_stepsFrom 87 = .ok (.ireturn, 1) := by decide +kernel
theorem dX3_init_0 : decode cX3_init 0 = .ok (.aload_n 0, 1) := by decide +kernel
theorem dX3_init_1 : decode cX3_init 1 = .ok (.invokespecial 3, 3) := by decide +kernel
theorem dX3_init_4 : decode cX3_init 4 = .ok (.aload_n 0, 1) := by decide +kernel
theorem dX3_init_5 : decode cX3_init 5 = .ok (.bipush 6, 2) := by decide +kernel
theorem dX3_init_7 : decode cX3_init 7 = .ok (.newarray .int, 2) := by decide +kernel
theorem dX3_init_9 : decode cX3_init 9 = .ok (.putfield 9, 3) := by decide +kernel
theorem dX3_init_12 : decode cX3_init 12 = .ok (.aload_n 0, 1) := by decide +kernel
theorem dX3_init_13 : decode cX3_init 13 = .ok (.bipush 6, 2) := by decide +kernel
theorem dX3_init_15 : decode cX3_init 15 = .ok (.newarray .int, 2) := by decide +kernel
theorem dX3_init_17 : decode cX3_init 17 = .ok (.putfield 15, 3) := by decide +kernel
theorem dX3_init_20 : decode cX3_init 20 = .ok (.return_, 1) := by decide +kernel
theorem dX3_targetOf_0 : decode cX3_targetOf 0 = .ok (.aload_n 0, 1) := by decide +kernel
theorem dX3_targetOf_1 : decode cX3_targetOf 1 = .ok (.getfield 9, 3) := by decide +kernel
theorem dX3_targetOf_4 : decode cX3_targetOf 4 = .ok (.iload_n 1, 1) := by decide +kernel
theorem dX3_targetOf_5 : decode cX3_targetOf 5 = .ok (.iaload, 1) := by decide +kernel
theorem dX3_targetOf_6 : decode cX3_targetOf 6 = .ok (.ireturn, 1) := by decide +kernel
theorem dX3_setTarget_0 : decode cX3_setTarget 0 = .ok (.aload_n 0, 1) := by decide +kernel
theorem dX3_setTarget_1 : decode cX3_setTarget 1 = .ok (.getfield 9, 3) := by decide +kernel
theorem dX3_setTarget_4 : decode cX3_setTarget 4 = .ok (.iload_n 1, 1) := by decide +kernel
theorem dX3_setTarget_5 : decode cX3_setTarget 5 = .ok (.iload_n 2, 1) := by decide +kernel
theorem dX3_setTarget_6 : decode cX3_setTarget 6 = .ok (.iastore, 1) := by decide +kernel
theorem dX3_setTarget_7 : decode cX3_setTarget 7 = .ok (.return_, 1) := by decide +kernel
theorem dX3_filledOf_0 : decode cX3_filledOf 0 = .ok (.aload_n 0, 1) := by decide +kernel
theorem dX3_filledOf_1 : decode cX3_filledOf 1 = .ok (.getfield 15, 3) := by decide +kernel
theorem dX3_filledOf_4 : decode cX3_filledOf 4 = .ok (.iload_n 1, 1) := by decide +kernel
theorem dX3_filledOf_5 : decode cX3_filledOf 5 = .ok (.iaload, 1) := by decide +kernel
theorem dX3_filledOf_6 : decode cX3_filledOf 6 = .ok (.ireturn, 1) := by decide +kernel
theorem dX3_fill_0 : decode cX3_fill 0 = .ok (.aload_n 0, 1) := by decide +kernel
theorem dX3_fill_1 : decode cX3_fill 1 = .ok (.getfield 15, 3) := by decide +kernel
theorem dX3_fill_4 : decode cX3_fill 4 = .ok (.iload_n 1, 1) := by decide +kernel
theorem dX3_fill_5 : decode cX3_fill 5 = .ok (.dup2, 1) := by decide +kernel
theorem dX3_fill_6 : decode cX3_fill 6 = .ok (.iaload, 1) := by decide +kernel
theorem dX3_fill_7 : decode cX3_fill 7 = .ok (.iload_n 2, 1) := by decide +kernel
theorem dX3_fill_8 : decode cX3_fill 8 = .ok (.iadd, 1) := by decide +kernel
theorem dX3_fill_9 : decode cX3_fill 9 = .ok (.iastore, 1) := by decide +kernel
theorem dX3_fill_10 : decode cX3_fill 10 = .ok (.return_, 1) := by decide +kernel
theorem dX3_softEdge_0 : decode cX3_softEdge 0 = .ok (.aload_n 0, 1) := by decide +kernel
theorem dX3_softEdge_1 : decode cX3_softEdge 1 = .ok (.getfield 18, 3) := by decide +kernel
theorem dX3_softEdge_4 : decode cX3_softEdge 4 = .ok (.ireturn, 1) := by decide +kernel
theorem dX3_setSoftEdge_0 : decode cX3_setSoftEdge 0 = .ok (.aload_n 0, 1) := by decide +kernel
theorem dX3_setSoftEdge_1 : decode cX3_setSoftEdge 1 = .ok (.iload_n 1, 1) := by decide +kernel
theorem dX3_setSoftEdge_2 : decode cX3_setSoftEdge 2 = .ok (.putfield 18, 3) := by decide +kernel
theorem dX3_setSoftEdge_5 : decode cX3_setSoftEdge 5 = .ok (.return_, 1) := by decide +kernel
theorem dX3_lackOf_0 : decode cX3_lackOf 0 = .ok (.aload_n 0, 1) := by decide +kernel
theorem dX3_lackOf_1 : decode cX3_lackOf 1 = .ok (.getfield 9, 3) := by decide +kernel
theorem dX3_lackOf_4 : decode cX3_lackOf 4 = .ok (.iload_n 1, 1) := by decide +kernel
theorem dX3_lackOf_5 : decode cX3_lackOf 5 = .ok (.iaload, 1) := by decide +kernel
theorem dX3_lackOf_6 : decode cX3_lackOf 6 = .ok (.aload_n 0, 1) := by decide +kernel
theorem dX3_lackOf_7 : decode cX3_lackOf 7 = .ok (.getfield 15, 3) := by decide +kernel
theorem dX3_lackOf_10 : decode cX3_lackOf 10 = .ok (.iload_n 1, 1) := by decide +kernel
theorem dX3_lackOf_11 : decode cX3_lackOf 11 = .ok (.iaload, 1) := by decide +kernel
theorem dX3_lackOf_12 : decode cX3_lackOf 12 = .ok (.isub, 1) := by decide +kernel
theorem dX3_lackOf_13 : decode cX3_lackOf 13 = .ok (.ireturn, 1) := by decide +kernel
set_option maxRecDepth 20000 in
theorem ggX3_allTargets_X3_sumOf : GoodIn wsX3_allTargets wsX3_sumOf := goodIn_r _ [5] (by decide +kernel) (by decide +kernel)
set_option maxRecDepth 20000 in
theorem gX3_allTargets_X3_sumOf : GoodIn wsX3_allTargets (va_wsS RX3 22 yX3_sumOf wsX3_sumOf) := goodIn_app (goodIn_of _ (by decide +kernel)) ggX3_allTargets_X3_sumOf
theorem dX3_allTargets_0 : decode cX3_allTargets 0 = .ok (.aload_n 0, 1) := by decide +kernel
theorem dX3_allTargets_1 : decode cX3_allTargets 1 = .ok (.getfield 9, 3) := by decide +kernel
theorem dX3_allTargets_4 : decode cX3_allTargets 4 = .ok (.invokestatic 22, 3) := by decide +kernel
theorem dX3_allTargets_7 : decode cX3_allTargets 7 = .ok (.ireturn, 1) := by decide +kernel
set_option maxRecDepth 20000 in
theorem ggX3_isOpen_X3_isOpenWith : GoodIn wsX3_isOpen wsX3_isOpenWith := goodIn_r _ [5, 6, 7, 8, 9, 10, 4, 11, 12, 13, 14] (by decide +kernel) (by decide +kernel)
set_option maxRecDepth 20000 in
theorem gX3_isOpen_X3_isOpenWith : GoodIn wsX3_isOpen (wsV RX3 26 RX3 yX3_isOpenWith wsX3_isOpenWith) := goodIn_app (goodIn_of _ (by decide +kernel)) ggX3_isOpen_X3_isOpenWith
theorem dX3_isOpen_0 : decode cX3_isOpen 0 = .ok (.aload_n 0, 1) := by decide +kernel
theorem dX3_isOpen_1 : decode cX3_isOpen 1 = .ok (.iload_n 1, 1) := by decide +kernel
theorem dX3_isOpen_2 : decode cX3_isOpen 2 = .ok (.iconst 0, 1) := by decide +kernel
theorem dX3_isOpen_3 : decode cX3_isOpen 3 = .ok (.iconst 0, 1) := by decide +kernel
theorem dX3_isOpen_4 : decode cX3_isOpen 4 = .ok (.invokevirtual 26, 3) := by decide +kernel
theorem dX3_isOpen_7 : decode cX3_isOpen 7 = .ok (.ireturn, 1) := by decide +kernel
set_option maxRecDepth 20000 in
theorem ggX3_isOpenWith_X3_sumOf : GoodIn wsX3_isOpenWith wsX3_sumOf := goodIn_r _ [7] (by decide +kernel) (by decide +kernel)
set_option maxRecDepth 20000 in
theorem gX3_isOpenWith_X3_sumOf : GoodIn wsX3_isOpenWith (va_wsS RX3 22 yX3_sumOf wsX3_sumOf) := goodIn_app (goodIn_of _ (by decide +kernel)) ggX3_isOpenWith_X3_sumOf
theorem dX3_isOpenWith_0 : decode cX3_isOpenWith 0 = .ok (.aload_n 0, 1) := by decide +kernel
theorem dX3_isOpenWith_1 : decode cX3_isOpenWith 1 = .ok (.getfield 15, 3) := by decide +kernel
theorem dX3_isOpenWith_4 : decode cX3_isOpenWith 4 = .ok (.iload_n 1, 1) := by decide +kernel
theorem dX3_isOpenWith_5 : decode cX3_isOpenWith 5 = .ok (.iaload, 1) := by decide +kernel
theorem dX3_isOpenWith_6 : decode cX3_isOpenWith 6 = .ok (.iload_n 2, 1) := by decide +kernel
theorem dX3_isOpenWith_7 : decode cX3_isOpenWith 7 = .ok (.isub, 1) := by decide +kernel
theorem dX3_isOpenWith_8 : decode cX3_isOpenWith 8 = .ok (.istore 4, 2) := by decide +kernel
theorem dX3_isOpenWith_10 : decode cX3_isOpenWith 10 = .ok (.iload 4, 2) := by decide +kernel
theorem dX3_isOpenWith_12 : decode cX3_isOpenWith 12 = .ok (.aload_n 0, 1) := by decide +kernel
theorem dX3_isOpenWith_13 : decode cX3_isOpenWith 13 = .ok (.getfield 9, 3) := by decide +kernel
theorem dX3_isOpenWith_16 : decode cX3_isOpenWith 16 = .ok (.iload_n 1, 1) := by decide +kernel
theorem dX3_isOpenWith_17 : decode cX3_isOpenWith 17 = .ok (.iaload, 1) := by decide +kernel
theorem dX3_isOpenWith_18 : decode cX3_isOpenWith 18 = .ok (.if_icmp .ge 5, 3) := by decide +kernel
theorem dX3_isOpenWith_21 : decode cX3_isOpenWith 21 = .ok (.iconst 1, 1) := by decide +kernel
theorem dX3_isOpenWith_22 : decode cX3_isOpenWith 22 = .ok (.ireturn, 1) := by decide +kernel
theorem dX3_isOpenWith_23 : decode cX3_isOpenWith 23 = .ok (.iload 4, 2) := by decide +kernel
theorem dX3_isOpenWith_25 : decode cX3_isOpenWith 25 = .ok (.aload_n 0, 1) := by decide +kernel
theorem dX3_isOpenWith_26 : decode cX3_isOpenWith 26 = .ok (.getfield 9, 3) := by decide +kernel
theorem dX3_isOpenWith_29 : decode cX3_isOpenWith 29 = .ok (.iload_n 1, 1) := by decide +kernel
theorem dX3_isOpenWith_30 : decode cX3_isOpenWith 30 = .ok (.iaload, 1) := by decide +kernel
theorem dX3_isOpenWith_31 : decode cX3_isOpenWith 31 = .ok (.aload_n 0, 1) := by decide +kernel
theorem dX3_isOpenWith_32 : decode cX3_isOpenWith 32 = .ok (.getfield 18, 3) := by decide +kernel
theorem dX3_isOpenWith_35 : decode cX3_isOpenWith 35 = .ok (.iadd, 1) := by decide +kernel
theorem dX3_isOpenWith_36 : decode cX3_isOpenWith 36 = .ok (.if_icmp .ge 26, 3) := by decide +kernel
theorem dX3_isOpenWith_39 : decode cX3_isOpenWith 39 = .ok (.aload_n 0, 1) := by decide +kernel
theorem dX3_isOpenWith_40 : decode cX3_isOpenWith 40 = .ok (.getfield 15, 3) := by decide +kernel
theorem dX3_isOpenWith_43 : decode cX3_isOpenWith 43 = .ok (.invokestatic 22, 3) := by decide +kernel
theorem dX3_isOpenWith_46 : decode cX3_isOpenWith 46 = .ok (.iload_n 3, 1) := by decide +kernel
theorem dX3_isOpenWith_47 : decode cX3_isOpenWith 47 = .ok (.isub, 1) := by decide +kernel
theorem dX3_isOpenWith_48 : decode cX3_isOpenWith 48 = .ok (.aload_n 0, 1) := by decide +kernel
theorem dX3_isOpenWith_49 : decode cX3_isOpenWith 49 = .ok (.getfield 9, 3) := by decide +kernel
theorem dX3_isOpenWith_52 : decode cX3_isOpenWith 52 = .ok (.invokestatic 22, 3) := by decide +kernel
theorem dX3_isOpenWith_55 : decode cX3_isOpenWith 55 = .ok (.if_icmp .ge 7, 3) := by decide +kernel
theorem dX3_isOpenWith_58 : decode cX3_isOpenWith 58 = .ok (.iconst 1, 1) := by decide +kernel
theorem dX3_isOpenWith_59 : decode cX3_isOpenWith 59 = .ok (.goto 4, 3) := by decide +kernel
theorem dX3_isOpenWith_62 : decode cX3_isOpenWith 62 = .ok (.iconst 0, 1) := by decide +kernel
theorem dX3_isOpenWith_63 : decode cX3_isOpenWith 63 = .ok (.ireturn, 1) := by decide +kernel
set_option maxRecDepth 20000 in
theorem ggX3_countOpen_X3_isOpen : GoodIn wsX3_countOpen wsX3_isOpen := goodIn_r _ [5, 6, 7, 8, 4, 9, 10, 11, 12, 13, 14, 15, 16, 17, 18] (by decide +kernel) (by decide +kernel)
set_option maxRecDepth 20000 in
theorem gX3_countOpen_X3_isOpen : GoodIn wsX3_countOpen (wsV RX3 30 RX3 yX3_isOpen wsX3_isOpen) := goodIn_app (goodIn_of _ (by decide +kernel)) ggX3_countOpen_X3_isOpen
theorem dX3_countOpen_0 : decode cX3_countOpen 0 = .ok (.iconst 0, 1) := by decide +kernel
theorem dX3_countOpen_1 : decode cX3_countOpen 1 = .ok (.istore_n 1, 1) := by decide +kernel
theorem dX3_countOpen_2 : decode cX3_countOpen 2 = .ok (.iconst 0, 1) := by decide +kernel
theorem dX3_countOpen_3 : decode cX3_countOpen 3 = .ok (.istore_n 2, 1) := by decide +kernel
theorem dX3_countOpen_4 : decode cX3_countOpen 4 = .ok (.iload_n 2, 1) := by decide +kernel
theorem dX3_countOpen_5 : decode cX3_countOpen 5 = .ok (.bipush 6, 2) := by decide +kernel
theorem dX3_countOpen_7 : decode cX3_countOpen 7 = .ok (.if_icmp .ge 20, 3) := by decide +kernel
theorem dX3_countOpen_10 : decode cX3_countOpen 10 = .ok (.aload_n 0, 1) := by decide +kernel
theorem dX3_countOpen_11 : decode cX3_countOpen 11 = .ok (.iload_n 2, 1) := by decide +kernel
theorem dX3_countOpen_12 : decode cX3_countOpen 12 = .ok (.invokevirtual 30, 3) := by decide +kernel
theorem dX3_countOpen_15 : decode cX3_countOpen 15 = .ok (.ifCond .eq 6, 3) := by decide +kernel
theorem dX3_countOpen_18 : decode cX3_countOpen 18 = .ok (.iinc 1 1, 3) := by decide +kernel
theorem dX3_countOpen_21 : decode cX3_countOpen 21 = .ok (.iinc 2 1, 3) := by decide +kernel
theorem dX3_countOpen_24 : decode cX3_countOpen 24 = .ok (.goto (-20), 3) := by decide +kernel
theorem dX3_countOpen_27 : decode cX3_countOpen 27 = .ok (.iload_n 1, 1) := by decide +kernel
theorem dX3_countOpen_28 : decode cX3_countOpen 28 = .ok (.ireturn, 1) := by decide +kernel
set_option maxRecDepth 20000 in
theorem ggX3_marginOf_X6_isIn : GoodIn wsX3_marginOf wsX6_isIn := goodIn_r _ [4, 5, 6, 3, 7, 8, 9, 10] (by decide +kernel) (by decide +kernel)
set_option maxRecDepth 20000 in
theorem gX3_marginOf_X6_isIn_n34 : GoodIn wsX3_marginOf (wsX6_isIn) := ggX3_marginOf_X6_isIn
theorem dX3_marginOf_0 : decode cX3_marginOf 0 = .ok (.iconst 0, 1) := by decide +kernel
theorem dX3_marginOf_1 : decode cX3_marginOf 1 = .ok (.istore_n 2, 1) := by decide +kernel
theorem dX3_marginOf_2 : decode cX3_marginOf 2 = .ok (.iconst 0, 1) := by decide +kernel
theorem dX3_marginOf_3 : decode cX3_marginOf 3 = .ok (.istore_n 3, 1) := by decide +kernel
theorem dX3_marginOf_4 : decode cX3_marginOf 4 = .ok (.iload_n 3, 1) := by decide +kernel
theorem dX3_marginOf_5 : decode cX3_marginOf 5 = .ok (.bipush 6, 2) := by decide +kernel
theorem dX3_marginOf_7 : decode cX3_marginOf 7 = .ok (.if_icmp .ge 26, 3) := by decide +kernel
theorem dX3_marginOf_10 : decode cX3_marginOf 10 = .ok (.iload_n 3, 1) := by decide +kernel
theorem dX3_marginOf_11 : decode cX3_marginOf 11 = .ok (.iload_n 1, 1) := by decide +kernel
theorem dX3_marginOf_12 : decode cX3_marginOf 12 = .ok (.invokestatic 34, 3) := by decide +kernel
theorem dX3_marginOf_15 : decode cX3_marginOf 15 = .ok (.ifCond .eq 12, 3) := by decide +kernel
theorem dX3_marginOf_18 : decode cX3_marginOf 18 = .ok (.iload_n 2, 1) := by decide +kernel
theorem dX3_marginOf_19 : decode cX3_marginOf 19 = .ok (.aload_n 0, 1) := by decide +kernel
theorem dX3_marginOf_20 : decode cX3_marginOf 20 = .ok (.getfield 9, 3) := by decide +kernel
theorem dX3_marginOf_23 : decode cX3_marginOf 23 = .ok (.iload_n 3, 1) := by decide +kernel
theorem dX3_marginOf_24 : decode cX3_marginOf 24 = .ok (.iaload, 1) := by decide +kernel
theorem dX3_marginOf_25 : decode cX3_marginOf 25 = .ok (.iadd, 1) := by decide +kernel
theorem dX3_marginOf_26 : decode cX3_marginOf 26 = .ok (.istore_n 2, 1) := by decide +kernel
theorem dX3_marginOf_27 : decode cX3_marginOf 27 = .ok (.iinc 3 1, 3) := by decide +kernel
theorem dX3_marginOf_30 : decode cX3_marginOf 30 = .ok (.goto (-26), 3) := by decide +kernel
theorem dX3_marginOf_33 : decode cX3_marginOf 33 = .ok (.sipush 1000, 3) := by decide +kernel
theorem dX3_marginOf_36 : decode cX3_marginOf 36 = .ok (.iload_n 2, 1) := by decide +kernel
theorem dX3_marginOf_37 : decode cX3_marginOf 37 = .ok (.imul, 1) := by decide +kernel
theorem dX3_marginOf_38 : decode cX3_marginOf 38 = .ok (.ireturn, 1) := by decide +kernel
theorem dX3_sumOf_0 : decode cX3_sumOf 0 = .ok (.iconst 0, 1) := by decide +kernel
theorem dX3_sumOf_1 : decode cX3_sumOf 1 = .ok (.istore_n 1, 1) := by decide +kernel
theorem dX3_sumOf_2 : decode cX3_sumOf 2 = .ok (.aload_n 0, 1) := by decide +kernel
theorem dX3_sumOf_3 : decode cX3_sumOf 3 = .ok (.astore_n 2, 1) := by decide +kernel
theorem dX3_sumOf_4 : decode cX3_sumOf 4 = .ok (.aload_n 2, 1) := by decide +kernel
theorem dX3_sumOf_5 : decode cX3_sumOf 5 = .ok (.arraylength, 1) := by decide +kernel
theorem dX3_sumOf_6 : decode cX3_sumOf 6 = .ok (.istore_n 3, 1) := by decide +kernel
theorem dX3_sumOf_7 : decode cX3_sumOf 7 = .ok (.iconst 0, 1) := by decide +kernel
theorem dX3_sumOf_8 : decode cX3_sumOf 8 = .ok (.istore 4, 2) := by decide +kernel
theorem dX3_sumOf_10 : decode cX3_sumOf 10 = .ok (.iload 4, 2) := by decide +kernel
theorem dX3_sumOf_12 : decode cX3_sumOf 12 = .ok (.iload_n 3, 1) := by decide +kernel
theorem dX3_sumOf_13 : decode cX3_sumOf 13 = .ok (.if_icmp .ge 20, 3) := by decide +kernel
theorem dX3_sumOf_16 : decode cX3_sumOf 16 = .ok (.aload_n 2, 1) := by decide +kernel
theorem dX3_sumOf_17 : decode cX3_sumOf 17 = .ok (.iload 4, 2) := by decide +kernel
theorem dX3_sumOf_19 : decode cX3_sumOf 19 = .ok (.iaload, 1) := by decide +kernel
theorem dX3_sumOf_20 : decode cX3_sumOf 20 = .ok (.istore 5, 2) := by decide +kernel
theorem dX3_sumOf_22 : decode cX3_sumOf 22 = .ok (.iload_n 1, 1) := by decide +kernel
theorem dX3_sumOf_23 : decode cX3_sumOf 23 = .ok (.iload 5, 2) := by decide +kernel
theorem dX3_sumOf_25 : decode cX3_sumOf 25 = .ok (.iadd, 1) := by decide +kernel
theorem dX3_sumOf_26 : decode cX3_sumOf 26 = .ok (.istore_n 1, 1) := by decide +kernel
theorem dX3_sumOf_27 : decode cX3_sumOf 27 = .ok (.iinc 4 1, 3) := by decide +kernel
theorem dX3_sumOf_30 : decode cX3_sumOf 30 = .ok (.goto (-20), 3) := by decide +kernel
theorem dX3_sumOf_33 : decode cX3_sumOf 33 = .ok (.iload_n 1, 1) := by decide +kernel
theorem dX3_sumOf_34 : decode cX3_sumOf 34 = .ok (.ireturn, 1) := by decide +kernel
set_option maxRecDepth 20000 in
theorem ggX4_init_J7_fill_53178 : GoodIn wsX4_init wsJ7_fill_53178 := goodIn_r _ [9] (by decide +kernel) (by decide +kernel)
set_option maxRecDepth 20000 in
theorem gX4_init_J7_fill_53178 : GoodIn wsX4_init (va_wsS RX4 15 yJ7_fill_53178 wsJ7_fill_53178) := goodIn_app (goodIn_of _ (by decide +kernel)) ggX4_init_J7_fill_53178
theorem dX4_init_0 : decode cX4_init 0 = .ok (.aload_n 0, 1) := by decide +kernel
theorem dX4_init_1 : decode cX4_init 1 = .ok (.invokespecial 3, 3) := by decide +kernel
theorem dX4_init_4 : decode cX4_init 4 = .ok (.aload_n 0, 1) := by decide +kernel
theorem dX4_init_5 : decode cX4_init 5 = .ok (.sipush 250, 3) := by decide +kernel
theorem dX4_init_8 : decode cX4_init 8 = .ok (.newarray .int, 2) := by decide +kernel
theorem dX4_init_10 : decode cX4_init 10 = .ok (.putfield 9, 3) := by decide +kernel
theorem dX4_init_13 : decode cX4_init 13 = .ok (.aload_n 0, 1) := by decide +kernel
theorem dX4_init_14 : decode cX4_init 14 = .ok (.getfield 9, 3) := by decide +kernel
theorem dX4_init_17 : decode cX4_init 17 = .ok (.iconst (-1), 1) := by decide +kernel
theorem dX4_init_18 : decode cX4_init 18 = .ok (.invokestatic 15, 3) := by decide +kernel
theorem dX4_init_21 : decode cX4_init 21 = .ok (.return_, 1) := by decide +kernel
theorem dX4_size_0 : decode cX4_size 0 = .ok (.aload_n 0, 1) := by decide +kernel
theorem dX4_size_1 : decode cX4_size 1 = .ok (.getfield 21, 3) := by decide +kernel
theorem dX4_size_4 : decode cX4_size 4 = .ok (.ireturn, 1) := by decide +kernel
theorem dX4_add_0 : decode cX4_add 0 = .ok (.aload_n 0, 1) := by decide +kernel
theorem dX4_add_1 : decode cX4_add 1 = .ok (.dup, 1) := by decide +kernel
theorem dX4_add_2 : decode cX4_add 2 = .ok (.getfield 21, 3) := by decide +kernel
theorem dX4_add_5 : decode cX4_add 5 = .ok (.iconst 1, 1) := by decide +kernel
theorem dX4_add_6 : decode cX4_add 6 = .ok (.iadd, 1) := by decide +kernel
theorem dX4_add_7 : decode cX4_add 7 = .ok (.putfield 21, 3) := by decide +kernel
theorem dX4_add_10 : decode cX4_add 10 = .ok (.aload_n 0, 1) := by decide +kernel
theorem dX4_add_11 : decode cX4_add 11 = .ok (.getfield 21, 3) := by decide +kernel
theorem dX4_add_14 : decode cX4_add 14 = .ok (.iconst 1, 1) := by decide +kernel
theorem dX4_add_15 : decode cX4_add 15 = .ok (.isub, 1) := by decide +kernel
theorem dX4_add_16 : decode cX4_add 16 = .ok (.ireturn, 1) := by decide +kernel
set_option maxRecDepth 20000 in
theorem ggX4_put_X4_placeOf : GoodIn wsX4_put wsX4_placeOf := goodIn_r _ [5] (by decide +kernel) (by decide +kernel)
set_option maxRecDepth 20000 in
theorem gX4_put_X4_placeOf : GoodIn wsX4_put (va_wsS RX4 25 yX4_placeOf wsX4_placeOf) := goodIn_app (goodIn_of _ (by decide +kernel)) ggX4_put_X4_placeOf
theorem dX4_put_0 : decode cX4_put 0 = .ok (.aload_n 0, 1) := by decide +kernel
theorem dX4_put_1 : decode cX4_put 1 = .ok (.getfield 9, 3) := by decide +kernel
theorem dX4_put_4 : decode cX4_put 4 = .ok (.iload_n 1, 1) := by decide +kernel
theorem dX4_put_5 : decode cX4_put 5 = .ok (.iload_n 2, 1) := by decide +kernel
theorem dX4_put_6 : decode cX4_put 6 = .ok (.iload_n 3, 1) := by decide +kernel
theorem dX4_put_7 : decode cX4_put 7 = .ok (.invokestatic 25, 3) := by decide +kernel
theorem dX4_put_10 : decode cX4_put 10 = .ok (.iload 4, 2) := by decide +kernel
theorem dX4_put_12 : decode cX4_put 12 = .ok (.iastore, 1) := by decide +kernel
theorem dX4_put_13 : decode cX4_put 13 = .ok (.return_, 1) := by decide +kernel
set_option maxRecDepth 20000 in
theorem ggX4_shareIn_X4_placeOf : GoodIn wsX4_shareIn wsX4_placeOf := goodIn_r _ [5] (by decide +kernel) (by decide +kernel)
set_option maxRecDepth 20000 in
theorem gX4_shareIn_X4_placeOf : GoodIn wsX4_shareIn (va_wsS RX4 25 yX4_placeOf wsX4_placeOf) := goodIn_app (goodIn_of _ (by decide +kernel)) ggX4_shareIn_X4_placeOf
theorem dX4_shareIn_0 : decode cX4_shareIn 0 = .ok (.aload_n 0, 1) := by decide +kernel
theorem dX4_shareIn_1 : decode cX4_shareIn 1 = .ok (.getfield 9, 3) := by decide +kernel
theorem dX4_shareIn_4 : decode cX4_shareIn 4 = .ok (.iload_n 1, 1) := by decide +kernel
theorem dX4_shareIn_5 : decode cX4_shareIn 5 = .ok (.iload_n 2, 1) := by decide +kernel
theorem dX4_shareIn_6 : decode cX4_shareIn 6 = .ok (.iload_n 3, 1) := by decide +kernel
theorem dX4_shareIn_7 : decode cX4_shareIn 7 = .ok (.invokestatic 25, 3) := by decide +kernel
theorem dX4_shareIn_10 : decode cX4_shareIn 10 = .ok (.iaload, 1) := by decide +kernel
theorem dX4_shareIn_11 : decode cX4_shareIn 11 = .ok (.ireturn, 1) := by decide +kernel
theorem dX4_placeOf_0 : decode cX4_placeOf 0 = .ok (.iload_n 0, 1) := by decide +kernel
theorem dX4_placeOf_1 : decode cX4_placeOf 1 = .ok (.bipush 10, 2) := by decide +kernel
theorem dX4_placeOf_3 : decode cX4_placeOf 3 = .ok (.imul, 1) := by decide +kernel
theorem dX4_placeOf_4 : decode cX4_placeOf 4 = .ok (.iload_n 1, 1) := by decide +kernel
theorem dX4_placeOf_5 : decode cX4_placeOf 5 = .ok (.iadd, 1) := by decide +kernel
theorem dX4_placeOf_6 : decode cX4_placeOf 6 = .ok (.iconst 5, 1) := by decide +kernel
theorem dX4_placeOf_7 : decode cX4_placeOf 7 = .ok (.imul, 1) := by decide +kernel
theorem dX4_placeOf_8 : decode cX4_placeOf 8 = .ok (.iload_n 2, 1) := by decide +kernel
theorem dX4_placeOf_9 : decode cX4_placeOf 9 = .ok (.iadd, 1) := by decide +kernel
theorem dX4_placeOf_10 : decode cX4_placeOf 10 = .ok (.ireturn, 1) := by decide +kernel
theorem dX5_init_0 : decode cX5_init 0 = .ok (.aload_n 0, 1) := by decide +kernel
theorem dX5_init_1 : decode cX5_init 1 = .ok (.invokespecial 3, 3) := by decide +kernel
theorem dX5_init_4 : decode cX5_init 4 = .ok (.aload_n 0, 1) := by decide +kernel
theorem dX5_init_5 : decode cX5_init 5 = .ok (.bipush 40, 2) := by decide +kernel
theorem dX5_init_7 : decode cX5_init 7 = .ok (.newarray .int, 2) := by decide +kernel
theorem dX5_init_9 : decode cX5_init 9 = .ok (.putfield 9, 3) := by decide +kernel
theorem dX5_init_12 : decode cX5_init 12 = .ok (.return_, 1) := by decide +kernel
theorem dX5_of_0 : decode cX5_of 0 = .ok (.aload_n 0, 1) := by decide +kernel
theorem dX5_of_1 : decode cX5_of 1 = .ok (.getfield 9, 3) := by decide +kernel
theorem dX5_of_4 : decode cX5_of 4 = .ok (.iload_n 1, 1) := by decide +kernel
theorem dX5_of_5 : decode cX5_of 5 = .ok (.iaload, 1) := by decide +kernel
theorem dX5_of_6 : decode cX5_of 6 = .ok (.ireturn, 1) := by decide +kernel
set_option maxRecDepth 20000 in
theorem ggX5_weigh_X0_size : GoodIn wsX5_weigh wsX0_size := goodIn_r _ [6, 7, 43, 44, 45, 46, 47, 48, 49, 50] (by decide +kernel) (by decide +kernel)
set_option maxRecDepth 20000 in
theorem gX5_weigh_X0_size : GoodIn wsX5_weigh (wsV RX5 15 RX0 yX0_size wsX0_size) := goodIn_app (goodIn_of _ (by decide +kernel)) ggX5_weigh_X0_size
set_option maxRecDepth 20000 in
theorem ggX5_weigh_X0_isComplete : GoodIn wsX5_weigh wsX0_isComplete := goodIn_r _ [11, 12, 43, 44, 45, 46, 47, 48, 49, 50] (by decide +kernel) (by decide +kernel)
set_option maxRecDepth 20000 in
theorem gX5_weigh_X0_isComplete : GoodIn wsX5_weigh (wsV RX5 21 RX0 yX0_isComplete wsX0_isComplete) := goodIn_app (goodIn_of _ (by decide +kernel)) ggX5_weigh_X0_isComplete
set_option maxRecDepth 20000 in
theorem ggX5_weigh_X3_marginOf : GoodIn wsX5_weigh wsX3_marginOf := goodIn_r _ [17, 18, 19, 20, 21, 22, 23, 24, 25, 26, 27, 51, 52, 53] (by decide +kernel) (by decide +kernel)
set_option maxRecDepth 20000 in
theorem gX5_weigh_X3_marginOf : GoodIn wsX5_weigh (wsV RX5 25 RX3 yX3_marginOf wsX3_marginOf) := goodIn_app (goodIn_of _ (by decide +kernel)) ggX5_weigh_X3_marginOf
set_option maxRecDepth 20000 in
theorem ggX5_weigh_X5_scale : GoodIn wsX5_weigh wsX5_scale := goodIn_r _ [32, 1, 33, 34, 35, 31, 36, 2, 3, 4, 5, 6, 7, 37, 38, 39, 40, 41, 19, 20, 21, 22, 23, 24, 25, 26, 27, 42, 43, 44, 45, 46, 47, 48, 49, 50] (by decide +kernel) (by decide +kernel)
set_option maxRecDepth 20000 in
theorem gX5_weigh_X5_scale : GoodIn wsX5_weigh (wsV RX5 31 RX5 yX5_scale wsX5_scale) := goodIn_app (goodIn_of _ (by decide +kernel)) ggX5_weigh_X5_scale
theorem dX5_weigh_0 : decode cX5_weigh 0 = .ok (.iconst 0, 1) := by decide +kernel
theorem dX5_weigh_1 : decode cX5_weigh 1 = .ok (.istore 4, 2) := by decide +kernel
theorem dX5_weigh_3 : decode cX5_weigh 3 = .ok (.iload 4, 2) := by decide +kernel
theorem dX5_weigh_5 : decode cX5_weigh 5 = .ok (.aload_n 1, 1) := by decide +kernel
theorem dX5_weigh_6 : decode cX5_weigh 6 = .ok (.invokevirtual 15, 3) := by decide +kernel
theorem dX5_weigh_9 : decode cX5_weigh 9 = .ok (.if_icmp .ge 32, 3) := by decide +kernel
theorem dX5_weigh_12 : decode cX5_weigh 12 = .ok (.aload_n 0, 1) := by decide +kernel
theorem dX5_weigh_13 : decode cX5_weigh 13 = .ok (.getfield 9, 3) := by decide +kernel
theorem dX5_weigh_16 : decode cX5_weigh 16 = .ok (.iload 4, 2) := by decide +kernel
theorem dX5_weigh_18 : decode cX5_weigh 18 = .ok (.aload_n 1, 1) := by decide +kernel
theorem dX5_weigh_19 : decode cX5_weigh 19 = .ok (.iload 4, 2) := by decide +kernel
theorem dX5_weigh_21 : decode cX5_weigh 21 = .ok (.invokevirtual 21, 3) := by decide +kernel
theorem dX5_weigh_24 : decode cX5_weigh 24 = .ok (.ifCond .eq 9, 3) := by decide +kernel
theorem dX5_weigh_27 : decode cX5_weigh 27 = .ok (.sipush 1000, 3) := by decide +kernel
theorem dX5_weigh_30 : decode cX5_weigh 30 = .ok (.goto 4, 3) := by decide +kernel
theorem dX5_weigh_33 : decode cX5_weigh 33 = .ok (.iconst 0, 1) := by decide +kernel
theorem dX5_weigh_34 : decode cX5_weigh 34 = .ok (.iastore, 1) := by decide +kernel
theorem dX5_weigh_35 : decode cX5_weigh 35 = .ok (.iinc 4 1, 3) := by decide +kernel
theorem dX5_weigh_38 : decode cX5_weigh 38 = .ok (.goto (-35), 3) := by decide +kernel
theorem dX5_weigh_41 : decode cX5_weigh 41 = .ok (.iconst 0, 1) := by decide +kernel
theorem dX5_weigh_42 : decode cX5_weigh 42 = .ok (.istore 4, 2) := by decide +kernel
theorem dX5_weigh_44 : decode cX5_weigh 44 = .ok (.iload 4, 2) := by decide +kernel
theorem dX5_weigh_46 : decode cX5_weigh 46 = .ok (.iload_n 3, 1) := by decide +kernel
theorem dX5_weigh_47 : decode cX5_weigh 47 = .ok (.if_icmp .ge 37, 3) := by decide +kernel
theorem dX5_weigh_50 : decode cX5_weigh 50 = .ok (.iconst 0, 1) := by decide +kernel
theorem dX5_weigh_51 : decode cX5_weigh 51 = .ok (.istore 5, 2) := by decide +kernel
theorem dX5_weigh_53 : decode cX5_weigh 53 = .ok (.iload 5, 2) := by decide +kernel
theorem dX5_weigh_55 : decode cX5_weigh 55 = .ok (.iconst 5, 1) := by decide +kernel
theorem dX5_weigh_56 : decode cX5_weigh 56 = .ok (.if_icmp .ge 22, 3) := by decide +kernel
theorem dX5_weigh_59 : decode cX5_weigh 59 = .ok (.aload_n 0, 1) := by decide +kernel
theorem dX5_weigh_60 : decode cX5_weigh 60 = .ok (.aload_n 1, 1) := by decide +kernel
theorem dX5_weigh_61 : decode cX5_weigh 61 = .ok (.iload 5, 2) := by decide +kernel
theorem dX5_weigh_63 : decode cX5_weigh 63 = .ok (.aload_n 2, 1) := by decide +kernel
theorem dX5_weigh_64 : decode cX5_weigh 64 = .ok (.iload 5, 2) := by decide +kernel
theorem dX5_weigh_66 : decode cX5_weigh 66 = .ok (.invokevirtual 25, 3) := by decide +kernel
theorem dX5_weigh_69 : decode cX5_weigh 69 = .ok (.invokevirtual 31, 3) := by decide +kernel
theorem dX5_weigh_72 : decode cX5_weigh 72 = .ok (.iinc 5 1, 3) := by decide +kernel
theorem dX5_weigh_75 : decode cX5_weigh 75 = .ok (.goto (-22), 3) := by decide +kernel
theorem dX5_weigh_78 : decode cX5_weigh 78 = .ok (.iinc 4 1, 3) := by decide +kernel
theorem dX5_weigh_81 : decode cX5_weigh 81 = .ok (.goto (-37), 3) := by decide +kernel
theorem dX5_weigh_84 : decode cX5_weigh 84 = .ok (.return_, 1) := by decide +kernel
set_option maxRecDepth 20000 in
theorem ggX5_scale_X5_sumOf : GoodIn wsX5_scale wsX5_sumOf := goodIn_r _ [6, 1, 7, 8, 9, 10, 11, 12, 13, 14, 15, 16, 17, 18, 19, 20, 21, 22, 23, 24, 25, 26, 27, 28, 29, 30, 31, 32, 33, 34, 35] (by decide +kernel) (by decide +kernel)
set_option maxRecDepth 20000 in
theorem gX5_scale_X5_sumOf : GoodIn wsX5_scale (wsV RX5 35 RX5 yX5_sumOf wsX5_sumOf) := goodIn_app (goodIn_of _ (by decide +kernel)) ggX5_scale_X5_sumOf
set_option maxRecDepth 20000 in
theorem ggX5_scale_X0_size : GoodIn wsX5_scale wsX0_size := goodIn_r _ [11, 12, 28, 29, 30, 31, 32, 33, 34, 35] (by decide +kernel) (by decide +kernel)
set_option maxRecDepth 20000 in
theorem gX5_scale_X0_size : GoodIn wsX5_scale (wsV RX5 15 RX0 yX0_size wsX0_size) := goodIn_app (goodIn_of _ (by decide +kernel)) ggX5_scale_X0_size
set_option maxRecDepth 20000 in
theorem ggX5_scale_X0_cellOf : GoodIn wsX5_scale wsX0_cellOf := goodIn_r _ [16, 17, 28, 29, 30, 31, 32, 33, 34, 35] (by decide +kernel) (by decide +kernel)
set_option maxRecDepth 20000 in
theorem gX5_scale_X0_cellOf : GoodIn wsX5_scale (wsV RX5 39 RX0 yX0_cellOf wsX0_cellOf) := goodIn_app (goodIn_of _ (by decide +kernel)) ggX5_scale_X0_cellOf
set_option maxRecDepth 20000 in
theorem ggX5_scale_X6_isIn : GoodIn wsX5_scale wsX6_isIn := goodIn_r _ [20, 21, 22, 19, 23, 24, 25, 26] (by decide +kernel) (by decide +kernel)
set_option maxRecDepth 20000 in
theorem gX5_scale_X6_isIn_n42 : GoodIn wsX5_scale (wsX6_isIn) := ggX5_scale_X6_isIn
theorem dX5_scale_0 : decode cX5_scale 0 = .ok (.aload_n 0, 1) := by decide +kernel
theorem dX5_scale_1 : decode cX5_scale 1 = .ok (.aload_n 1, 1) := by decide +kernel
theorem dX5_scale_2 : decode cX5_scale 2 = .ok (.iload_n 2, 1) := by decide +kernel
theorem dX5_scale_3 : decode cX5_scale 3 = .ok (.invokevirtual 35, 3) := by decide +kernel
theorem dX5_scale_6 : decode cX5_scale 6 = .ok (.istore 4, 2) := by decide +kernel
theorem dX5_scale_8 : decode cX5_scale 8 = .ok (.iload 4, 2) := by decide +kernel
theorem dX5_scale_10 : decode cX5_scale 10 = .ok (.ifCond .gt 4, 3) := by decide +kernel
theorem dX5_scale_13 : decode cX5_scale 13 = .ok (.return_, 1) := by decide +kernel
theorem dX5_scale_14 : decode cX5_scale 14 = .ok (.iconst 0, 1) := by decide +kernel
theorem dX5_scale_15 : decode cX5_scale 15 = .ok (.istore 5, 2) := by decide +kernel
theorem dX5_scale_17 : decode cX5_scale 17 = .ok (.iload 5, 2) := by decide +kernel
theorem dX5_scale_19 : decode cX5_scale 19 = .ok (.aload_n 1, 1) := by decide +kernel
theorem dX5_scale_20 : decode cX5_scale 20 = .ok (.invokevirtual 15, 3) := by decide +kernel
theorem dX5_scale_23 : decode cX5_scale 23 = .ok (.if_icmp .ge 41, 3) := by decide +kernel
theorem dX5_scale_26 : decode cX5_scale 26 = .ok (.aload_n 1, 1) := by decide +kernel
theorem dX5_scale_27 : decode cX5_scale 27 = .ok (.iload 5, 2) := by decide +kernel
theorem dX5_scale_29 : decode cX5_scale 29 = .ok (.invokevirtual 39, 3) := by decide +kernel
theorem dX5_scale_32 : decode cX5_scale 32 = .ok (.iload_n 2, 1) := by decide +kernel
theorem dX5_scale_33 : decode cX5_scale 33 = .ok (.invokestatic 42, 3) := by decide +kernel
theorem dX5_scale_36 : decode cX5_scale 36 = .ok (.ifCond .eq 22, 3) := by decide +kernel
theorem dX5_scale_39 : decode cX5_scale 39 = .ok (.aload_n 0, 1) := by decide +kernel
theorem dX5_scale_40 : decode cX5_scale 40 = .ok (.getfield 9, 3) := by decide +kernel
theorem dX5_scale_43 : decode cX5_scale 43 = .ok (.iload 5, 2) := by decide +kernel
theorem dX5_scale_45 : decode cX5_scale 45 = .ok (.aload_n 0, 1) := by decide +kernel
theorem dX5_scale_46 : decode cX5_scale 46 = .ok (.getfield 9, 3) := by decide +kernel
theorem dX5_scale_49 : decode cX5_scale 49 = .ok (.iload 5, 2) := by decide +kernel
theorem dX5_scale_51 : decode cX5_scale 51 = .ok (.iaload, 1) := by decide +kernel
theorem dX5_scale_52 : decode cX5_scale 52 = .ok (.iload_n 3, 1) := by decide +kernel
theorem dX5_scale_53 : decode cX5_scale 53 = .ok (.imul, 1) := by decide +kernel
theorem dX5_scale_54 : decode cX5_scale 54 = .ok (.iload 4, 2) := by decide +kernel
theorem dX5_scale_56 : decode cX5_scale 56 = .ok (.idiv, 1) := by decide +kernel
theorem dX5_scale_57 : decode cX5_scale 57 = .ok (.iastore, 1) := by decide +kernel
theorem dX5_scale_58 : decode cX5_scale 58 = .ok (.iinc 5 1, 3) := by decide +kernel
theorem dX5_scale_61 : decode cX5_scale 61 = .ok (.goto (-44), 3) := by decide +kernel
theorem dX5_scale_64 : decode cX5_scale 64 = .ok (.return_, 1) := by decide +kernel
set_option maxRecDepth 20000 in
theorem ggX5_sumOf_X0_size : GoodIn wsX5_sumOf wsX0_size := goodIn_r _ [6, 7, 23, 24, 25, 26, 27, 28, 29, 30] (by decide +kernel) (by decide +kernel)
set_option maxRecDepth 20000 in
theorem gX5_sumOf_X0_size : GoodIn wsX5_sumOf (wsV RX5 15 RX0 yX0_size wsX0_size) := goodIn_app (goodIn_of _ (by decide +kernel)) ggX5_sumOf_X0_size
set_option maxRecDepth 20000 in
theorem ggX5_sumOf_X0_cellOf : GoodIn wsX5_sumOf wsX0_cellOf := goodIn_r _ [11, 12, 23, 24, 25, 26, 27, 28, 29, 30] (by decide +kernel) (by decide +kernel)
set_option maxRecDepth 20000 in
theorem gX5_sumOf_X0_cellOf : GoodIn wsX5_sumOf (wsV RX5 39 RX0 yX0_cellOf wsX0_cellOf) := goodIn_app (goodIn_of _ (by decide +kernel)) ggX5_sumOf_X0_cellOf
set_option maxRecDepth 20000 in
theorem ggX5_sumOf_X6_isIn : GoodIn wsX5_sumOf wsX6_isIn := goodIn_r _ [15, 16, 17, 14, 18, 19, 20, 21] (by decide +kernel) (by decide +kernel)
set_option maxRecDepth 20000 in
theorem gX5_sumOf_X6_isIn_n42 : GoodIn wsX5_sumOf (wsX6_isIn) := ggX5_sumOf_X6_isIn
theorem dX5_sumOf_0 : decode cX5_sumOf 0 = .ok (.iconst 0, 1) := by decide +kernel
theorem dX5_sumOf_1 : decode cX5_sumOf 1 = .ok (.istore_n 3, 1) := by decide +kernel
theorem dX5_sumOf_2 : decode cX5_sumOf 2 = .ok (.iconst 0, 1) := by decide +kernel
theorem dX5_sumOf_3 : decode cX5_sumOf 3 = .ok (.istore 4, 2) := by decide +kernel
theorem dX5_sumOf_5 : decode cX5_sumOf 5 = .ok (.iload 4, 2) := by decide +kernel
theorem dX5_sumOf_7 : decode cX5_sumOf 7 = .ok (.aload_n 1, 1) := by decide +kernel
theorem dX5_sumOf_8 : decode cX5_sumOf 8 = .ok (.invokevirtual 15, 3) := by decide +kernel
theorem dX5_sumOf_11 : decode cX5_sumOf 11 = .ok (.if_icmp .ge 32, 3) := by decide +kernel
theorem dX5_sumOf_14 : decode cX5_sumOf 14 = .ok (.aload_n 1, 1) := by decide +kernel
theorem dX5_sumOf_15 : decode cX5_sumOf 15 = .ok (.iload 4, 2) := by decide +kernel
theorem dX5_sumOf_17 : decode cX5_sumOf 17 = .ok (.invokevirtual 39, 3) := by decide +kernel
theorem dX5_sumOf_20 : decode cX5_sumOf 20 = .ok (.iload_n 2, 1) := by decide +kernel
theorem dX5_sumOf_21 : decode cX5_sumOf 21 = .ok (.invokestatic 42, 3) := by decide +kernel
theorem dX5_sumOf_24 : decode cX5_sumOf 24 = .ok (.ifCond .eq 13, 3) := by decide +kernel
theorem dX5_sumOf_27 : decode cX5_sumOf 27 = .ok (.iload_n 3, 1) := by decide +kernel
theorem dX5_sumOf_28 : decode cX5_sumOf 28 = .ok (.aload_n 0, 1) := by decide +kernel
theorem dX5_sumOf_29 : decode cX5_sumOf 29 = .ok (.getfield 9, 3) := by decide +kernel
theorem dX5_sumOf_32 : decode cX5_sumOf 32 = .ok (.iload 4, 2) := by decide +kernel
theorem dX5_sumOf_34 : decode cX5_sumOf 34 = .ok (.iaload, 1) := by decide +kernel
theorem dX5_sumOf_35 : decode cX5_sumOf 35 = .ok (.iadd, 1) := by decide +kernel
theorem dX5_sumOf_36 : decode cX5_sumOf 36 = .ok (.istore_n 3, 1) := by decide +kernel
theorem dX5_sumOf_37 : decode cX5_sumOf 37 = .ok (.iinc 4 1, 3) := by decide +kernel
theorem dX5_sumOf_40 : decode cX5_sumOf 40 = .ok (.goto (-35), 3) := by decide +kernel
theorem dX5_sumOf_43 : decode cX5_sumOf 43 = .ok (.iload_n 3, 1) := by decide +kernel
theorem dX5_sumOf_44 : decode cX5_sumOf 44 = .ok (.ireturn, 1) := by decide +kernel
set_option maxRecDepth 20000 in
theorem ggX5_farthest_X5_sumOf : GoodIn wsX5_farthest wsX5_sumOf := goodIn_r _ [12, 13, 14, 15, 16, 17, 18, 19, 20, 21, 22, 23, 24, 25, 26, 27, 28, 29, 30, 31, 32, 33, 40, 41, 42, 43, 44, 45, 46, 47, 48] (by decide +kernel) (by decide +kernel)
set_option maxRecDepth 20000 in
theorem gX5_farthest_X5_sumOf : GoodIn wsX5_farthest (wsV RX5 35 RX5 yX5_sumOf wsX5_sumOf) := goodIn_app (goodIn_of _ (by decide +kernel)) ggX5_farthest_X5_sumOf
set_option maxRecDepth 20000 in
theorem ggX5_farthest_X3_marginOf : GoodIn wsX5_farthest wsX3_marginOf := goodIn_r _ [38, 39, 25, 26, 27, 28, 29, 30, 31, 32, 33, 49, 50, 51] (by decide +kernel) (by decide +kernel)
set_option maxRecDepth 20000 in
theorem gX5_farthest_X3_marginOf : GoodIn wsX5_farthest (wsV RX5 25 RX3 yX3_marginOf wsX3_marginOf) := goodIn_app (goodIn_of _ (by decide +kernel)) ggX5_farthest_X3_marginOf
theorem dX5_farthest_0 : decode cX5_farthest 0 = .ok (.iconst 0, 1) := by decide +kernel
theorem dX5_farthest_1 : decode cX5_farthest 1 = .ok (.istore_n 3, 1) := by decide +kernel
theorem dX5_farthest_2 : decode cX5_farthest 2 = .ok (.iconst 0, 1) := by decide +kernel
theorem dX5_farthest_3 : decode cX5_farthest 3 = .ok (.istore 4, 2) := by decide +kernel
theorem dX5_farthest_5 : decode cX5_farthest 5 = .ok (.iload 4, 2) := by decide +kernel
theorem dX5_farthest_7 : decode cX5_farthest 7 = .ok (.iconst 5, 1) := by decide +kernel
theorem dX5_farthest_8 : decode cX5_farthest 8 = .ok (.if_icmp .ge 40, 3) := by decide +kernel
theorem dX5_farthest_11 : decode cX5_farthest 11 = .ok (.aload_n 0, 1) := by decide +kernel
theorem dX5_farthest_12 : decode cX5_farthest 12 = .ok (.aload_n 1, 1) := by decide +kernel
theorem dX5_farthest_13 : decode cX5_farthest 13 = .ok (.iload 4, 2) := by decide +kernel
theorem dX5_farthest_15 : decode cX5_farthest 15 = .ok (.invokevirtual 35, 3) := by decide +kernel
theorem dX5_farthest_18 : decode cX5_farthest 18 = .ok (.istore 5, 2) := by decide +kernel
theorem dX5_farthest_20 : decode cX5_farthest 20 = .ok (.iload 5, 2) := by decide +kernel
theorem dX5_farthest_22 : decode cX5_farthest 22 = .ok (.ifCond .le 20, 3) := by decide +kernel
theorem dX5_farthest_25 : decode cX5_farthest 25 = .ok (.iload_n 3, 1) := by decide +kernel
theorem dX5_farthest_26 : decode cX5_farthest 26 = .ok (.iload 5, 2) := by decide +kernel
theorem dX5_farthest_28 : decode cX5_farthest 28 = .ok (.aload_n 2, 1) := by decide +kernel
theorem dX5_farthest_29 : decode cX5_farthest 29 = .ok (.iload 4, 2) := by decide +kernel
theorem dX5_farthest_31 : decode cX5_farthest 31 = .ok (.invokevirtual 25, 3) := by decide +kernel
theorem dX5_farthest_34 : decode cX5_farthest 34 = .ok (.isub, 1) := by decide +kernel
theorem dX5_farthest_35 : decode cX5_farthest 35 = .ok (.invokestatic 46, 3) := by decide +kernel
theorem dX5_farthest_38 : decode cX5_farthest 38 = .ok (.invokestatic 51, 3) := by decide +kernel
theorem dX5_farthest_41 : decode cX5_farthest 41 = .ok (.istore_n 3, 1) := by decide +kernel
theorem dX5_farthest_42 : decode cX5_farthest 42 = .ok (.iinc 4 1, 3) := by decide +kernel
theorem dX5_farthest_45 : decode cX5_farthest 45 = .ok (.goto (-40), 3) := by decide +kernel
theorem dX5_farthest_48 : decode cX5_farthest 48 = .ok (.iload_n 3, 1) := by decide +kernel
theorem dX5_farthest_49 : decode cX5_farthest 49 = .ok (.ireturn, 1) := by decide +kernel
set_option maxRecDepth 20000 in
theorem ggX5_shareOf_X0_size : GoodIn wsX5_shareOf wsX0_size := goodIn_r _ [6, 7, 28, 29, 30, 31, 32, 33, 34, 35] (by decide +kernel) (by decide +kernel)
set_option maxRecDepth 20000 in
theorem gX5_shareOf_X0_size : GoodIn wsX5_shareOf (wsV RX5 15 RX0 yX0_size wsX0_size) := goodIn_app (goodIn_of _ (by decide +kernel)) ggX5_shareOf_X0_size
set_option maxRecDepth 20000 in
theorem ggX5_shareOf_X0_isCounted : GoodIn wsX5_shareOf wsX0_isCounted := goodIn_r _ [11, 12, 13, 14, 15, 5, 16, 17, 18, 19, 20, 21, 22, 23, 24, 25, 28, 29, 30, 31, 32, 33, 34, 35] (by decide +kernel) (by decide +kernel)
set_option maxRecDepth 20000 in
theorem gX5_shareOf_X0_isCounted : GoodIn wsX5_shareOf (wsV RX5 55 RX0 yX0_isCounted wsX0_isCounted) := goodIn_app (goodIn_of _ (by decide +kernel)) ggX5_shareOf_X0_isCounted
set_option maxRecDepth 20000 in
theorem ggX5_shareOf_X0_answerTo : GoodIn wsX5_shareOf wsX0_answerTo := goodIn_r _ [21, 22, 28, 29, 30, 31, 32, 33, 34, 35] (by decide +kernel) (by decide +kernel)
set_option maxRecDepth 20000 in
theorem gX5_shareOf_X0_answerTo : GoodIn wsX5_shareOf (wsV RX5 59 RX0 yX0_answerTo wsX0_answerTo) := goodIn_app (goodIn_of _ (by decide +kernel)) ggX5_shareOf_X0_answerTo
theorem dX5_shareOf_0 : decode cX5_shareOf 0 = .ok (.iconst 0, 1) := by decide +kernel
theorem dX5_shareOf_1 : decode cX5_shareOf 1 = .ok (.istore 5, 2) := by decide +kernel
theorem dX5_shareOf_3 : decode cX5_shareOf 3 = .ok (.iconst 0, 1) := by decide +kernel
theorem dX5_shareOf_4 : decode cX5_shareOf 4 = .ok (.istore 6, 2) := by decide +kernel
theorem dX5_shareOf_6 : decode cX5_shareOf 6 = .ok (.iconst 0, 1) := by decide +kernel
theorem dX5_shareOf_7 : decode cX5_shareOf 7 = .ok (.istore 7, 2) := by decide +kernel
theorem dX5_shareOf_9 : decode cX5_shareOf 9 = .ok (.iload 7, 2) := by decide +kernel
theorem dX5_shareOf_11 : decode cX5_shareOf 11 = .ok (.aload_n 1, 1) := by decide +kernel
theorem dX5_shareOf_12 : decode cX5_shareOf 12 = .ok (.invokevirtual 15, 3) := by decide +kernel
theorem dX5_shareOf_15 : decode cX5_shareOf 15 = .ok (.if_icmp .ge 56, 3) := by decide +kernel
theorem dX5_shareOf_18 : decode cX5_shareOf 18 = .ok (.aload_n 1, 1) := by decide +kernel
theorem dX5_shareOf_19 : decode cX5_shareOf 19 = .ok (.iload 7, 2) := by decide +kernel
theorem dX5_shareOf_21 : decode cX5_shareOf 21 = .ok (.iload_n 2, 1) := by decide +kernel
theorem dX5_shareOf_22 : decode cX5_shareOf 22 = .ok (.iload 4, 2) := by decide +kernel
theorem dX5_shareOf_24 : decode cX5_shareOf 24 = .ok (.invokevirtual 55, 3) := by decide +kernel
theorem dX5_shareOf_27 : decode cX5_shareOf 27 = .ok (.ifCond .eq 38, 3) := by decide +kernel
theorem dX5_shareOf_30 : decode cX5_shareOf 30 = .ok (.iload 5, 2) := by decide +kernel
theorem dX5_shareOf_32 : decode cX5_shareOf 32 = .ok (.aload_n 0, 1) := by decide +kernel
theorem dX5_shareOf_33 : decode cX5_shareOf 33 = .ok (.getfield 9, 3) := by decide +kernel
theorem dX5_shareOf_36 : decode cX5_shareOf 36 = .ok (.iload 7, 2) := by decide +kernel
theorem dX5_shareOf_38 : decode cX5_shareOf 38 = .ok (.iaload, 1) := by decide +kernel
theorem dX5_shareOf_39 : decode cX5_shareOf 39 = .ok (.iadd, 1) := by decide +kernel
theorem dX5_shareOf_40 : decode cX5_shareOf 40 = .ok (.istore 5, 2) := by decide +kernel
theorem dX5_shareOf_42 : decode cX5_shareOf 42 = .ok (.aload_n 1, 1) := by decide +kernel
theorem dX5_shareOf_43 : decode cX5_shareOf 43 = .ok (.iload 7, 2) := by decide +kernel
theorem dX5_shareOf_45 : decode cX5_shareOf 45 = .ok (.iload_n 2, 1) := by decide +kernel
theorem dX5_shareOf_46 : decode cX5_shareOf 46 = .ok (.invokevirtual 59, 3) := by decide +kernel
theorem dX5_shareOf_49 : decode cX5_shareOf 49 = .ok (.iload_n 3, 1) := by decide +kernel
theorem dX5_shareOf_50 : decode cX5_shareOf 50 = .ok (.if_icmp .ne 15, 3) := by decide +kernel
theorem dX5_shareOf_53 : decode cX5_shareOf 53 = .ok (.iload 6, 2) := by decide +kernel
theorem dX5_shareOf_55 : decode cX5_shareOf 55 = .ok (.aload_n 0, 1) := by decide +kernel
theorem dX5_shareOf_56 : decode cX5_shareOf 56 = .ok (.getfield 9, 3) := by decide +kernel
theorem dX5_shareOf_59 : decode cX5_shareOf 59 = .ok (.iload 7, 2) := by decide +kernel
theorem dX5_shareOf_61 : decode cX5_shareOf 61 = .ok (.iaload, 1) := by decide +kernel
theorem dX5_shareOf_62 : decode cX5_shareOf 62 = .ok (.iadd, 1) := by decide +kernel
theorem dX5_shareOf_63 : decode cX5_shareOf 63 = .ok (.istore 6, 2) := by decide +kernel
theorem dX5_shareOf_65 : decode cX5_shareOf 65 = .ok (.iinc 7 1, 3) := by decide +kernel
theorem dX5_shareOf_68 : decode cX5_shareOf 68 = .ok (.goto (-59), 3) := by decide +kernel
theorem dX5_shareOf_71 : decode cX5_shareOf 71 = .ok (.iload 5, 2) := by decide +kernel
theorem dX5_shareOf_73 : decode cX5_shareOf 73 = .ok (.ifCond .le 14, 3) := by decide +kernel
theorem dX5_shareOf_76 : decode cX5_shareOf 76 = .ok (.bipush 100, 2) := by decide +kernel
theorem dX5_shareOf_78 : decode cX5_shareOf 78 = .ok (.iload 6, 2) := by decide +kernel
theorem dX5_shareOf_80 : decode cX5_shareOf 80 = .ok (.imul, 1) := by decide +kernel
theorem dX5_shareOf_81 : decode cX5_shareOf 81 = .ok (.iload 5, 2) := by decide +kernel
theorem dX5_shareOf_83 : decode cX5_shareOf 83 = .ok (.idiv, 1) := by decide +kernel
theorem dX5_shareOf_84 : decode cX5_shareOf 84 = .ok (.goto 4, 3) := by decide +kernel
theorem dX5_shareOf_87 : decode cX5_shareOf 87 = .ok (.iconst (-1), 1) := by decide +kernel
theorem dX5_shareOf_88 : decode cX5_shareOf 88 = .ok (.ireturn, 1) := by decide +kernel
set_option maxRecDepth 20000 in
theorem ggX6_init_X2_init : GoodIn wsX6_init wsX2_init := goodIn_r _ [32, 33, 2, 3, 34, 35, 36, 37, 38, 39, 40, 41, 76, 77, 78, 79, 80] (by decide +kernel) (by decide +kernel)
set_option maxRecDepth 20000 in
theorem gX6_init_X2_init : GoodIn wsX6_init (wsX2_init) := ggX6_init_X2_init
set_option maxRecDepth 20000 in
theorem ggX6_init_X3_init : GoodIn wsX6_init wsX3_init := goodIn_r _ [43, 44, 2, 3, 34, 45, 46, 89, 90, 91] (by decide +kernel) (by decide +kernel)
set_option maxRecDepth 20000 in
theorem gX6_init_X3_init_n18 : GoodIn wsX6_init (wsX3_init) := ggX6_init_X3_init
set_option maxRecDepth 20000 in
theorem ggX6_init_X1_init : GoodIn wsX6_init wsX1_init := goodIn_r _ [48, 49, 2, 3, 34, 50, 51, 52, 53, 92, 93, 94, 95, 96, 97] (by decide +kernel) (by decide +kernel)
set_option maxRecDepth 20000 in
theorem gX6_init_X1_init_n25 : GoodIn wsX6_init (wsX1_init) := ggX6_init_X1_init
set_option maxRecDepth 20000 in
theorem ggX6_init_X0_init : GoodIn wsX6_init wsX0_init := goodIn_r _ [56, 57, 2, 3, 34, 58, 59, 60, 61, 62, 63, 64, 65, 39, 40, 41, 98, 99, 100, 101, 102, 103, 104, 105] (by decide +kernel) (by decide +kernel)
set_option maxRecDepth 20000 in
theorem gX6_init_X0_init : GoodIn wsX6_init (wsX0_init) := ggX6_init_X0_init
set_option maxRecDepth 20000 in
theorem ggX6_init_X5_init : GoodIn wsX6_init wsX5_init := goodIn_r _ [67, 68, 2, 3, 34, 69, 106] (by decide +kernel) (by decide +kernel)
set_option maxRecDepth 20000 in
theorem gX6_init_X5_init_n39 : GoodIn wsX6_init (wsX5_init) := ggX6_init_X5_init
set_option maxRecDepth 20000 in
theorem ggX6_init_X4_init : GoodIn wsX6_init wsX4_init := goodIn_r _ [72, 73, 2, 3, 34, 74, 75, 39, 40, 41, 107, 108] (by decide +kernel) (by decide +kernel)
set_option maxRecDepth 20000 in
theorem gX6_init_X4_init : GoodIn wsX6_init (wsX4_init) := ggX6_init_X4_init
theorem dX6_init_0 : decode cX6_init 0 = .ok (.aload_n 0, 1) := by decide +kernel
theorem dX6_init_1 : decode cX6_init 1 = .ok (.invokespecial 3, 3) := by decide +kernel
theorem dX6_init_4 : decode cX6_init 4 = .ok (.aload_n 0, 1) := by decide +kernel
theorem dX6_init_5 : decode cX6_init 5 = .ok (.new 9, 3) := by decide +kernel
theorem dX6_init_8 : decode cX6_init 8 = .ok (.dup, 1) := by decide +kernel
theorem dX6_init_9 : decode cX6_init 9 = .ok (.invokespecial 11, 3) := by decide +kernel
theorem dX6_init_12 : decode cX6_init 12 = .ok (.putfield 12, 3) := by decide +kernel
theorem dX6_init_15 : decode cX6_init 15 = .ok (.aload_n 0, 1) := by decide +kernel
theorem dX6_init_16 : decode cX6_init 16 = .ok (.new 16, 3) := by decide +kernel
theorem dX6_init_19 : decode cX6_init 19 = .ok (.dup, 1) := by decide +kernel
theorem dX6_init_20 : decode cX6_init 20 = .ok (.invokespecial 18, 3) := by decide +kernel
theorem dX6_init_23 : decode cX6_init 23 = .ok (.putfield 19, 3) := by decide +kernel
theorem dX6_init_26 : decode cX6_init 26 = .ok (.aload_n 0, 1) := by decide +kernel
theorem dX6_init_27 : decode cX6_init 27 = .ok (.new 23, 3) := by decide +kernel
theorem dX6_init_30 : decode cX6_init 30 = .ok (.dup, 1) := by decide +kernel
theorem dX6_init_31 : decode cX6_init 31 = .ok (.invokespecial 25, 3) := by decide +kernel
theorem dX6_init_34 : decode cX6_init 34 = .ok (.putfield 26, 3) := by decide +kernel
theorem dX6_init_37 : decode cX6_init 37 = .ok (.aload_n 0, 1) := by decide +kernel
theorem dX6_init_38 : decode cX6_init 38 = .ok (.new 30, 3) := by decide +kernel
theorem dX6_init_41 : decode cX6_init 41 = .ok (.dup, 1) := by decide +kernel
theorem dX6_init_42 : decode cX6_init 42 = .ok (.invokespecial 32, 3) := by decide +kernel
theorem dX6_init_45 : decode cX6_init 45 = .ok (.putfield 33, 3) := by decide +kernel
theorem dX6_init_48 : decode cX6_init 48 = .ok (.aload_n 0, 1) := by decide +kernel
theorem dX6_init_49 : decode cX6_init 49 = .ok (.new 37, 3) := by decide +kernel
theorem dX6_init_52 : decode cX6_init 52 = .ok (.dup, 1) := by decide +kernel
theorem dX6_init_53 : decode cX6_init 53 = .ok (.invokespecial 39, 3) := by decide +kernel
theorem dX6_init_56 : decode cX6_init 56 = .ok (.putfield 40, 3) := by decide +kernel
theorem dX6_init_59 : decode cX6_init 59 = .ok (.aload_n 0, 1) := by decide +kernel
theorem dX6_init_60 : decode cX6_init 60 = .ok (.new 37, 3) := by decide +kernel
theorem dX6_init_63 : decode cX6_init 63 = .ok (.dup, 1) := by decide +kernel
theorem dX6_init_64 : decode cX6_init 64 = .ok (.invokespecial 39, 3) := by decide +kernel
theorem dX6_init_67 : decode cX6_init 67 = .ok (.putfield 44, 3) := by decide +kernel
theorem dX6_init_70 : decode cX6_init 70 = .ok (.aload_n 0, 1) := by decide +kernel
theorem dX6_init_71 : decode cX6_init 71 = .ok (.new 47, 3) := by decide +kernel
theorem dX6_init_74 : decode cX6_init 74 = .ok (.dup, 1) := by decide +kernel
theorem dX6_init_75 : decode cX6_init 75 = .ok (.invokespecial 49, 3) := by decide +kernel
theorem dX6_init_78 : decode cX6_init 78 = .ok (.putfield 50, 3) := by decide +kernel
theorem dX6_init_81 : decode cX6_init 81 = .ok (.aload_n 0, 1) := by decide +kernel
theorem dX6_init_82 : decode cX6_init 82 = .ok (.iconst 3, 1) := by decide +kernel
theorem dX6_init_83 : decode cX6_init 83 = .ok (.putfield 54, 3) := by decide +kernel
theorem dX6_init_86 : decode cX6_init 86 = .ok (.return_, 1) := by decide +kernel
set_option maxRecDepth 20000 in
theorem ggX6_question_X2_size : GoodIn wsX6_question wsX2_size := goodIn_r _ [10, 11, 37, 38, 39, 40, 41] (by decide +kernel) (by decide +kernel)
set_option maxRecDepth 20000 in
theorem gX6_question_X2_size : GoodIn wsX6_question (wsV RX6 65 RX2 yX2_size wsX2_size) := goodIn_app (goodIn_of _ (by decide +kernel)) ggX6_question_X2_size
set_option maxRecDepth 20000 in
theorem ggX6_question_X6_needNoInterview : GoodIn wsX6_question wsX6_needNoInterview := goodIn_ca (goodIn_r _ [16, 3, 4, 17, 18, 19, 20, 21, 22, 23, 29, 30, 31, 32, 33, 34, 35, 36, 42, 43, 44, 45, 46, 47, 48, 49] (by decide +kernel) (by decide +kernel)) (goodIn_sub (fun _ h => List.mem_cons_of_mem _ (List.mem_append_right _ h)) (by decide +kernel))
set_option maxRecDepth 20000 in
theorem gX6_question_X6_needNoInterview : GoodIn wsX6_question (wsV RX6 74 RX6 yX6_needNoInterview wsX6_needNoInterview) := goodIn_app (goodIn_of _ (by decide +kernel)) ggX6_question_X6_needNoInterview
set_option maxRecDepth 20000 in
theorem ggX6_question_X2_add : GoodIn wsX6_question wsX2_add := goodIn_r _ [27, 28, 11, 37, 38, 39, 40, 41] (by decide +kernel) (by decide +kernel)
set_option maxRecDepth 20000 in
theorem gX6_question_X2_add : GoodIn wsX6_question (wsV RX6 77 RX2 yX2_add wsX2_add) := goodIn_app (goodIn_of _ (by decide +kernel)) ggX6_question_X2_add
theorem dX6_question_0 : decode cX6_question 0 = .ok (.iload_n 1, 1) := by decide +kernel
theorem dX6_question_1 : decode cX6_question 1 = .ok (.iconst 2, 1) := by decide +kernel
theorem dX6_question_2 : decode cX6_question 2 = .ok (.if_icmp .lt 8, 3) := by decide +kernel
theorem dX6_question_5 : decode cX6_question 5 = .ok (.iload_n 1, 1) := by decide +kernel
theorem dX6_question_6 : decode cX6_question 6 = .ok (.iconst 5, 1) := by decide +kernel
theorem dX6_question_7 : decode cX6_question 7 = .ok (.if_icmp .le 13, 3) := by decide +kernel
theorem dX6_question_10 : decode cX6_question 10 = .ok (.new 58, 3) := by decide +kernel
theorem dX6_question_13 : decode cX6_question 13 = .ok (.dup, 1) := by decide +kernel
theorem dX6_question_14 : decode cX6_question 14 = .ok (.ldc 60, 2) := by decide +kernel
theorem dX6_question_16 : decode cX6_question 16 = .ok (.invokespecial 62, 3) := by decide +kernel
theorem dX6_question_19 : decode cX6_question 19 = .ok (.athrow, 1) := by decide +kernel
theorem dX6_question_20 : decode cX6_question 20 = .ok (.aload_n 0, 1) := by decide +kernel
theorem dX6_question_21 : decode cX6_question 21 = .ok (.getfield 12, 3) := by decide +kernel
theorem dX6_question_24 : decode cX6_question 24 = .ok (.invokevirtual 65, 3) := by decide +kernel
theorem dX6_question_27 : decode cX6_question 27 = .ok (.bipush 10, 2) := by decide +kernel
theorem dX6_question_29 : decode cX6_question 29 = .ok (.if_icmp .lt 13, 3) := by decide +kernel
theorem dX6_question_32 : decode cX6_question 32 = .ok (.new 69, 3) := by decide +kernel
theorem dX6_question_35 : decode cX6_question 35 = .ok (.dup, 1) := by decide +kernel
theorem dX6_question_36 : decode cX6_question 36 = .ok (.ldc 71, 2) := by decide +kernel
theorem dX6_question_38 : decode cX6_question 38 = .ok (.invokespecial 73, 3) := by decide +kernel
theorem dX6_question_41 : decode cX6_question 41 = .ok (.athrow, 1) := by decide +kernel
theorem dX6_question_42 : decode cX6_question 42 = .ok (.aload_n 0, 1) := by decide +kernel
theorem dX6_question_43 : decode cX6_question 43 = .ok (.invokevirtual 74, 3) := by decide +kernel
theorem dX6_question_46 : decode cX6_question 46 = .ok (.aload_n 0, 1) := by decide +kernel
theorem dX6_question_47 : decode cX6_question 47 = .ok (.getfield 12, 3) := by decide +kernel
theorem dX6_question_50 : decode cX6_question 50 = .ok (.iload_n 1, 1) := by decide +kernel
theorem dX6_question_51 : decode cX6_question 51 = .ok (.invokevirtual 77, 3) := by decide +kernel
theorem dX6_question_54 : decode cX6_question 54 = .ok (.ireturn, 1) := by decide +kernel
set_option maxRecDepth 20000 in
theorem ggX6_route_X6_needAnswer : GoodIn wsX6_route wsX6_needAnswer := goodIn_ca (goodIn_r _ [8, 9, 10, 3, 11, 12, 13, 14, 15, 16, 17, 18, 19, 20, 21, 53, 54, 55, 56, 57, 58, 59, 60, 61, 62, 63, 64, 65] (by decide +kernel) (by decide +kernel)) (goodIn_sub (fun _ h => List.mem_cons_of_mem _ (List.mem_append_left _ (List.mem_append_right _ h))) (by decide +kernel))
set_option maxRecDepth 20000 in
theorem gX6_route_X6_needAnswer : GoodIn wsX6_route (wsV RX6 81 RX6 yX6_needAnswer wsX6_needAnswer) := goodIn_app (goodIn_of _ (by decide +kernel)) ggX6_route_X6_needAnswer
set_option maxRecDepth 20000 in
theorem ggX6_route_X6_needQuestion : GoodIn wsX6_route wsX6_needQuestion := goodIn_ca (goodIn_r _ [25, 9, 10, 3, 26, 18, 19, 14, 20, 21, 53, 54, 55, 56, 57, 58, 59, 60, 61, 62, 63, 64, 65] (by decide +kernel) (by decide +kernel)) (goodIn_sub (fun _ h => List.mem_cons_of_mem _ (List.mem_append_left _ (List.mem_append_right _ h))) (by decide +kernel))
set_option maxRecDepth 20000 in
theorem gX6_route_X6_needQuestion : GoodIn wsX6_route (wsV RX6 85 RX6 yX6_needQuestion wsX6_needQuestion) := goodIn_app (goodIn_of _ (by decide +kernel)) ggX6_route_X6_needQuestion
set_option maxRecDepth 20000 in
theorem ggX6_route_X6_needNoInterview : GoodIn wsX6_route wsX6_needNoInterview := goodIn_ca (goodIn_r _ [30, 31, 32, 33, 34, 35, 36, 37, 38, 39, 53, 54, 55, 56, 57, 58, 59, 60, 66, 67, 68, 69, 70, 71, 72, 73] (by decide +kernel) (by decide +kernel)) (goodIn_sub (fun _ h => List.mem_cons_of_mem _ (List.mem_append_right _ h)) (by decide +kernel))
set_option maxRecDepth 20000 in
theorem gX6_route_X6_needNoInterview : GoodIn wsX6_route (wsV RX6 74 RX6 yX6_needNoInterview wsX6_needNoInterview) := goodIn_app (goodIn_of _ (by decide +kernel)) ggX6_route_X6_needNoInterview
set_option maxRecDepth 20000 in
theorem ggX6_route_X2_wayFrom : GoodIn wsX6_route wsX2_wayFrom := goodIn_r _ [43, 44, 45, 46, 47, 14, 48, 21, 61, 62, 63, 64, 65] (by decide +kernel) (by decide +kernel)
set_option maxRecDepth 20000 in
theorem gX6_route_X2_wayFrom : GoodIn wsX6_route (wsV RX6 91 RX2 yX2_wayFrom wsX2_wayFrom) := goodIn_app (goodIn_of _ (by decide +kernel)) ggX6_route_X2_wayFrom
set_option maxRecDepth 20000 in
theorem ggX6_route_X2_setWay : GoodIn wsX6_route wsX2_setWay := goodIn_r _ [52, 44, 61, 62, 63, 64, 65] (by decide +kernel) (by decide +kernel)
set_option maxRecDepth 20000 in
theorem gX6_route_X2_setWay : GoodIn wsX6_route (wsV RX6 95 RX2 yX2_setWay wsX2_setWay) := goodIn_app (goodIn_of _ (by decide +kernel)) ggX6_route_X2_setWay
theorem dX6_route_0 : decode cX6_route 0 = .ok (.aload_n 0, 1) := by decide +kernel
theorem dX6_route_1 : decode cX6_route 1 = .ok (.iload_n 1, 1) := by decide +kernel
theorem dX6_route_2 : decode cX6_route 2 = .ok (.iload_n 2, 1) := by decide +kernel
theorem dX6_route_3 : decode cX6_route 3 = .ok (.invokevirtual 81, 3) := by decide +kernel
theorem dX6_route_6 : decode cX6_route 6 = .ok (.iload_n 3, 1) := by decide +kernel
theorem dX6_route_7 : decode cX6_route 7 = .ok (.iconst (-1), 1) := by decide +kernel
theorem dX6_route_8 : decode cX6_route 8 = .ok (.if_icmp .eq 23, 3) := by decide +kernel
theorem dX6_route_11 : decode cX6_route 11 = .ok (.aload_n 0, 1) := by decide +kernel
theorem dX6_route_12 : decode cX6_route 12 = .ok (.iload_n 3, 1) := by decide +kernel
theorem dX6_route_13 : decode cX6_route 13 = .ok (.invokevirtual 85, 3) := by decide +kernel
theorem dX6_route_16 : decode cX6_route 16 = .ok (.iload_n 3, 1) := by decide +kernel
theorem dX6_route_17 : decode cX6_route 17 = .ok (.iload_n 1, 1) := by decide +kernel
theorem dX6_route_18 : decode cX6_route 18 = .ok (.if_icmp .gt 13, 3) := by decide +kernel
theorem dX6_route_21 : decode cX6_route 21 = .ok (.new 58, 3) := by decide +kernel
theorem dX6_route_24 : decode cX6_route 24 = .ok (.dup, 1) := by decide +kernel
theorem dX6_route_25 : decode cX6_route 25 = .ok (.ldc 89, 2) := by decide +kernel
theorem dX6_route_27 : decode cX6_route 27 = .ok (.invokespecial 62, 3) := by decide +kernel
theorem dX6_route_30 : decode cX6_route 30 = .ok (.athrow, 1) := by decide +kernel
theorem dX6_route_31 : decode cX6_route 31 = .ok (.aload_n 0, 1) := by decide +kernel
theorem dX6_route_32 : decode cX6_route 32 = .ok (.invokevirtual 74, 3) := by decide +kernel
theorem dX6_route_35 : decode cX6_route 35 = .ok (.aload_n 0, 1) := by decide +kernel
theorem dX6_route_36 : decode cX6_route 36 = .ok (.getfield 12, 3) := by decide +kernel
theorem dX6_route_39 : decode cX6_route 39 = .ok (.iload_n 1, 1) := by decide +kernel
theorem dX6_route_40 : decode cX6_route 40 = .ok (.iload_n 2, 1) := by decide +kernel
theorem dX6_route_41 : decode cX6_route 41 = .ok (.invokevirtual 91, 3) := by decide +kernel
theorem dX6_route_44 : decode cX6_route 44 = .ok (.istore 4, 2) := by decide +kernel
theorem dX6_route_46 : decode cX6_route 46 = .ok (.aload_n 0, 1) := by decide +kernel
theorem dX6_route_47 : decode cX6_route 47 = .ok (.getfield 12, 3) := by decide +kernel
theorem dX6_route_50 : decode cX6_route 50 = .ok (.iload_n 1, 1) := by decide +kernel
theorem dX6_route_51 : decode cX6_route 51 = .ok (.iload_n 2, 1) := by decide +kernel
theorem dX6_route_52 : decode cX6_route 52 = .ok (.iload_n 3, 1) := by decide +kernel
theorem dX6_route_53 : decode cX6_route 53 = .ok (.invokevirtual 95, 3) := by decide +kernel
theorem dX6_route_56 : decode cX6_route 56 = .ok (.iload 4, 2) := by decide +kernel
theorem dX6_route_58 : decode cX6_route 58 = .ok (.ireturn, 1) := by decide +kernel
set_option maxRecDepth 20000 in
theorem ggX6_rotate_X2_size : GoodIn wsX6_rotate wsX2_size := goodIn_r _ [8, 9, 41, 42, 43, 44, 45] (by decide +kernel) (by decide +kernel)
set_option maxRecDepth 20000 in
theorem gX6_rotate_X2_size : GoodIn wsX6_rotate (wsV RX6 65 RX2 yX2_size wsX2_size) := goodIn_app (goodIn_of _ (by decide +kernel)) ggX6_rotate_X2_size
set_option maxRecDepth 20000 in
theorem ggX6_rotate_X6_needNoInterview : GoodIn wsX6_rotate wsX6_needNoInterview := goodIn_ca (goodIn_r _ [14, 15, 16, 17, 18, 19, 20, 21, 22, 23, 33, 34, 35, 36, 37, 38, 39, 40, 46, 47, 48, 49, 50, 51, 52, 53] (by decide +kernel) (by decide +kernel)) (goodIn_sub (fun _ h => List.mem_cons_of_mem _ (List.mem_append_right _ h)) (by decide +kernel))
set_option maxRecDepth 20000 in
theorem gX6_rotate_X6_needNoInterview : GoodIn wsX6_rotate (wsV RX6 74 RX6 yX6_needNoInterview wsX6_needNoInterview) := goodIn_app (goodIn_of _ (by decide +kernel)) ggX6_rotate_X6_needNoInterview
set_option maxRecDepth 20000 in
theorem ggX6_rotate_X2_rotation : GoodIn wsX6_rotate wsX2_rotation := goodIn_r _ [27, 28, 41, 42, 43, 44, 45] (by decide +kernel) (by decide +kernel)
set_option maxRecDepth 20000 in
theorem gX6_rotate_X2_rotation : GoodIn wsX6_rotate (wsV RX6 101 RX2 yX2_rotation wsX2_rotation) := goodIn_app (goodIn_of _ (by decide +kernel)) ggX6_rotate_X2_rotation
set_option maxRecDepth 20000 in
theorem ggX6_rotate_X2_setRotation : GoodIn wsX6_rotate wsX2_setRotation := goodIn_r _ [32, 28, 41, 42, 43, 44, 45] (by decide +kernel) (by decide +kernel)
set_option maxRecDepth 20000 in
theorem gX6_rotate_X2_setRotation : GoodIn wsX6_rotate (wsV RX6 104 RX2 yX2_setRotation wsX2_setRotation) := goodIn_app (goodIn_of _ (by decide +kernel)) ggX6_rotate_X2_setRotation
theorem dX6_rotate_0 : decode cX6_rotate 0 = .ok (.iload_n 1, 1) := by decide +kernel
theorem dX6_rotate_1 : decode cX6_rotate 1 = .ok (.ifCond .lt 19, 3) := by decide +kernel
theorem dX6_rotate_4 : decode cX6_rotate 4 = .ok (.iload_n 1, 1) := by decide +kernel
theorem dX6_rotate_5 : decode cX6_rotate 5 = .ok (.iconst 3, 1) := by decide +kernel
theorem dX6_rotate_6 : decode cX6_rotate 6 = .ok (.if_icmp .gt 14, 3) := by decide +kernel
theorem dX6_rotate_9 : decode cX6_rotate 9 = .ok (.iload_n 1, 1) := by decide +kernel
theorem dX6_rotate_10 : decode cX6_rotate 10 = .ok (.aload_n 0, 1) := by decide +kernel
theorem dX6_rotate_11 : decode cX6_rotate 11 = .ok (.getfield 12, 3) := by decide +kernel
theorem dX6_rotate_14 : decode cX6_rotate 14 = .ok (.invokevirtual 65, 3) := by decide +kernel
theorem dX6_rotate_17 : decode cX6_rotate 17 = .ok (.if_icmp .le 13, 3) := by decide +kernel
theorem dX6_rotate_20 : decode cX6_rotate 20 = .ok (.new 58, 3) := by decide +kernel
theorem dX6_rotate_23 : decode cX6_rotate 23 = .ok (.dup, 1) := by decide +kernel
theorem dX6_rotate_24 : decode cX6_rotate 24 = .ok (.ldc 99, 2) := by decide +kernel
theorem dX6_rotate_26 : decode cX6_rotate 26 = .ok (.invokespecial 62, 3) := by decide +kernel
theorem dX6_rotate_29 : decode cX6_rotate 29 = .ok (.athrow, 1) := by decide +kernel
theorem dX6_rotate_30 : decode cX6_rotate 30 = .ok (.aload_n 0, 1) := by decide +kernel
theorem dX6_rotate_31 : decode cX6_rotate 31 = .ok (.invokevirtual 74, 3) := by decide +kernel
theorem dX6_rotate_34 : decode cX6_rotate 34 = .ok (.aload_n 0, 1) := by decide +kernel
theorem dX6_rotate_35 : decode cX6_rotate 35 = .ok (.getfield 12, 3) := by decide +kernel
theorem dX6_rotate_38 : decode cX6_rotate 38 = .ok (.invokevirtual 101, 3) := by decide +kernel
theorem dX6_rotate_41 : decode cX6_rotate 41 = .ok (.istore_n 2, 1) := by decide +kernel
theorem dX6_rotate_42 : decode cX6_rotate 42 = .ok (.aload_n 0, 1) := by decide +kernel
theorem dX6_rotate_43 : decode cX6_rotate 43 = .ok (.getfield 12, 3) := by decide +kernel
theorem dX6_rotate_46 : decode cX6_rotate 46 = .ok (.iload_n 1, 1) := by decide +kernel
theorem dX6_rotate_47 : decode cX6_rotate 47 = .ok (.invokevirtual 104, 3) := by decide +kernel
theorem dX6_rotate_50 : decode cX6_rotate 50 = .ok (.iload_n 2, 1) := by decide +kernel
theorem dX6_rotate_51 : decode cX6_rotate 51 = .ok (.ireturn, 1) := by decide +kernel
set_option maxRecDepth 20000 in
theorem ggX6_person_X6_isA : GoodIn wsX6_person wsX6_isA := goodIn_r _ [9] (by decide +kernel) (by decide +kernel)
set_option maxRecDepth 20000 in
theorem gX6_person_X6_isA : GoodIn wsX6_person (va_wsS RX6 107 yX6_isA wsX6_isA) := goodIn_app (goodIn_of _ (by decide +kernel)) ggX6_person_X6_isA
set_option maxRecDepth 20000 in
theorem ggX6_person_X6_isB : GoodIn wsX6_person wsX6_isB := goodIn_r _ [12] (by decide +kernel) (by decide +kernel)
set_option maxRecDepth 20000 in
theorem gX6_person_X6_isB : GoodIn wsX6_person (va_wsS RX6 111 yX6_isB wsX6_isB) := goodIn_app (goodIn_of _ (by decide +kernel)) ggX6_person_X6_isB
set_option maxRecDepth 20000 in
theorem ggX6_person_X1_size : GoodIn wsX6_person wsX1_size := goodIn_r _ [17, 18, 36, 37, 38, 39, 40, 41] (by decide +kernel) (by decide +kernel)
set_option maxRecDepth 20000 in
theorem gX6_person_X1_size : GoodIn wsX6_person (wsV RX6 116 RX1 yX1_size wsX1_size) := goodIn_app (goodIn_of _ (by decide +kernel)) ggX6_person_X1_size
set_option maxRecDepth 20000 in
theorem ggX6_person_X6_cellAt : GoodIn wsX6_person wsX6_cellAt := goodIn_r _ [21] (by decide +kernel) (by decide +kernel)
set_option maxRecDepth 20000 in
theorem gX6_person_X6_cellAt : GoodIn wsX6_person (va_wsS RX6 119 yX6_cellAt wsX6_cellAt) := goodIn_app (goodIn_of _ (by decide +kernel)) ggX6_person_X6_cellAt
set_option maxRecDepth 20000 in
theorem ggX6_person_X1_add : GoodIn wsX6_person wsX1_add := goodIn_r _ [25, 26, 18, 27, 36, 37, 38, 39, 40, 41] (by decide +kernel) (by decide +kernel)
set_option maxRecDepth 20000 in
theorem gX6_person_X1_add : GoodIn wsX6_person (wsV RX6 122 RX1 yX1_add wsX1_add) := goodIn_app (goodIn_of _ (by decide +kernel)) ggX6_person_X1_add
theorem dX6_person_0 : decode cX6_person 0 = .ok (.iload_n 1, 1) := by decide +kernel
theorem dX6_person_1 : decode cX6_person 1 = .ok (.invokestatic 107, 3) := by decide +kernel
theorem dX6_person_4 : decode cX6_person 4 = .ok (.ifCond .eq 10, 3) := by decide +kernel
theorem dX6_person_7 : decode cX6_person 7 = .ok (.iload_n 2, 1) := by decide +kernel
theorem dX6_person_8 : decode cX6_person 8 = .ok (.invokestatic 111, 3) := by decide +kernel
theorem dX6_person_11 : decode cX6_person 11 = .ok (.ifCond .ne 13, 3) := by decide +kernel
theorem dX6_person_14 : decode cX6_person 14 = .ok (.new 58, 3) := by decide +kernel
theorem dX6_person_17 : decode cX6_person 17 = .ok (.dup, 1) := by decide +kernel
theorem dX6_person_18 : decode cX6_person 18 = .ok (.ldc 114, 2) := by decide +kernel
theorem dX6_person_20 : decode cX6_person 20 = .ok (.invokespecial 62, 3) := by decide +kernel
theorem dX6_person_23 : decode cX6_person 23 = .ok (.athrow, 1) := by decide +kernel
theorem dX6_person_24 : decode cX6_person 24 = .ok (.aload_n 0, 1) := by decide +kernel
theorem dX6_person_25 : decode cX6_person 25 = .ok (.getfield 26, 3) := by decide +kernel
theorem dX6_person_28 : decode cX6_person 28 = .ok (.invokevirtual 116, 3) := by decide +kernel
theorem dX6_person_31 : decode cX6_person 31 = .ok (.bipush 24, 2) := by decide +kernel
theorem dX6_person_33 : decode cX6_person 33 = .ok (.if_icmp .lt 13, 3) := by decide +kernel
theorem dX6_person_36 : decode cX6_person 36 = .ok (.new 69, 3) := by decide +kernel
theorem dX6_person_39 : decode cX6_person 39 = .ok (.dup, 1) := by decide +kernel
theorem dX6_person_40 : decode cX6_person 40 = .ok (.ldc 117, 2) := by decide +kernel
theorem dX6_person_42 : decode cX6_person 42 = .ok (.invokespecial 73, 3) := by decide +kernel
theorem dX6_person_45 : decode cX6_person 45 = .ok (.athrow, 1) := by decide +kernel
theorem dX6_person_46 : decode cX6_person 46 = .ok (.aload_n 0, 1) := by decide +kernel
theorem dX6_person_47 : decode cX6_person 47 = .ok (.getfield 26, 3) := by decide +kernel
theorem dX6_person_50 : decode cX6_person 50 = .ok (.iload_n 1, 1) := by decide +kernel
theorem dX6_person_51 : decode cX6_person 51 = .ok (.iload_n 2, 1) := by decide +kernel
theorem dX6_person_52 : decode cX6_person 52 = .ok (.invokestatic 119, 3) := by decide +kernel
theorem dX6_person_55 : decode cX6_person 55 = .ok (.invokevirtual 122, 3) := by decide +kernel
theorem dX6_person_58 : decode cX6_person 58 = .ok (.ireturn, 1) := by decide +kernel
set_option maxRecDepth 20000 in
theorem ggX6_target_X6_needCell : GoodIn wsX6_target wsX6_needCell := goodIn_ca (goodIn_r _ [7, 8, 9, 10, 11, 6, 12, 13, 14, 15] (by decide +kernel) (by decide +kernel)) (goodIn_sub (fun _ h => List.mem_cons_of_mem _ (List.mem_append_right _ h)) (by decide +kernel))
set_option maxRecDepth 20000 in
theorem gX6_target_X6_needCell : GoodIn wsX6_target (va_wsS RX6 123 yX6_needCell wsX6_needCell) := goodIn_app (goodIn_of _ (by decide +kernel)) ggX6_target_X6_needCell
set_option maxRecDepth 20000 in
theorem ggX6_target_X6_cellAt : GoodIn wsX6_target wsX6_cellAt := goodIn_r _ [18] (by decide +kernel) (by decide +kernel)
set_option maxRecDepth 20000 in
theorem gX6_target_X6_cellAt : GoodIn wsX6_target (va_wsS RX6 119 yX6_cellAt wsX6_cellAt) := goodIn_app (goodIn_of _ (by decide +kernel)) ggX6_target_X6_cellAt
set_option maxRecDepth 20000 in
theorem ggX6_target_X3_targetOf : GoodIn wsX6_target wsX3_targetOf := goodIn_r _ [23, 24, 86, 87, 88] (by decide +kernel) (by decide +kernel)
set_option maxRecDepth 20000 in
theorem gX6_target_X3_targetOf : GoodIn wsX6_target (wsV RX6 128 RX3 yX3_targetOf wsX3_targetOf) := goodIn_app (goodIn_of _ (by decide +kernel)) ggX6_target_X3_targetOf
set_option maxRecDepth 20000 in
theorem ggX6_target_X3_setTarget : GoodIn wsX6_target wsX3_setTarget := goodIn_r _ [28, 24, 86, 87, 88] (by decide +kernel) (by decide +kernel)
set_option maxRecDepth 20000 in
theorem gX6_target_X3_setTarget : GoodIn wsX6_target (wsV RX6 131 RX3 yX3_setTarget wsX3_setTarget) := goodIn_app (goodIn_of _ (by decide +kernel)) ggX6_target_X3_setTarget
set_option maxRecDepth 20000 in
theorem ggX6_target_X6_reweigh : GoodIn wsX6_target wsX6_reweigh := goodIn_r _ [32, 33, 34, 3, 35, 36, 37, 38, 39, 40, 41, 42, 43, 44, 45, 46, 47, 48, 49, 50, 51, 52, 53, 54, 55, 22, 56, 24, 57, 6, 58, 59, 60, 61, 62, 63, 64, 65, 66, 67, 68, 69, 70, 71, 72, 73, 74, 75, 76, 77, 78, 79, 80, 81, 82, 83, 84, 85, 89, 90, 91, 92, 93, 94, 95, 96, 97, 86, 87, 88] (by decide +kernel) (by decide +kernel)
set_option maxRecDepth 20000 in
theorem gX6_target_X6_reweigh : GoodIn wsX6_target (wsV RX6 134 RX6 yX6_reweigh wsX6_reweigh) := goodIn_app (goodIn_of _ (by decide +kernel)) ggX6_target_X6_reweigh
theorem dX6_target_0 : decode cX6_target 0 = .ok (.iload_n 1, 1) := by decide +kernel
theorem dX6_target_1 : decode cX6_target 1 = .ok (.iload_n 2, 1) := by decide +kernel
theorem dX6_target_2 : decode cX6_target 2 = .ok (.invokestatic 123, 3) := by decide +kernel
theorem dX6_target_5 : decode cX6_target 5 = .ok (.iload_n 3, 1) := by decide +kernel
theorem dX6_target_6 : decode cX6_target 6 = .ok (.ifCond .lt 9, 3) := by decide +kernel
theorem dX6_target_9 : decode cX6_target 9 = .ok (.iload_n 3, 1) := by decide +kernel
theorem dX6_target_10 : decode cX6_target 10 = .ok (.bipush 9, 2) := by decide +kernel
theorem dX6_target_12 : decode cX6_target 12 = .ok (.if_icmp .le 13, 3) := by decide +kernel
theorem dX6_target_15 : decode cX6_target 15 = .ok (.new 58, 3) := by decide +kernel
theorem dX6_target_18 : decode cX6_target 18 = .ok (.dup, 1) := by decide +kernel
theorem dX6_target_19 : decode cX6_target 19 = .ok (.ldc 126, 2) := by decide +kernel
theorem dX6_target_21 : decode cX6_target 21 = .ok (.invokespecial 62, 3) := by decide +kernel
theorem dX6_target_24 : decode cX6_target 24 = .ok (.athrow, 1) := by decide +kernel
theorem dX6_target_25 : decode cX6_target 25 = .ok (.iload_n 1, 1) := by decide +kernel
theorem dX6_target_26 : decode cX6_target 26 = .ok (.iload_n 2, 1) := by decide +kernel
theorem dX6_target_27 : decode cX6_target 27 = .ok (.invokestatic 119, 3) := by decide +kernel
theorem dX6_target_30 : decode cX6_target 30 = .ok (.istore 4, 2) := by decide +kernel
theorem dX6_target_32 : decode cX6_target 32 = .ok (.aload_n 0, 1) := by decide +kernel
theorem dX6_target_33 : decode cX6_target 33 = .ok (.getfield 19, 3) := by decide +kernel
theorem dX6_target_36 : decode cX6_target 36 = .ok (.iload 4, 2) := by decide +kernel
theorem dX6_target_38 : decode cX6_target 38 = .ok (.invokevirtual 128, 3) := by decide +kernel
theorem dX6_target_41 : decode cX6_target 41 = .ok (.istore 5, 2) := by decide +kernel
theorem dX6_target_43 : decode cX6_target 43 = .ok (.aload_n 0, 1) := by decide +kernel
theorem dX6_target_44 : decode cX6_target 44 = .ok (.getfield 19, 3) := by decide +kernel
theorem dX6_target_47 : decode cX6_target 47 = .ok (.iload 4, 2) := by decide +kernel
theorem dX6_target_49 : decode cX6_target 49 = .ok (.iload_n 3, 1) := by decide +kernel
theorem dX6_target_50 : decode cX6_target 50 = .ok (.invokevirtual 131, 3) := by decide +kernel
theorem dX6_target_53 : decode cX6_target 53 = .ok (.aload_n 0, 1) := by decide +kernel
theorem dX6_target_54 : decode cX6_target 54 = .ok (.invokevirtual 134, 3) := by decide +kernel
theorem dX6_target_57 : decode cX6_target 57 = .ok (.iload 5, 2) := by decide +kernel
theorem dX6_target_59 : decode cX6_target 59 = .ok (.ireturn, 1) := by decide +kernel
set_option maxRecDepth 20000 in
theorem ggX6_soft_X3_softEdge : GoodIn wsX6_soft wsX3_softEdge := goodIn_r _ [8, 9, 22, 23, 24] (by decide +kernel) (by decide +kernel)
set_option maxRecDepth 20000 in
theorem gX6_soft_X3_softEdge : GoodIn wsX6_soft (wsV RX6 139 RX3 yX3_softEdge wsX3_softEdge) := goodIn_app (goodIn_of _ (by decide +kernel)) ggX6_soft_X3_softEdge
set_option maxRecDepth 20000 in
theorem ggX6_soft_X3_setSoftEdge : GoodIn wsX6_soft wsX3_setSoftEdge := goodIn_r _ [13, 9, 22, 23, 24] (by decide +kernel) (by decide +kernel)
set_option maxRecDepth 20000 in
theorem gX6_soft_X3_setSoftEdge : GoodIn wsX6_soft (wsV RX6 142 RX3 yX3_setSoftEdge wsX3_setSoftEdge) := goodIn_app (goodIn_of _ (by decide +kernel)) ggX6_soft_X3_setSoftEdge
theorem dX6_soft_0 : decode cX6_soft 0 = .ok (.iload_n 1, 1) := by decide +kernel
theorem dX6_soft_1 : decode cX6_soft 1 = .ok (.ifCond .lt 8, 3) := by decide +kernel
theorem dX6_soft_4 : decode cX6_soft 4 = .ok (.iload_n 1, 1) := by decide +kernel
theorem dX6_soft_5 : decode cX6_soft 5 = .ok (.iconst 3, 1) := by decide +kernel
theorem dX6_soft_6 : decode cX6_soft 6 = .ok (.if_icmp .le 13, 3) := by decide +kernel
theorem dX6_soft_9 : decode cX6_soft 9 = .ok (.new 58, 3) := by decide +kernel
theorem dX6_soft_12 : decode cX6_soft 12 = .ok (.dup, 1) := by decide +kernel
theorem dX6_soft_13 : decode cX6_soft 13 = .ok (.ldc 137, 2) := by decide +kernel
theorem dX6_soft_15 : decode cX6_soft 15 = .ok (.invokespecial 62, 3) := by decide +kernel
theorem dX6_soft_18 : decode cX6_soft 18 = .ok (.athrow, 1) := by decide +kernel
theorem dX6_soft_19 : decode cX6_soft 19 = .ok (.aload_n 0, 1) := by decide +kernel
theorem dX6_soft_20 : decode cX6_soft 20 = .ok (.getfield 19, 3) := by decide +kernel
theorem dX6_soft_23 : decode cX6_soft 23 = .ok (.invokevirtual 139, 3) := by decide +kernel
theorem dX6_soft_26 : decode cX6_soft 26 = .ok (.istore_n 2, 1) := by decide +kernel
theorem dX6_soft_27 : decode cX6_soft 27 = .ok (.aload_n 0, 1) := by decide +kernel
theorem dX6_soft_28 : decode cX6_soft 28 = .ok (.getfield 19, 3) := by decide +kernel
theorem dX6_soft_31 : decode cX6_soft 31 = .ok (.iload_n 1, 1) := by decide +kernel
theorem dX6_soft_32 : decode cX6_soft 32 = .ok (.invokevirtual 142, 3) := by decide +kernel
theorem dX6_soft_35 : decode cX6_soft 35 = .ok (.iload_n 2, 1) := by decide +kernel
theorem dX6_soft_36 : decode cX6_soft 36 = .ok (.ireturn, 1) := by decide +kernel
set_option maxRecDepth 20000 in
theorem ggX6_ofCell_X6_needCell : GoodIn wsX6_ofCell wsX6_needCell := goodIn_ca (goodIn_r _ [8, 9, 10, 11, 12, 7, 13, 14, 15, 16] (by decide +kernel) (by decide +kernel)) (goodIn_sub (fun _ h => List.mem_cons_of_mem _ (List.mem_append_right _ h)) (by decide +kernel))
set_option maxRecDepth 20000 in
theorem gX6_ofCell_X6_needCell : GoodIn wsX6_ofCell (va_wsS RX6 123 yX6_needCell wsX6_needCell) := goodIn_app (goodIn_of _ (by decide +kernel)) ggX6_ofCell_X6_needCell
set_option maxRecDepth 20000 in
theorem ggX6_ofCell_X6_cellAt : GoodIn wsX6_ofCell wsX6_cellAt := goodIn_r _ [19] (by decide +kernel) (by decide +kernel)
set_option maxRecDepth 20000 in
theorem gX6_ofCell_X6_cellAt : GoodIn wsX6_ofCell (va_wsS RX6 119 yX6_cellAt wsX6_cellAt) := goodIn_app (goodIn_of _ (by decide +kernel)) ggX6_ofCell_X6_cellAt
set_option maxRecDepth 20000 in
theorem ggX6_ofCell_X3_targetOf : GoodIn wsX6_ofCell wsX3_targetOf := goodIn_r _ [24, 25, 96, 97, 98] (by decide +kernel) (by decide +kernel)
set_option maxRecDepth 20000 in
theorem gX6_ofCell_X3_targetOf : GoodIn wsX6_ofCell (wsV RX6 128 RX3 yX3_targetOf wsX3_targetOf) := goodIn_app (goodIn_of _ (by decide +kernel)) ggX6_ofCell_X3_targetOf
set_option maxRecDepth 20000 in
theorem ggX6_ofCell_X3_filledOf : GoodIn wsX6_ofCell wsX3_filledOf := goodIn_r _ [29, 30, 96, 97, 98] (by decide +kernel) (by decide +kernel)
set_option maxRecDepth 20000 in
theorem gX6_ofCell_X3_filledOf : GoodIn wsX6_ofCell (wsV RX6 145 RX3 yX3_filledOf wsX3_filledOf) := goodIn_app (goodIn_of _ (by decide +kernel)) ggX6_ofCell_X3_filledOf
set_option maxRecDepth 20000 in
theorem ggX6_ofCell_X3_isOpen : GoodIn wsX6_ofCell wsX3_isOpen := goodIn_r _ [34, 35, 36, 37, 23, 38, 30, 25, 39, 40, 41, 42, 96, 97, 98] (by decide +kernel) (by decide +kernel)
set_option maxRecDepth 20000 in
theorem gX6_ofCell_X3_isOpen : GoodIn wsX6_ofCell (wsV RX6 148 RX3 yX3_isOpen wsX3_isOpen) := goodIn_app (goodIn_of _ (by decide +kernel)) ggX6_ofCell_X3_isOpen
set_option maxRecDepth 20000 in
theorem ggX6_ofCell_X1_countOf : GoodIn wsX6_ofCell wsX1_countOf := goodIn_r _ [47, 48, 49, 99, 100, 101, 102, 103, 104] (by decide +kernel) (by decide +kernel)
set_option maxRecDepth 20000 in
theorem gX6_ofCell_X1_countOf : GoodIn wsX6_ofCell (wsV RX6 151 RX1 yX1_countOf wsX1_countOf) := goodIn_app (goodIn_of _ (by decide +kernel)) ggX6_ofCell_X1_countOf
set_option maxRecDepth 20000 in
theorem ggX6_ofCell_X6_countToAsk : GoodIn wsX6_ofCell wsX6_countToAsk := goodIn_r _ [53, 4, 54, 55, 56, 46, 57, 48, 58, 59, 60, 61, 49, 62, 63, 64, 7, 65, 66, 3, 67, 68, 69, 70, 71, 72, 73, 74, 75, 76, 77, 78, 79, 80, 81, 82, 83, 84, 85, 86, 87, 31, 32, 33, 23, 34, 35, 36, 37, 38, 30, 25, 39, 40, 41, 42, 88, 89, 90, 91, 92, 93, 94, 95, 99, 100, 101, 102, 103, 104, 105, 106, 107, 108, 109, 110, 111, 112, 96, 97, 98] (by decide +kernel) (by decide +kernel)
set_option maxRecDepth 20000 in
theorem gX6_ofCell_X6_countToAsk : GoodIn wsX6_ofCell (wsV RX6 154 RX6 yX6_countToAsk wsX6_countToAsk) := goodIn_app (goodIn_of _ (by decide +kernel)) ggX6_ofCell_X6_countToAsk
theorem dX6_ofCell_0 : decode cX6_ofCell 0 = .ok (.iload_n 1, 1) := by decide +kernel
theorem dX6_ofCell_1 : decode cX6_ofCell 1 = .ok (.iload_n 2, 1) := by decide +kernel
theorem dX6_ofCell_2 : decode cX6_ofCell 2 = .ok (.invokestatic 123, 3) := by decide +kernel
theorem dX6_ofCell_5 : decode cX6_ofCell 5 = .ok (.iload_n 1, 1) := by decide +kernel
theorem dX6_ofCell_6 : decode cX6_ofCell 6 = .ok (.iload_n 2, 1) := by decide +kernel
theorem dX6_ofCell_7 : decode cX6_ofCell 7 = .ok (.invokestatic 119, 3) := by decide +kernel
theorem dX6_ofCell_10 : decode cX6_ofCell 10 = .ok (.istore 4, 2) := by decide +kernel
theorem dX6_ofCell_12 : decode cX6_ofCell 12 = .ok (.iload_n 3, 1) := by decide +kernel
theorem dX6_ofCell_13 : decode cX6_ofCell 13 = .ok (.tableswitch 90 0 4 #[35, 45, 55, 73, 83], 35) := by decide +kernel
theorem dX6_ofCell_48 : decode cX6_ofCell 48 = .ok (.aload_n 0, 1) := by decide +kernel
theorem dX6_ofCell_49 : decode cX6_ofCell 49 = .ok (.getfield 19, 3) := by decide +kernel
theorem dX6_ofCell_52 : decode cX6_ofCell 52 = .ok (.iload 4, 2) := by decide +kernel
theorem dX6_ofCell_54 : decode cX6_ofCell 54 = .ok (.invokevirtual 128, 3) := by decide +kernel
theorem dX6_ofCell_57 : decode cX6_ofCell 57 = .ok (.ireturn, 1) := by decide +kernel
theorem dX6_ofCell_58 : decode cX6_ofCell 58 = .ok (.aload_n 0, 1) := by decide +kernel
theorem dX6_ofCell_59 : decode cX6_ofCell 59 = .ok (.getfield 19, 3) := by decide +kernel
theorem dX6_ofCell_62 : decode cX6_ofCell 62 = .ok (.iload 4, 2) := by decide +kernel
theorem dX6_ofCell_64 : decode cX6_ofCell 64 = .ok (.invokevirtual 145, 3) := by decide +kernel
theorem dX6_ofCell_67 : decode cX6_ofCell 67 = .ok (.ireturn, 1) := by decide +kernel
theorem dX6_ofCell_68 : decode cX6_ofCell 68 = .ok (.aload_n 0, 1) := by decide +kernel
theorem dX6_ofCell_69 : decode cX6_ofCell 69 = .ok (.getfield 19, 3) := by decide +kernel
theorem dX6_ofCell_72 : decode cX6_ofCell 72 = .ok (.iload 4, 2) := by decide +kernel
theorem dX6_ofCell_74 : decode cX6_ofCell 74 = .ok (.invokevirtual 148, 3) := by decide +kernel
theorem dX6_ofCell_77 : decode cX6_ofCell 77 = .ok (.ifCond .eq 7, 3) := by decide +kernel
theorem dX6_ofCell_80 : decode cX6_ofCell 80 = .ok (.iconst 1, 1) := by decide +kernel
theorem dX6_ofCell_81 : decode cX6_ofCell 81 = .ok (.goto 4, 3) := by decide +kernel
theorem dX6_ofCell_84 : decode cX6_ofCell 84 = .ok (.iconst 0, 1) := by decide +kernel
theorem dX6_ofCell_85 : decode cX6_ofCell 85 = .ok (.ireturn, 1) := by decide +kernel
theorem dX6_ofCell_86 : decode cX6_ofCell 86 = .ok (.aload_n 0, 1) := by decide +kernel
theorem dX6_ofCell_87 : decode cX6_ofCell 87 = .ok (.getfield 26, 3) := by decide +kernel
theorem dX6_ofCell_90 : decode cX6_ofCell 90 = .ok (.iload 4, 2) := by decide +kernel
theorem dX6_ofCell_92 : decode cX6_ofCell 92 = .ok (.invokevirtual 151, 3) := by decide +kernel
theorem dX6_ofCell_95 : decode cX6_ofCell 95 = .ok (.ireturn, 1) := by decide +kernel
theorem dX6_ofCell_96 : decode cX6_ofCell 96 = .ok (.aload_n 0, 1) := by decide +kernel
theorem dX6_ofCell_97 : decode cX6_ofCell 97 = .ok (.iload 4, 2) := by decide +kernel
theorem dX6_ofCell_99 : decode cX6_ofCell 99 = .ok (.invokevirtual 154, 3) := by decide +kernel
theorem dX6_ofCell_102 : decode cX6_ofCell 102 = .ok (.ireturn, 1) := by decide +kernel
theorem dX6_ofCell_103 : decode cX6_ofCell 103 = .ok (.new 58, 3) := by decide +kernel
theorem dX6_ofCell_106 : decode cX6_ofCell 106 = .ok (.dup, 1) := by decide +kernel
theorem dX6_ofCell_107 : decode cX6_ofCell 107 = .ok (.ldc 157, 2) := by decide +kernel
theorem dX6_ofCell_109 : decode cX6_ofCell 109 = .ok (.invokespecial 62, 3) := by decide +kernel
theorem dX6_ofCell_112 : decode cX6_ofCell 112 = .ok (.athrow, 1) := by decide +kernel
set_option maxRecDepth 20000 in
theorem ggX6_ofPerson_X6_needPerson : GoodIn wsX6_ofPerson wsX6_needPerson := goodIn_ca (goodIn_r _ [8, 9, 10, 3, 11, 12, 13, 14, 15, 16, 75, 76, 77, 78, 79, 80, 81, 82, 83, 84, 85, 86, 87, 88] (by decide +kernel) (by decide +kernel)) (goodIn_sub (fun _ h => List.mem_cons_of_mem _ (List.mem_append_right _ h)) (by decide +kernel))
set_option maxRecDepth 20000 in
theorem gX6_ofPerson_X6_needPerson : GoodIn wsX6_ofPerson (wsV RX6 159 RX6 yX6_needPerson wsX6_needPerson) := goodIn_app (goodIn_of _ (by decide +kernel)) ggX6_ofPerson_X6_needPerson
set_option maxRecDepth 20000 in
theorem ggX6_ofPerson_X1_cellOf : GoodIn wsX6_ofPerson wsX1_cellOf := goodIn_r _ [20, 21, 83, 84, 85, 86, 87, 88] (by decide +kernel) (by decide +kernel)
set_option maxRecDepth 20000 in
theorem gX6_ofPerson_X1_cellOf : GoodIn wsX6_ofPerson (wsV RX6 162 RX1 yX1_cellOf wsX1_cellOf) := goodIn_app (goodIn_of _ (by decide +kernel)) ggX6_ofPerson_X1_cellOf
set_option maxRecDepth 20000 in
theorem ggX6_ofPerson_X6_aOf : GoodIn wsX6_ofPerson wsX6_aOf := goodIn_r _ [24] (by decide +kernel) (by decide +kernel)
set_option maxRecDepth 20000 in
theorem gX6_ofPerson_X6_aOf : GoodIn wsX6_ofPerson (va_wsS RX6 165 yX6_aOf wsX6_aOf) := goodIn_app (goodIn_of _ (by decide +kernel)) ggX6_ofPerson_X6_aOf
set_option maxRecDepth 20000 in
theorem ggX6_ofPerson_X6_bOf : GoodIn wsX6_ofPerson wsX6_bOf := goodIn_r _ [27] (by decide +kernel) (by decide +kernel)
set_option maxRecDepth 20000 in
theorem gX6_ofPerson_X6_bOf : GoodIn wsX6_ofPerson (va_wsS RX6 168 yX6_bOf wsX6_bOf) := goodIn_app (goodIn_of _ (by decide +kernel)) ggX6_ofPerson_X6_bOf
set_option maxRecDepth 20000 in
theorem ggX6_ofPerson_X1_fatigueIn : GoodIn wsX6_ofPerson wsX1_fatigueIn := goodIn_r _ [31, 32, 33, 34, 35, 36, 83, 84, 85, 86, 87, 88] (by decide +kernel) (by decide +kernel)
set_option maxRecDepth 20000 in
theorem gX6_ofPerson_X1_fatigueIn : GoodIn wsX6_ofPerson (wsV RX6 171 RX1 yX1_fatigueIn wsX1_fatigueIn) := goodIn_app (goodIn_of _ (by decide +kernel)) ggX6_ofPerson_X1_fatigueIn
set_option maxRecDepth 20000 in
theorem ggX6_ofPerson_X1_pointsOf : GoodIn wsX6_ofPerson wsX1_pointsOf := goodIn_r _ [40, 41, 83, 84, 85, 86, 87, 88] (by decide +kernel) (by decide +kernel)
set_option maxRecDepth 20000 in
theorem gX6_ofPerson_X1_pointsOf : GoodIn wsX6_ofPerson (wsV RX6 174 RX1 yX1_pointsOf wsX1_pointsOf) := goodIn_app (goodIn_of _ (by decide +kernel)) ggX6_ofPerson_X1_pointsOf
set_option maxRecDepth 20000 in
theorem ggX6_ofPerson_X6_canBeAsked : GoodIn wsX6_ofPerson wsX6_canBeAsked := goodIn_r _ [45, 46, 3, 47, 48, 49, 50, 14, 51, 52, 53, 54, 55, 56, 57, 58, 59, 28, 29, 30, 31, 32, 33, 34, 35, 36, 17, 18, 19, 20, 21, 60, 61, 62, 63, 64, 65, 66, 67, 68, 69, 70, 71, 72, 73, 74, 75, 76, 77, 78, 79, 80, 81, 82, 83, 84, 85, 86, 87, 88, 89, 90, 91, 92, 93, 94, 95, 96, 97, 98, 99] (by decide +kernel) (by decide +kernel)
set_option maxRecDepth 20000 in
theorem gX6_ofPerson_X6_canBeAsked : GoodIn wsX6_ofPerson (wsV RX6 177 RX6 yX6_canBeAsked wsX6_canBeAsked) := goodIn_app (goodIn_of _ (by decide +kernel)) ggX6_ofPerson_X6_canBeAsked
set_option maxRecDepth 20000 in
theorem ggX6_ofPerson_X1_latestOf : GoodIn wsX6_ofPerson wsX1_latestOf := goodIn_r _ [51, 52, 83, 84, 85, 86, 87, 88] (by decide +kernel) (by decide +kernel)
set_option maxRecDepth 20000 in
theorem gX6_ofPerson_X1_latestOf : GoodIn wsX6_ofPerson (wsV RX6 181 RX1 yX1_latestOf wsX1_latestOf) := goodIn_app (goodIn_of _ (by decide +kernel)) ggX6_ofPerson_X1_latestOf
theorem dX6_ofPerson_0 : decode cX6_ofPerson 0 = .ok (.aload_n 0, 1) := by decide +kernel
theorem dX6_ofPerson_1 : decode cX6_ofPerson 1 = .ok (.iload_n 1, 1) := by decide +kernel
theorem dX6_ofPerson_2 : decode cX6_ofPerson 2 = .ok (.invokevirtual 159, 3) := by decide +kernel
theorem dX6_ofPerson_5 : decode cX6_ofPerson 5 = .ok (.iload_n 2, 1) := by decide +kernel
theorem dX6_ofPerson_6 : decode cX6_ofPerson 6 = .ok (.tableswitch 105 0 5 #[38, 50, 62, 72, 81, 96], 38) := by decide +kernel
theorem dX6_ofPerson_44 : decode cX6_ofPerson 44 = .ok (.aload_n 0, 1) := by decide +kernel
theorem dX6_ofPerson_45 : decode cX6_ofPerson 45 = .ok (.getfield 26, 3) := by decide +kernel
theorem dX6_ofPerson_48 : decode cX6_ofPerson 48 = .ok (.iload_n 1, 1) := by decide +kernel
theorem dX6_ofPerson_49 : decode cX6_ofPerson 49 = .ok (.invokevirtual 162, 3) := by decide +kernel
theorem dX6_ofPerson_52 : decode cX6_ofPerson 52 = .ok (.invokestatic 165, 3) := by decide +kernel
theorem dX6_ofPerson_55 : decode cX6_ofPerson 55 = .ok (.ireturn, 1) := by decide +kernel
theorem dX6_ofPerson_56 : decode cX6_ofPerson 56 = .ok (.aload_n 0, 1) := by decide +kernel
theorem dX6_ofPerson_57 : decode cX6_ofPerson 57 = .ok (.getfield 26, 3) := by decide +kernel
theorem dX6_ofPerson_60 : decode cX6_ofPerson 60 = .ok (.iload_n 1, 1) := by decide +kernel
theorem dX6_ofPerson_61 : decode cX6_ofPerson 61 = .ok (.invokevirtual 162, 3) := by decide +kernel
theorem dX6_ofPerson_64 : decode cX6_ofPerson 64 = .ok (.invokestatic 168, 3) := by decide +kernel
theorem dX6_ofPerson_67 : decode cX6_ofPerson 67 = .ok (.ireturn, 1) := by decide +kernel
theorem dX6_ofPerson_68 : decode cX6_ofPerson 68 = .ok (.aload_n 0, 1) := by decide +kernel
theorem dX6_ofPerson_69 : decode cX6_ofPerson 69 = .ok (.getfield 26, 3) := by decide +kernel
theorem dX6_ofPerson_72 : decode cX6_ofPerson 72 = .ok (.iload_n 1, 1) := by decide +kernel
theorem dX6_ofPerson_73 : decode cX6_ofPerson 73 = .ok (.iconst 0, 1) := by decide +kernel
theorem dX6_ofPerson_74 : decode cX6_ofPerson 74 = .ok (.invokevirtual 171, 3) := by decide +kernel
theorem dX6_ofPerson_77 : decode cX6_ofPerson 77 = .ok (.ireturn, 1) := by decide +kernel
theorem dX6_ofPerson_78 : decode cX6_ofPerson 78 = .ok (.aload_n 0, 1) := by decide +kernel
theorem dX6_ofPerson_79 : decode cX6_ofPerson 79 = .ok (.getfield 26, 3) := by decide +kernel
theorem dX6_ofPerson_82 : decode cX6_ofPerson 82 = .ok (.iload_n 1, 1) := by decide +kernel
theorem dX6_ofPerson_83 : decode cX6_ofPerson 83 = .ok (.invokevirtual 174, 3) := by decide +kernel
theorem dX6_ofPerson_86 : decode cX6_ofPerson 86 = .ok (.ireturn, 1) := by decide +kernel
theorem dX6_ofPerson_87 : decode cX6_ofPerson 87 = .ok (.aload_n 0, 1) := by decide +kernel
theorem dX6_ofPerson_88 : decode cX6_ofPerson 88 = .ok (.iload_n 1, 1) := by decide +kernel
theorem dX6_ofPerson_89 : decode cX6_ofPerson 89 = .ok (.iconst 0, 1) := by decide +kernel
theorem dX6_ofPerson_90 : decode cX6_ofPerson 90 = .ok (.invokevirtual 177, 3) := by decide +kernel
theorem dX6_ofPerson_93 : decode cX6_ofPerson 93 = .ok (.ifCond .eq 7, 3) := by decide +kernel
theorem dX6_ofPerson_96 : decode cX6_ofPerson 96 = .ok (.iconst 1, 1) := by decide +kernel
theorem dX6_ofPerson_97 : decode cX6_ofPerson 97 = .ok (.goto 4, 3) := by decide +kernel
theorem dX6_ofPerson_100 : decode cX6_ofPerson 100 = .ok (.iconst 0, 1) := by decide +kernel
theorem dX6_ofPerson_101 : decode cX6_ofPerson 101 = .ok (.ireturn, 1) := by decide +kernel
theorem dX6_ofPerson_102 : decode cX6_ofPerson 102 = .ok (.aload_n 0, 1) := by decide +kernel
theorem dX6_ofPerson_103 : decode cX6_ofPerson 103 = .ok (.getfield 26, 3) := by decide +kernel
theorem dX6_ofPerson_106 : decode cX6_ofPerson 106 = .ok (.iload_n 1, 1) := by decide +kernel
theorem dX6_ofPerson_107 : decode cX6_ofPerson 107 = .ok (.invokevirtual 181, 3) := by decide +kernel
theorem dX6_ofPerson_110 : decode cX6_ofPerson 110 = .ok (.ireturn, 1) := by decide +kernel
theorem dX6_ofPerson_111 : decode cX6_ofPerson 111 = .ok (.new 58, 3) := by decide +kernel
theorem dX6_ofPerson_114 : decode cX6_ofPerson 114 = .ok (.dup, 1) := by decide +kernel
theorem dX6_ofPerson_115 : decode cX6_ofPerson 115 = .ok (.ldc 184, 2) := by decide +kernel
theorem dX6_ofPerson_117 : decode cX6_ofPerson 117 = .ok (.invokespecial 62, 3) := by decide +kernel
theorem dX6_ofPerson_120 : decode cX6_ofPerson 120 = .ok (.athrow, 1) := by decide +kernel
set_option maxRecDepth 20000 in
theorem ggX6_next_X6_firstToAsk : GoodIn wsX6_next wsX6_firstToAsk := goodIn_r _ [5, 6, 7, 8, 9, 10, 11, 12, 13, 14, 15, 4, 16, 17, 18, 19, 20, 21, 22, 23, 24, 25, 26, 27, 28, 29, 30, 31, 32, 33, 34, 35, 36, 37, 38, 39, 40, 41, 42, 43, 44, 45, 46, 47, 48, 49, 50, 51, 52, 53, 54, 55, 56, 57, 58, 59, 60, 61, 62, 63, 64, 65, 66, 67, 68, 69, 70, 71, 72, 73, 74, 75, 76, 77, 78, 79, 80, 81, 82, 83, 84, 85, 86, 87, 88, 89, 90, 91, 92] (by decide +kernel) (by decide +kernel)
set_option maxRecDepth 20000 in
theorem gX6_next_X6_firstToAsk : GoodIn wsX6_next (wsV RX6 186 RX6 yX6_firstToAsk wsX6_firstToAsk) := goodIn_app (goodIn_of _ (by decide +kernel)) ggX6_next_X6_firstToAsk
theorem dX6_next_0 : decode cX6_next 0 = .ok (.aload_n 0, 1) := by decide +kernel
theorem dX6_next_1 : decode cX6_next 1 = .ok (.iconst 0, 1) := by decide +kernel
theorem dX6_next_2 : decode cX6_next 2 = .ok (.invokevirtual 186, 3) := by decide +kernel
theorem dX6_next_5 : decode cX6_next 5 = .ok (.ireturn, 1) := by decide +kernel
set_option maxRecDepth 20000 in
theorem ggX6_day_X1_beginDay : GoodIn wsX6_day wsX1_beginDay := goodIn_r _ [6, 7, 8, 9, 10, 11, 12, 5, 13, 14, 15, 16, 17, 26, 27, 28, 29, 30, 31] (by decide +kernel) (by decide +kernel)
set_option maxRecDepth 20000 in
theorem gX6_day_X1_beginDay : GoodIn wsX6_day (wsV RX6 189 RX1 yX1_beginDay wsX1_beginDay) := goodIn_app (goodIn_of _ (by decide +kernel)) ggX6_day_X1_beginDay
theorem dX6_day_0 : decode cX6_day 0 = .ok (.aload_n 0, 1) := by decide +kernel
theorem dX6_day_1 : decode cX6_day 1 = .ok (.getfield 26, 3) := by decide +kernel
theorem dX6_day_4 : decode cX6_day 4 = .ok (.invokevirtual 189, 3) := by decide +kernel
theorem dX6_day_7 : decode cX6_day 7 = .ok (.ireturn, 1) := by decide +kernel
set_option maxRecDepth 20000 in
theorem ggX6_begin_X6_needPerson : GoodIn wsX6_begin wsX6_needPerson := goodIn_ca (goodIn_r _ [10, 11, 12, 5, 13, 14, 15, 16, 17, 18, 98, 99, 100, 101, 102, 103, 104, 105, 106, 107, 108, 109, 110, 111] (by decide +kernel) (by decide +kernel)) (goodIn_sub (fun _ h => List.mem_cons_of_mem _ (List.mem_append_right _ h)) (by decide +kernel))
set_option maxRecDepth 20000 in
theorem gX6_begin_X6_needPerson : GoodIn wsX6_begin (wsV RX6 159 RX6 yX6_needPerson wsX6_needPerson) := goodIn_app (goodIn_of _ (by decide +kernel)) ggX6_begin_X6_needPerson
set_option maxRecDepth 20000 in
theorem ggX6_begin_X6_canBeAsked : GoodIn wsX6_begin wsX6_canBeAsked := goodIn_r _ [22, 4, 5, 23, 24, 25, 26, 16, 27, 28, 29, 30, 31, 32, 33, 34, 35, 36, 37, 38, 39, 40, 41, 42, 43, 44, 45, 46, 47, 48, 49, 50, 51, 52, 53, 54, 55, 56, 57, 58, 59, 60, 61, 62, 63, 64, 98, 99, 100, 101, 102, 103, 104, 105, 106, 107, 108, 109, 110, 111, 112, 113, 114, 115, 116, 117, 118, 119, 120, 121, 122] (by decide +kernel) (by decide +kernel)
set_option maxRecDepth 20000 in
theorem gX6_begin_X6_canBeAsked : GoodIn wsX6_begin (wsV RX6 177 RX6 yX6_canBeAsked wsX6_canBeAsked) := goodIn_app (goodIn_of _ (by decide +kernel)) ggX6_begin_X6_canBeAsked
set_option maxRecDepth 20000 in
theorem ggX6_begin_X2_size : GoodIn wsX6_begin wsX2_size := goodIn_r _ [69, 70, 123, 124, 125, 126, 127] (by decide +kernel) (by decide +kernel)
set_option maxRecDepth 20000 in
theorem gX6_begin_X2_size : GoodIn wsX6_begin (wsV RX6 65 RX2 yX2_size wsX2_size) := goodIn_app (goodIn_of _ (by decide +kernel)) ggX6_begin_X2_size
set_option maxRecDepth 20000 in
theorem ggX6_begin_X0_size : GoodIn wsX6_begin wsX0_size := goodIn_r _ [74, 34, 112, 113, 114, 115, 116, 117, 118, 119] (by decide +kernel) (by decide +kernel)
set_option maxRecDepth 20000 in
theorem gX6_begin_X0_size : GoodIn wsX6_begin (wsV RX6 196 RX0 yX0_size wsX0_size) := goodIn_app (goodIn_of _ (by decide +kernel)) ggX6_begin_X0_size
set_option maxRecDepth 20000 in
theorem ggX6_begin_X1_cellOf : GoodIn wsX6_begin wsX1_cellOf := goodIn_r _ [48, 49, 106, 107, 108, 109, 110, 111] (by decide +kernel) (by decide +kernel)
set_option maxRecDepth 20000 in
theorem gX6_begin_X1_cellOf : GoodIn wsX6_begin (wsV RX6 162 RX1 yX1_cellOf wsX1_cellOf) := goodIn_app (goodIn_of _ (by decide +kernel)) ggX6_begin_X1_cellOf
set_option maxRecDepth 20000 in
theorem ggX6_begin_X0_add : GoodIn wsX6_begin wsX0_add := goodIn_r _ [78, 79, 34, 80, 35, 112, 113, 114, 115, 116, 117, 118, 119] (by decide +kernel) (by decide +kernel)
set_option maxRecDepth 20000 in
theorem gX6_begin_X0_add : GoodIn wsX6_begin (wsV RX6 199 RX0 yX0_add wsX0_add) := goodIn_app (goodIn_of _ (by decide +kernel)) ggX6_begin_X0_add
set_option maxRecDepth 20000 in
theorem ggX6_begin_X2_firstOf : GoodIn wsX6_begin wsX2_firstOf := goodIn_r _ [84, 85, 123, 124, 125, 126, 127] (by decide +kernel) (by decide +kernel)
set_option maxRecDepth 20000 in
theorem gX6_begin_X2_firstOf : GoodIn wsX6_begin (wsV RX6 201 RX2 yX2_firstOf wsX2_firstOf) := goodIn_app (goodIn_of _ (by decide +kernel)) ggX6_begin_X2_firstOf
set_option maxRecDepth 20000 in
theorem ggX6_begin_X0_moveTo : GoodIn wsX6_begin wsX0_moveTo := goodIn_r _ [89, 90, 112, 113, 114, 115, 116, 117, 118, 119] (by decide +kernel) (by decide +kernel)
set_option maxRecDepth 20000 in
theorem gX6_begin_X0_moveTo : GoodIn wsX6_begin (wsV RX6 204 RX0 yX0_moveTo wsX0_moveTo) := goodIn_app (goodIn_of _ (by decide +kernel)) ggX6_begin_X0_moveTo
set_option maxRecDepth 20000 in
theorem ggX6_begin_X1_ask : GoodIn wsX6_begin wsX1_ask := goodIn_r _ [94, 40, 95, 96, 43, 97, 28, 106, 107, 108, 109, 110, 111] (by decide +kernel) (by decide +kernel)
set_option maxRecDepth 20000 in
theorem gX6_begin_X1_ask : GoodIn wsX6_begin (wsV RX6 207 RX1 yX1_ask wsX1_ask) := goodIn_app (goodIn_of _ (by decide +kernel)) ggX6_begin_X1_ask
theorem dX6_begin_0 : decode cX6_begin 0 = .ok (.aload_n 0, 1) := by decide +kernel
theorem dX6_begin_1 : decode cX6_begin 1 = .ok (.iload_n 1, 1) := by decide +kernel
theorem dX6_begin_2 : decode cX6_begin 2 = .ok (.invokevirtual 159, 3) := by decide +kernel
theorem dX6_begin_5 : decode cX6_begin 5 = .ok (.aload_n 0, 1) := by decide +kernel
theorem dX6_begin_6 : decode cX6_begin 6 = .ok (.iload_n 1, 1) := by decide +kernel
theorem dX6_begin_7 : decode cX6_begin 7 = .ok (.iconst 0, 1) := by decide +kernel
theorem dX6_begin_8 : decode cX6_begin 8 = .ok (.invokevirtual 177, 3) := by decide +kernel
theorem dX6_begin_11 : decode cX6_begin 11 = .ok (.ifCond .ne 13, 3) := by decide +kernel
theorem dX6_begin_14 : decode cX6_begin 14 = .ok (.new 69, 3) := by decide +kernel
theorem dX6_begin_17 : decode cX6_begin 17 = .ok (.dup, 1) := by decide +kernel
theorem dX6_begin_18 : decode cX6_begin 18 = .ok (.ldc 192, 2) := by decide +kernel
theorem dX6_begin_20 : decode cX6_begin 20 = .ok (.invokespecial 73, 3) := by decide +kernel
theorem dX6_begin_23 : decode cX6_begin 23 = .ok (.athrow, 1) := by decide +kernel
theorem dX6_begin_24 : decode cX6_begin 24 = .ok (.aload_n 0, 1) := by decide +kernel
theorem dX6_begin_25 : decode cX6_begin 25 = .ok (.getfield 12, 3) := by decide +kernel
theorem dX6_begin_28 : decode cX6_begin 28 = .ok (.invokevirtual 65, 3) := by decide +kernel
theorem dX6_begin_31 : decode cX6_begin 31 = .ok (.ifCond .ne 13, 3) := by decide +kernel
theorem dX6_begin_34 : decode cX6_begin 34 = .ok (.new 69, 3) := by decide +kernel
theorem dX6_begin_37 : decode cX6_begin 37 = .ok (.dup, 1) := by decide +kernel
theorem dX6_begin_38 : decode cX6_begin 38 = .ok (.ldc 194, 2) := by decide +kernel
theorem dX6_begin_40 : decode cX6_begin 40 = .ok (.invokespecial 73, 3) := by decide +kernel
theorem dX6_begin_43 : decode cX6_begin 43 = .ok (.athrow, 1) := by decide +kernel
theorem dX6_begin_44 : decode cX6_begin 44 = .ok (.aload_n 0, 1) := by decide +kernel
theorem dX6_begin_45 : decode cX6_begin 45 = .ok (.getfield 33, 3) := by decide +kernel
theorem dX6_begin_48 : decode cX6_begin 48 = .ok (.invokevirtual 196, 3) := by decide +kernel
theorem dX6_begin_51 : decode cX6_begin 51 = .ok (.bipush 40, 2) := by decide +kernel
theorem dX6_begin_53 : decode cX6_begin 53 = .ok (.if_icmp .lt 13, 3) := by decide +kernel
theorem dX6_begin_56 : decode cX6_begin 56 = .ok (.new 69, 3) := by decide +kernel
theorem dX6_begin_59 : decode cX6_begin 59 = .ok (.dup, 1) := by decide +kernel
theorem dX6_begin_60 : decode cX6_begin 60 = .ok (.ldc 197, 2) := by decide +kernel
theorem dX6_begin_62 : decode cX6_begin 62 = .ok (.invokespecial 73, 3) := by decide +kernel
theorem dX6_begin_65 : decode cX6_begin 65 = .ok (.athrow, 1) := by decide +kernel
theorem dX6_begin_66 : decode cX6_begin 66 = .ok (.aload_n 0, 1) := by decide +kernel
theorem dX6_begin_67 : decode cX6_begin 67 = .ok (.getfield 33, 3) := by decide +kernel
theorem dX6_begin_70 : decode cX6_begin 70 = .ok (.iload_n 1, 1) := by decide +kernel
theorem dX6_begin_71 : decode cX6_begin 71 = .ok (.aload_n 0, 1) := by decide +kernel
theorem dX6_begin_72 : decode cX6_begin 72 = .ok (.getfield 26, 3) := by decide +kernel
theorem dX6_begin_75 : decode cX6_begin 75 = .ok (.iload_n 1, 1) := by decide +kernel
theorem dX6_begin_76 : decode cX6_begin 76 = .ok (.invokevirtual 162, 3) := by decide +kernel
theorem dX6_begin_79 : decode cX6_begin 79 = .ok (.invokevirtual 199, 3) := by decide +kernel
theorem dX6_begin_82 : decode cX6_begin 82 = .ok (.istore_n 2, 1) := by decide +kernel
theorem dX6_begin_83 : decode cX6_begin 83 = .ok (.aload_n 0, 1) := by decide +kernel
theorem dX6_begin_84 : decode cX6_begin 84 = .ok (.getfield 33, 3) := by decide +kernel
theorem dX6_begin_87 : decode cX6_begin 87 = .ok (.iload_n 2, 1) := by decide +kernel
theorem dX6_begin_88 : decode cX6_begin 88 = .ok (.aload_n 0, 1) := by decide +kernel
theorem dX6_begin_89 : decode cX6_begin 89 = .ok (.getfield 12, 3) := by decide +kernel
theorem dX6_begin_92 : decode cX6_begin 92 = .ok (.iload_n 2, 1) := by decide +kernel
theorem dX6_begin_93 : decode cX6_begin 93 = .ok (.invokevirtual 201, 3) := by decide +kernel
theorem dX6_begin_96 : decode cX6_begin 96 = .ok (.invokevirtual 204, 3) := by decide +kernel
theorem dX6_begin_99 : decode cX6_begin 99 = .ok (.aload_n 0, 1) := by decide +kernel
theorem dX6_begin_100 : decode cX6_begin 100 = .ok (.getfield 26, 3) := by decide +kernel
theorem dX6_begin_103 : decode cX6_begin 103 = .ok (.iload_n 1, 1) := by decide +kernel
theorem dX6_begin_104 : decode cX6_begin 104 = .ok (.iload_n 2, 1) := by decide +kernel
theorem dX6_begin_105 : decode cX6_begin 105 = .ok (.invokevirtual 207, 3) := by decide +kernel
theorem dX6_begin_108 : decode cX6_begin 108 = .ok (.iload_n 2, 1) := by decide +kernel
theorem dX6_begin_109 : decode cX6_begin 109 = .ok (.ireturn, 1) := by decide +kernel
set_option maxRecDepth 20000 in
theorem ggX6_answer_X6_needInterview : GoodIn wsX6_answer wsX6_needInterview := goodIn_ca (goodIn_r _ [11, 12, 13, 5, 14, 15, 16, 17, 18, 19, 153, 154, 155, 156, 157, 158, 159, 160, 161, 162, 163, 164, 165, 166, 167, 168] (by decide +kernel) (by decide +kernel)) (goodIn_sub (fun _ h => List.mem_cons_of_mem _ (List.mem_append_right _ h)) (by decide +kernel))
set_option maxRecDepth 20000 in
theorem gX6_answer_X6_needInterview : GoodIn wsX6_answer (wsV RX6 210 RX6 yX6_needInterview wsX6_needInterview) := goodIn_app (goodIn_of _ (by decide +kernel)) ggX6_answer_X6_needInterview
set_option maxRecDepth 20000 in
theorem ggX6_answer_X0_stateOf : GoodIn wsX6_answer wsX0_stateOf := goodIn_r _ [23, 24, 161, 162, 163, 164, 165, 166, 167, 168] (by decide +kernel) (by decide +kernel)
set_option maxRecDepth 20000 in
theorem gX6_answer_X0_stateOf : GoodIn wsX6_answer (wsV RX6 213 RX0 yX0_stateOf wsX0_stateOf) := goodIn_app (goodIn_of _ (by decide +kernel)) ggX6_answer_X0_stateOf
set_option maxRecDepth 20000 in
theorem ggX6_answer_X0_placeOf : GoodIn wsX6_answer wsX0_placeOf := goodIn_r _ [28, 29, 161, 162, 163, 164, 165, 166, 167, 168] (by decide +kernel) (by decide +kernel)
set_option maxRecDepth 20000 in
theorem gX6_answer_X0_placeOf : GoodIn wsX6_answer (wsV RX6 218 RX0 yX0_placeOf wsX0_placeOf) := goodIn_app (goodIn_of _ (by decide +kernel)) ggX6_answer_X0_placeOf
set_option maxRecDepth 20000 in
theorem ggX6_answer_X2_offers : GoodIn wsX6_answer wsX2_offers := goodIn_r _ [34, 35, 36, 37, 38, 33, 39, 40, 169, 170, 171, 172, 173] (by decide +kernel) (by decide +kernel)
set_option maxRecDepth 20000 in
theorem gX6_answer_X2_offers : GoodIn wsX6_answer (wsV RX6 221 RX2 yX2_offers wsX2_offers) := goodIn_app (goodIn_of _ (by decide +kernel)) ggX6_answer_X2_offers
set_option maxRecDepth 20000 in
theorem ggX6_answer_X0_note : GoodIn wsX6_answer wsX0_note := goodIn_r _ [44, 45, 46, 47, 161, 162, 163, 164, 165, 166, 167, 168] (by decide +kernel) (by decide +kernel)
set_option maxRecDepth 20000 in
theorem gX6_answer_X0_note : GoodIn wsX6_answer (wsV RX6 228 RX0 yX0_note wsX0_note) := goodIn_app (goodIn_of _ (by decide +kernel)) ggX6_answer_X0_note
set_option maxRecDepth 20000 in
theorem ggX6_answer_X0_countOf : GoodIn wsX6_answer wsX0_countOf := goodIn_r _ [51, 47, 161, 162, 163, 164, 165, 166, 167, 168] (by decide +kernel) (by decide +kernel)
set_option maxRecDepth 20000 in
theorem gX6_answer_X0_countOf : GoodIn wsX6_answer (wsV RX6 232 RX0 yX0_countOf wsX0_countOf) := goodIn_app (goodIn_of _ (by decide +kernel)) ggX6_answer_X0_countOf
set_option maxRecDepth 20000 in
theorem ggX6_answer_X2_nextOf : GoodIn wsX6_answer wsX2_nextOf := goodIn_r _ [55, 56, 57, 58, 59, 33, 60, 40, 61, 62, 63, 64, 65, 169, 170, 171, 172, 173] (by decide +kernel) (by decide +kernel)
set_option maxRecDepth 20000 in
theorem gX6_answer_X2_nextOf : GoodIn wsX6_answer (wsV RX6 233 RX2 yX2_nextOf wsX2_nextOf) := goodIn_app (goodIn_of _ (by decide +kernel)) ggX6_answer_X2_nextOf
set_option maxRecDepth 20000 in
theorem ggX6_answer_X0_moveTo : GoodIn wsX6_answer wsX0_moveTo := goodIn_r _ [69, 29, 161, 162, 163, 164, 165, 166, 167, 168] (by decide +kernel) (by decide +kernel)
set_option maxRecDepth 20000 in
theorem gX6_answer_X0_moveTo : GoodIn wsX6_answer (wsV RX6 204 RX0 yX0_moveTo wsX0_moveTo) := goodIn_app (goodIn_of _ (by decide +kernel)) ggX6_answer_X0_moveTo
set_option maxRecDepth 20000 in
theorem ggX6_answer_X6_finish : GoodIn wsX6_answer wsX6_finish := goodIn_r _ [73, 5, 74, 75, 76, 77, 78, 17, 79, 80, 81, 82, 83, 84, 85, 86, 87, 88, 89, 90, 91, 92, 93, 94, 95, 96, 97, 98, 99, 100, 101, 102, 103, 104, 24, 105, 106, 107, 108, 109, 110, 111, 112, 113, 114, 115, 116, 117, 10, 118, 119, 120, 121, 122, 123, 124, 125, 126, 127, 15, 16, 18, 19, 128, 129, 130, 131, 132, 133, 134, 135, 136, 137, 138, 139, 140, 141, 142, 143, 144, 145, 146, 147, 148, 149, 150, 151, 152, 153, 154, 155, 156, 157, 158, 159, 160, 161, 162, 163, 164, 165, 166, 167, 168, 174, 175, 176, 177, 178, 179, 180, 181, 182, 183] (by decide +kernel) (by decide +kernel)
set_option maxRecDepth 20000 in
theorem gX6_answer_X6_finish : GoodIn wsX6_answer (wsV RX6 237 RX6 yX6_finish wsX6_finish) := goodIn_app (goodIn_of _ (by decide +kernel)) ggX6_answer_X6_finish
theorem dX6_answer_0 : decode cX6_answer 0 = .ok (.aload_n 0, 1) := by decide +kernel
theorem dX6_answer_1 : decode cX6_answer 1 = .ok (.iload_n 1, 1) := by decide +kernel
theorem dX6_answer_2 : decode cX6_answer 2 = .ok (.invokevirtual 210, 3) := by decide +kernel
theorem dX6_answer_5 : decode cX6_answer 5 = .ok (.aload_n 0, 1) := by decide +kernel
theorem dX6_answer_6 : decode cX6_answer 6 = .ok (.getfield 33, 3) := by decide +kernel
theorem dX6_answer_9 : decode cX6_answer 9 = .ok (.iload_n 1, 1) := by decide +kernel
theorem dX6_answer_10 : decode cX6_answer 10 = .ok (.invokevirtual 213, 3) := by decide +kernel
theorem dX6_answer_13 : decode cX6_answer 13 = .ok (.ifCond .eq 13, 3) := by decide +kernel
theorem dX6_answer_16 : decode cX6_answer 16 = .ok (.new 69, 3) := by decide +kernel
theorem dX6_answer_19 : decode cX6_answer 19 = .ok (.dup, 1) := by decide +kernel
theorem dX6_answer_20 : decode cX6_answer 20 = .ok (.ldc 216, 2) := by decide +kernel
theorem dX6_answer_22 : decode cX6_answer 22 = .ok (.invokespecial 73, 3) := by decide +kernel
theorem dX6_answer_25 : decode cX6_answer 25 = .ok (.athrow, 1) := by decide +kernel
theorem dX6_answer_26 : decode cX6_answer 26 = .ok (.aload_n 0, 1) := by decide +kernel
theorem dX6_answer_27 : decode cX6_answer 27 = .ok (.getfield 33, 3) := by decide +kernel
theorem dX6_answer_30 : decode cX6_answer 30 = .ok (.iload_n 1, 1) := by decide +kernel
theorem dX6_answer_31 : decode cX6_answer 31 = .ok (.invokevirtual 218, 3) := by decide +kernel
theorem dX6_answer_34 : decode cX6_answer 34 = .ok (.istore 4, 2) := by decide +kernel
theorem dX6_answer_36 : decode cX6_answer 36 = .ok (.aload_n 0, 1) := by decide +kernel
theorem dX6_answer_37 : decode cX6_answer 37 = .ok (.getfield 12, 3) := by decide +kernel
theorem dX6_answer_40 : decode cX6_answer 40 = .ok (.iload 4, 2) := by decide +kernel
theorem dX6_answer_42 : decode cX6_answer 42 = .ok (.iload_n 2, 1) := by decide +kernel
theorem dX6_answer_43 : decode cX6_answer 43 = .ok (.invokevirtual 221, 3) := by decide +kernel
theorem dX6_answer_46 : decode cX6_answer 46 = .ok (.ifCond .ne 13, 3) := by decide +kernel
theorem dX6_answer_49 : decode cX6_answer 49 = .ok (.new 58, 3) := by decide +kernel
theorem dX6_answer_52 : decode cX6_answer 52 = .ok (.dup, 1) := by decide +kernel
theorem dX6_answer_53 : decode cX6_answer 53 = .ok (.ldc 224, 2) := by decide +kernel
theorem dX6_answer_55 : decode cX6_answer 55 = .ok (.invokespecial 62, 3) := by decide +kernel
theorem dX6_answer_58 : decode cX6_answer 58 = .ok (.athrow, 1) := by decide +kernel
theorem dX6_answer_59 : decode cX6_answer 59 = .ok (.iload_n 3, 1) := by decide +kernel
theorem dX6_answer_60 : decode cX6_answer 60 = .ok (.iconst 1, 1) := by decide +kernel
theorem dX6_answer_61 : decode cX6_answer 61 = .ok (.if_icmp .lt 9, 3) := by decide +kernel
theorem dX6_answer_64 : decode cX6_answer 64 = .ok (.iload_n 3, 1) := by decide +kernel
theorem dX6_answer_65 : decode cX6_answer 65 = .ok (.bipush 99, 2) := by decide +kernel
theorem dX6_answer_67 : decode cX6_answer 67 = .ok (.if_icmp .le 13, 3) := by decide +kernel
theorem dX6_answer_70 : decode cX6_answer 70 = .ok (.new 58, 3) := by decide +kernel
theorem dX6_answer_73 : decode cX6_answer 73 = .ok (.dup, 1) := by decide +kernel
theorem dX6_answer_74 : decode cX6_answer 74 = .ok (.ldc 226, 2) := by decide +kernel
theorem dX6_answer_76 : decode cX6_answer 76 = .ok (.invokespecial 62, 3) := by decide +kernel
theorem dX6_answer_79 : decode cX6_answer 79 = .ok (.athrow, 1) := by decide +kernel
theorem dX6_answer_80 : decode cX6_answer 80 = .ok (.aload_n 0, 1) := by decide +kernel
theorem dX6_answer_81 : decode cX6_answer 81 = .ok (.getfield 33, 3) := by decide +kernel
theorem dX6_answer_84 : decode cX6_answer 84 = .ok (.iload_n 1, 1) := by decide +kernel
theorem dX6_answer_85 : decode cX6_answer 85 = .ok (.iload 4, 2) := by decide +kernel
theorem dX6_answer_87 : decode cX6_answer 87 = .ok (.iload_n 2, 1) := by decide +kernel
theorem dX6_answer_88 : decode cX6_answer 88 = .ok (.iload_n 3, 1) := by decide +kernel
theorem dX6_answer_89 : decode cX6_answer 89 = .ok (.invokevirtual 228, 3) := by decide +kernel
theorem dX6_answer_92 : decode cX6_answer 92 = .ok (.aload_n 0, 1) := by decide +kernel
theorem dX6_answer_93 : decode cX6_answer 93 = .ok (.getfield 12, 3) := by decide +kernel
theorem dX6_answer_96 : decode cX6_answer 96 = .ok (.iload_n 1, 1) := by decide +kernel
theorem dX6_answer_97 : decode cX6_answer 97 = .ok (.aload_n 0, 1) := by decide +kernel
theorem dX6_answer_98 : decode cX6_answer 98 = .ok (.getfield 33, 3) := by decide +kernel
theorem dX6_answer_101 : decode cX6_answer 101 = .ok (.iload_n 1, 1) := by decide +kernel
theorem dX6_answer_102 : decode cX6_answer 102 = .ok (.invokevirtual 232, 3) := by decide +kernel
theorem dX6_answer_105 : decode cX6_answer 105 = .ok (.iload 4, 2) := by decide +kernel
theorem dX6_answer_107 : decode cX6_answer 107 = .ok (.iload_n 2, 1) := by decide +kernel
theorem dX6_answer_108 : decode cX6_answer 108 = .ok (.invokevirtual 233, 3) := by decide +kernel
theorem dX6_answer_111 : decode cX6_answer 111 = .ok (.istore 5, 2) := by decide +kernel
theorem dX6_answer_113 : decode cX6_answer 113 = .ok (.aload_n 0, 1) := by decide +kernel
theorem dX6_answer_114 : decode cX6_answer 114 = .ok (.getfield 33, 3) := by decide +kernel
theorem dX6_answer_117 : decode cX6_answer 117 = .ok (.iload_n 1, 1) := by decide +kernel
theorem dX6_answer_118 : decode cX6_answer 118 = .ok (.iload 5, 2) := by decide +kernel
theorem dX6_answer_120 : decode cX6_answer 120 = .ok (.invokevirtual 204, 3) := by decide +kernel
theorem dX6_answer_123 : decode cX6_answer 123 = .ok (.iload 5, 2) := by decide +kernel
theorem dX6_answer_125 : decode cX6_answer 125 = .ok (.iconst (-1), 1) := by decide +kernel
theorem dX6_answer_126 : decode cX6_answer 126 = .ok (.if_icmp .ne 8, 3) := by decide +kernel
theorem dX6_answer_129 : decode cX6_answer 129 = .ok (.aload_n 0, 1) := by decide +kernel
theorem dX6_answer_130 : decode cX6_answer 130 = .ok (.iload_n 1, 1) := by decide +kernel
theorem dX6_answer_131 : decode cX6_answer 131 = .ok (.invokevirtual 237, 3) := by decide +kernel
theorem dX6_answer_134 : decode cX6_answer 134 = .ok (.iload 5, 2) := by decide +kernel
theorem dX6_answer_136 : decode cX6_answer 136 = .ok (.ireturn, 1) := by decide +kernel
set_option maxRecDepth 20000 in
theorem ggX6_ofInterview_X6_needInterview : GoodIn wsX6_ofInterview wsX6_needInterview := goodIn_ca (goodIn_r _ [9, 10, 11, 3, 12, 13, 14, 15, 16, 17, 70, 71, 72, 73, 74, 75, 76, 77, 78, 79, 80, 81, 82, 83, 84, 85] (by decide +kernel) (by decide +kernel)) (goodIn_sub (fun _ h => List.mem_cons_of_mem _ (List.mem_append_right _ h)) (by decide +kernel))
set_option maxRecDepth 20000 in
theorem gX6_ofInterview_X6_needInterview : GoodIn wsX6_ofInterview (wsV RX6 210 RX6 yX6_needInterview wsX6_needInterview) := goodIn_app (goodIn_of _ (by decide +kernel)) ggX6_ofInterview_X6_needInterview
set_option maxRecDepth 20000 in
theorem ggX6_ofInterview_X0_personOf : GoodIn wsX6_ofInterview wsX0_personOf := goodIn_r _ [21, 22, 78, 79, 80, 81, 82, 83, 84, 85] (by decide +kernel) (by decide +kernel)
set_option maxRecDepth 20000 in
theorem gX6_ofInterview_X0_personOf : GoodIn wsX6_ofInterview (wsV RX6 240 RX0 yX0_personOf wsX0_personOf) := goodIn_app (goodIn_of _ (by decide +kernel)) ggX6_ofInterview_X0_personOf
set_option maxRecDepth 20000 in
theorem ggX6_ofInterview_X0_stateOf : GoodIn wsX6_ofInterview wsX0_stateOf := goodIn_r _ [26, 27, 78, 79, 80, 81, 82, 83, 84, 85] (by decide +kernel) (by decide +kernel)
set_option maxRecDepth 20000 in
theorem gX6_ofInterview_X0_stateOf : GoodIn wsX6_ofInterview (wsV RX6 213 RX0 yX0_stateOf wsX0_stateOf) := goodIn_app (goodIn_of _ (by decide +kernel)) ggX6_ofInterview_X0_stateOf
set_option maxRecDepth 20000 in
theorem ggX6_ofInterview_X0_placeOf : GoodIn wsX6_ofInterview wsX0_placeOf := goodIn_r _ [31, 32, 78, 79, 80, 81, 82, 83, 84, 85] (by decide +kernel) (by decide +kernel)
set_option maxRecDepth 20000 in
theorem gX6_ofInterview_X0_placeOf : GoodIn wsX6_ofInterview (wsV RX6 218 RX0 yX0_placeOf wsX0_placeOf) := goodIn_app (goodIn_of _ (by decide +kernel)) ggX6_ofInterview_X0_placeOf
set_option maxRecDepth 20000 in
theorem ggX6_ofInterview_X0_countOf : GoodIn wsX6_ofInterview wsX0_countOf := goodIn_r _ [36, 37, 78, 79, 80, 81, 82, 83, 84, 85] (by decide +kernel) (by decide +kernel)
set_option maxRecDepth 20000 in
theorem gX6_ofInterview_X0_countOf : GoodIn wsX6_ofInterview (wsV RX6 232 RX0 yX0_countOf wsX0_countOf) := goodIn_app (goodIn_of _ (by decide +kernel)) ggX6_ofInterview_X0_countOf
set_option maxRecDepth 20000 in
theorem ggX6_ofInterview_X0_secondsOf : GoodIn wsX6_ofInterview wsX0_secondsOf := goodIn_r _ [41, 42, 78, 79, 80, 81, 82, 83, 84, 85] (by decide +kernel) (by decide +kernel)
set_option maxRecDepth 20000 in
theorem gX6_ofInterview_X0_secondsOf : GoodIn wsX6_ofInterview (wsV RX6 243 RX0 yX0_secondsOf wsX0_secondsOf) := goodIn_app (goodIn_of _ (by decide +kernel)) ggX6_ofInterview_X0_secondsOf
set_option maxRecDepth 20000 in
theorem ggX6_ofInterview_X5_of : GoodIn wsX6_ofInterview wsX5_of := goodIn_r _ [47, 48, 86] (by decide +kernel) (by decide +kernel)
set_option maxRecDepth 20000 in
theorem gX6_ofInterview_X5_of : GoodIn wsX6_ofInterview (wsV RX6 246 RX5 yX5_of wsX5_of) := goodIn_app (goodIn_of _ (by decide +kernel)) ggX6_ofInterview_X5_of
set_option maxRecDepth 20000 in
theorem ggX6_ofInterview_X0_isToClean : GoodIn wsX6_ofInterview wsX0_isToClean := goodIn_r _ [52, 53, 54, 55, 15, 56, 27, 57, 58, 59, 60, 42, 37, 61, 62, 63, 64, 65, 66, 67, 68, 69, 78, 79, 80, 81, 82, 83, 84, 85] (by decide +kernel) (by decide +kernel)
set_option maxRecDepth 20000 in
theorem gX6_ofInterview_X0_isToClean : GoodIn wsX6_ofInterview (wsV RX6 249 RX0 yX0_isToClean wsX0_isToClean) := goodIn_app (goodIn_of _ (by decide +kernel)) ggX6_ofInterview_X0_isToClean
theorem dX6_ofInterview_0 : decode cX6_ofInterview 0 = .ok (.aload_n 0, 1) := by decide +kernel
theorem dX6_ofInterview_1 : decode cX6_ofInterview 1 = .ok (.iload_n 1, 1) := by decide +kernel
theorem dX6_ofInterview_2 : decode cX6_ofInterview 2 = .ok (.invokevirtual 210, 3) := by decide +kernel
theorem dX6_ofInterview_5 : decode cX6_ofInterview 5 = .ok (.iload_n 2, 1) := by decide +kernel
theorem dX6_ofInterview_6 : decode cX6_ofInterview 6 = .ok (.tableswitch 113 0 6 #[42, 51, 60, 69, 78, 87, 96], 42) := by decide +kernel
theorem dX6_ofInterview_48 : decode cX6_ofInterview 48 = .ok (.aload_n 0, 1) := by decide +kernel
theorem dX6_ofInterview_49 : decode cX6_ofInterview 49 = .ok (.getfield 33, 3) := by decide +kernel
theorem dX6_ofInterview_52 : decode cX6_ofInterview 52 = .ok (.iload_n 1, 1) := by decide +kernel
theorem dX6_ofInterview_53 : decode cX6_ofInterview 53 = .ok (.invokevirtual 240, 3) := by decide +kernel
theorem dX6_ofInterview_56 : decode cX6_ofInterview 56 = .ok (.ireturn, 1) := by decide +kernel
theorem dX6_ofInterview_57 : decode cX6_ofInterview 57 = .ok (.aload_n 0, 1) := by decide +kernel
theorem dX6_ofInterview_58 : decode cX6_ofInterview 58 = .ok (.getfield 33, 3) := by decide +kernel
theorem dX6_ofInterview_61 : decode cX6_ofInterview 61 = .ok (.iload_n 1, 1) := by decide +kernel
theorem dX6_ofInterview_62 : decode cX6_ofInterview 62 = .ok (.invokevirtual 213, 3) := by decide +kernel
theorem dX6_ofInterview_65 : decode cX6_ofInterview 65 = .ok (.ireturn, 1) := by decide +kernel
theorem dX6_ofInterview_66 : decode cX6_ofInterview 66 = .ok (.aload_n 0, 1) := by decide +kernel
theorem dX6_ofInterview_67 : decode cX6_ofInterview 67 = .ok (.getfield 33, 3) := by decide +kernel
theorem dX6_ofInterview_70 : decode cX6_ofInterview 70 = .ok (.iload_n 1, 1) := by decide +kernel
theorem dX6_ofInterview_71 : decode cX6_ofInterview 71 = .ok (.invokevirtual 218, 3) := by decide +kernel
theorem dX6_ofInterview_74 : decode cX6_ofInterview 74 = .ok (.ireturn, 1) := by decide +kernel
theorem dX6_ofInterview_75 : decode cX6_ofInterview 75 = .ok (.aload_n 0, 1) := by decide +kernel
theorem dX6_ofInterview_76 : decode cX6_ofInterview 76 = .ok (.getfield 33, 3) := by decide +kernel
theorem dX6_ofInterview_79 : decode cX6_ofInterview 79 = .ok (.iload_n 1, 1) := by decide +kernel
theorem dX6_ofInterview_80 : decode cX6_ofInterview 80 = .ok (.invokevirtual 232, 3) := by decide +kernel
theorem dX6_ofInterview_83 : decode cX6_ofInterview 83 = .ok (.ireturn, 1) := by decide +kernel
theorem dX6_ofInterview_84 : decode cX6_ofInterview 84 = .ok (.aload_n 0, 1) := by decide +kernel
theorem dX6_ofInterview_85 : decode cX6_ofInterview 85 = .ok (.getfield 33, 3) := by decide +kernel
theorem dX6_ofInterview_88 : decode cX6_ofInterview 88 = .ok (.iload_n 1, 1) := by decide +kernel
theorem dX6_ofInterview_89 : decode cX6_ofInterview 89 = .ok (.invokevirtual 243, 3) := by decide +kernel
theorem dX6_ofInterview_92 : decode cX6_ofInterview 92 = .ok (.ireturn, 1) := by decide +kernel
theorem dX6_ofInterview_93 : decode cX6_ofInterview 93 = .ok (.aload_n 0, 1) := by decide +kernel
theorem dX6_ofInterview_94 : decode cX6_ofInterview 94 = .ok (.getfield 40, 3) := by decide +kernel
theorem dX6_ofInterview_97 : decode cX6_ofInterview 97 = .ok (.iload_n 1, 1) := by decide +kernel
theorem dX6_ofInterview_98 : decode cX6_ofInterview 98 = .ok (.invokevirtual 246, 3) := by decide +kernel
theorem dX6_ofInterview_101 : decode cX6_ofInterview 101 = .ok (.ireturn, 1) := by decide +kernel
theorem dX6_ofInterview_102 : decode cX6_ofInterview 102 = .ok (.aload_n 0, 1) := by decide +kernel
theorem dX6_ofInterview_103 : decode cX6_ofInterview 103 = .ok (.getfield 33, 3) := by decide +kernel
theorem dX6_ofInterview_106 : decode cX6_ofInterview 106 = .ok (.iload_n 1, 1) := by decide +kernel
theorem dX6_ofInterview_107 : decode cX6_ofInterview 107 = .ok (.invokevirtual 249, 3) := by decide +kernel
theorem dX6_ofInterview_110 : decode cX6_ofInterview 110 = .ok (.ifCond .eq 7, 3) := by decide +kernel
theorem dX6_ofInterview_113 : decode cX6_ofInterview 113 = .ok (.iconst 1, 1) := by decide +kernel
theorem dX6_ofInterview_114 : decode cX6_ofInterview 114 = .ok (.goto 4, 3) := by decide +kernel
theorem dX6_ofInterview_117 : decode cX6_ofInterview 117 = .ok (.iconst 0, 1) := by decide +kernel
theorem dX6_ofInterview_118 : decode cX6_ofInterview 118 = .ok (.ireturn, 1) := by decide +kernel
theorem dX6_ofInterview_119 : decode cX6_ofInterview 119 = .ok (.new 58, 3) := by decide +kernel
theorem dX6_ofInterview_122 : decode cX6_ofInterview 122 = .ok (.dup, 1) := by decide +kernel
theorem dX6_ofInterview_123 : decode cX6_ofInterview 123 = .ok (.ldc 252, 2) := by decide +kernel
theorem dX6_ofInterview_125 : decode cX6_ofInterview 125 = .ok (.invokespecial 62, 3) := by decide +kernel
theorem dX6_ofInterview_128 : decode cX6_ofInterview 128 = .ok (.athrow, 1) := by decide +kernel
set_option maxRecDepth 20000 in
theorem ggX6_given_X6_needInterview : GoodIn wsX6_given wsX6_needInterview := goodIn_ca (goodIn_r _ [6, 7, 8, 1, 9, 10, 11, 12, 13, 14, 31, 32, 33, 34, 35, 36, 37, 38, 39, 40, 41, 42, 43, 44, 45, 46] (by decide +kernel) (by decide +kernel)) (goodIn_sub (fun _ h => List.mem_cons_of_mem _ (List.mem_append_right _ h)) (by decide +kernel))
set_option maxRecDepth 20000 in
theorem gX6_given_X6_needInterview : GoodIn wsX6_given (wsV RX6 210 RX6 yX6_needInterview wsX6_needInterview) := goodIn_app (goodIn_of _ (by decide +kernel)) ggX6_given_X6_needInterview
set_option maxRecDepth 20000 in
theorem ggX6_given_X6_needQuestion : GoodIn wsX6_given wsX6_needQuestion := goodIn_ca (goodIn_r _ [18, 7, 8, 19, 20, 21, 22, 23, 24, 25, 31, 32, 33, 34, 35, 36, 37, 38, 47, 48, 49, 50, 51] (by decide +kernel) (by decide +kernel)) (goodIn_sub (fun _ h => List.mem_cons_of_mem _ (List.mem_append_right _ h)) (by decide +kernel))
set_option maxRecDepth 20000 in
theorem gX6_given_X6_needQuestion : GoodIn wsX6_given (wsV RX6 85 RX6 yX6_needQuestion wsX6_needQuestion) := goodIn_app (goodIn_of _ (by decide +kernel)) ggX6_given_X6_needQuestion
set_option maxRecDepth 20000 in
theorem ggX6_given_X0_answerTo : GoodIn wsX6_given wsX0_answerTo := goodIn_r _ [29, 30, 39, 40, 41, 42, 43, 44, 45, 46] (by decide +kernel) (by decide +kernel)
set_option maxRecDepth 20000 in
theorem gX6_given_X0_answerTo : GoodIn wsX6_given (wsV RX6 254 RX0 yX0_answerTo wsX0_answerTo) := goodIn_app (goodIn_of _ (by decide +kernel)) ggX6_given_X0_answerTo
theorem dX6_given_0 : decode cX6_given 0 = .ok (.aload_n 0, 1) := by decide +kernel
theorem dX6_given_1 : decode cX6_given 1 = .ok (.iload_n 1, 1) := by decide +kernel
theorem dX6_given_2 : decode cX6_given 2 = .ok (.invokevirtual 210, 3) := by decide +kernel
theorem dX6_given_5 : decode cX6_given 5 = .ok (.aload_n 0, 1) := by decide +kernel
theorem dX6_given_6 : decode cX6_given 6 = .ok (.iload_n 2, 1) := by decide +kernel
theorem dX6_given_7 : decode cX6_given 7 = .ok (.invokevirtual 85, 3) := by decide +kernel
theorem dX6_given_10 : decode cX6_given 10 = .ok (.aload_n 0, 1) := by decide +kernel
theorem dX6_given_11 : decode cX6_given 11 = .ok (.getfield 33, 3) := by decide +kernel
theorem dX6_given_14 : decode cX6_given 14 = .ok (.iload_n 1, 1) := by decide +kernel
theorem dX6_given_15 : decode cX6_given 15 = .ok (.iload_n 2, 1) := by decide +kernel
theorem dX6_given_16 : decode cX6_given 16 = .ok (.invokevirtual 254, 3) := by decide +kernel
theorem dX6_given_19 : decode cX6_given 19 = .ok (.ireturn, 1) := by decide +kernel
set_option maxRecDepth 20000 in
theorem ggX6_clean_X0_size : GoodIn wsX6_clean wsX0_size := goodIn_r _ [8, 9, 105, 106, 107, 108, 109, 110, 111, 112] (by decide +kernel) (by decide +kernel)
set_option maxRecDepth 20000 in
theorem gX6_clean_X0_size : GoodIn wsX6_clean (wsV RX6 196 RX0 yX0_size wsX0_size) := goodIn_app (goodIn_of _ (by decide +kernel)) ggX6_clean_X0_size
set_option maxRecDepth 20000 in
theorem ggX6_clean_X0_isToClean : GoodIn wsX6_clean wsX0_isToClean := goodIn_r _ [13, 14, 15, 16, 7, 17, 18, 19, 20, 21, 22, 23, 24, 25, 26, 27, 28, 29, 30, 31, 32, 33, 105, 106, 107, 108, 109, 110, 111, 112] (by decide +kernel) (by decide +kernel)
set_option maxRecDepth 20000 in
theorem gX6_clean_X0_isToClean : GoodIn wsX6_clean (wsV RX6 249 RX0 yX0_isToClean wsX0_isToClean) := goodIn_app (goodIn_of _ (by decide +kernel)) ggX6_clean_X0_isToClean
set_option maxRecDepth 20000 in
theorem ggX6_clean_X0_setState : GoodIn wsX6_clean wsX0_setState := goodIn_r _ [37, 18, 105, 106, 107, 108, 109, 110, 111, 112] (by decide +kernel) (by decide +kernel)
set_option maxRecDepth 20000 in
theorem gX6_clean_X0_setState : GoodIn wsX6_clean (wsV RX6 257 RX0 yX0_setState wsX0_setState) := goodIn_app (goodIn_of _ (by decide +kernel)) ggX6_clean_X0_setState
set_option maxRecDepth 20000 in
theorem ggX6_clean_X0_cellOf : GoodIn wsX6_clean wsX0_cellOf := goodIn_r _ [41, 42, 105, 106, 107, 108, 109, 110, 111, 112] (by decide +kernel) (by decide +kernel)
set_option maxRecDepth 20000 in
theorem gX6_clean_X0_cellOf : GoodIn wsX6_clean (wsV RX6 260 RX0 yX0_cellOf wsX0_cellOf) := goodIn_app (goodIn_of _ (by decide +kernel)) ggX6_clean_X0_cellOf
set_option maxRecDepth 20000 in
theorem ggX6_clean_X3_fill : GoodIn wsX6_clean wsX3_fill := goodIn_r _ [47, 48, 113, 114, 115] (by decide +kernel) (by decide +kernel)
set_option maxRecDepth 20000 in
theorem gX6_clean_X3_fill : GoodIn wsX6_clean (wsV RX6 261 RX3 yX3_fill wsX3_fill) := goodIn_app (goodIn_of _ (by decide +kernel)) ggX6_clean_X3_fill
set_option maxRecDepth 20000 in
theorem ggX6_clean_X0_personOf : GoodIn wsX6_clean wsX0_personOf := goodIn_r _ [52, 53, 105, 106, 107, 108, 109, 110, 111, 112] (by decide +kernel) (by decide +kernel)
set_option maxRecDepth 20000 in
theorem gX6_clean_X0_personOf : GoodIn wsX6_clean (wsV RX6 240 RX0 yX0_personOf wsX0_personOf) := goodIn_app (goodIn_of _ (by decide +kernel)) ggX6_clean_X0_personOf
set_option maxRecDepth 20000 in
theorem ggX6_clean_X1_addPoints : GoodIn wsX6_clean wsX1_addPoints := goodIn_r _ [58, 59, 116, 117, 118, 119, 120, 121] (by decide +kernel) (by decide +kernel)
set_option maxRecDepth 20000 in
theorem gX6_clean_X1_addPoints : GoodIn wsX6_clean (wsV RX6 264 RX1 yX1_addPoints wsX1_addPoints) := goodIn_app (goodIn_of _ (by decide +kernel)) ggX6_clean_X1_addPoints
set_option maxRecDepth 20000 in
theorem ggX6_clean_X6_reweigh : GoodIn wsX6_clean wsX6_reweigh := goodIn_r _ [64, 65, 1, 2, 66, 67, 68, 69, 70, 71, 72, 73, 5, 6, 7, 8, 9, 74, 15, 16, 17, 18, 75, 76, 77, 46, 78, 79, 80, 63, 81, 82, 83, 84, 85, 86, 87, 88, 89, 90, 91, 92, 93, 94, 95, 96, 39, 40, 41, 42, 97, 98, 99, 100, 101, 102, 103, 104, 122, 105, 106, 107, 108, 109, 110, 111, 112, 113, 114, 115] (by decide +kernel) (by decide +kernel)
set_option maxRecDepth 20000 in
theorem gX6_clean_X6_reweigh : GoodIn wsX6_clean (wsV RX6 134 RX6 yX6_reweigh wsX6_reweigh) := goodIn_app (goodIn_of _ (by decide +kernel)) ggX6_clean_X6_reweigh
theorem dX6_clean_0 : decode cX6_clean 0 = .ok (.iconst 0, 1) := by decide +kernel
theorem dX6_clean_1 : decode cX6_clean 1 = .ok (.istore_n 1, 1) := by decide +kernel
theorem dX6_clean_2 : decode cX6_clean 2 = .ok (.iconst 0, 1) := by decide +kernel
theorem dX6_clean_3 : decode cX6_clean 3 = .ok (.istore_n 2, 1) := by decide +kernel
theorem dX6_clean_4 : decode cX6_clean 4 = .ok (.iload_n 2, 1) := by decide +kernel
theorem dX6_clean_5 : decode cX6_clean 5 = .ok (.aload_n 0, 1) := by decide +kernel
theorem dX6_clean_6 : decode cX6_clean 6 = .ok (.getfield 33, 3) := by decide +kernel
theorem dX6_clean_9 : decode cX6_clean 9 = .ok (.invokevirtual 196, 3) := by decide +kernel
theorem dX6_clean_12 : decode cX6_clean 12 = .ok (.if_icmp .ge 65, 3) := by decide +kernel
theorem dX6_clean_15 : decode cX6_clean 15 = .ok (.aload_n 0, 1) := by decide +kernel
theorem dX6_clean_16 : decode cX6_clean 16 = .ok (.getfield 33, 3) := by decide +kernel
theorem dX6_clean_19 : decode cX6_clean 19 = .ok (.iload_n 2, 1) := by decide +kernel
theorem dX6_clean_20 : decode cX6_clean 20 = .ok (.invokevirtual 249, 3) := by decide +kernel
theorem dX6_clean_23 : decode cX6_clean 23 = .ok (.ifCond .eq 48, 3) := by decide +kernel
theorem dX6_clean_26 : decode cX6_clean 26 = .ok (.aload_n 0, 1) := by decide +kernel
theorem dX6_clean_27 : decode cX6_clean 27 = .ok (.getfield 33, 3) := by decide +kernel
theorem dX6_clean_30 : decode cX6_clean 30 = .ok (.iload_n 2, 1) := by decide +kernel
theorem dX6_clean_31 : decode cX6_clean 31 = .ok (.iconst 3, 1) := by decide +kernel
theorem dX6_clean_32 : decode cX6_clean 32 = .ok (.invokevirtual 257, 3) := by decide +kernel
theorem dX6_clean_35 : decode cX6_clean 35 = .ok (.aload_n 0, 1) := by decide +kernel
theorem dX6_clean_36 : decode cX6_clean 36 = .ok (.getfield 19, 3) := by decide +kernel
theorem dX6_clean_39 : decode cX6_clean 39 = .ok (.aload_n 0, 1) := by decide +kernel
theorem dX6_clean_40 : decode cX6_clean 40 = .ok (.getfield 33, 3) := by decide +kernel
theorem dX6_clean_43 : decode cX6_clean 43 = .ok (.iload_n 2, 1) := by decide +kernel
theorem dX6_clean_44 : decode cX6_clean 44 = .ok (.invokevirtual 260, 3) := by decide +kernel
theorem dX6_clean_47 : decode cX6_clean 47 = .ok (.iconst (-1), 1) := by decide +kernel
theorem dX6_clean_48 : decode cX6_clean 48 = .ok (.invokevirtual 261, 3) := by decide +kernel
theorem dX6_clean_51 : decode cX6_clean 51 = .ok (.aload_n 0, 1) := by decide +kernel
theorem dX6_clean_52 : decode cX6_clean 52 = .ok (.getfield 26, 3) := by decide +kernel
theorem dX6_clean_55 : decode cX6_clean 55 = .ok (.aload_n 0, 1) := by decide +kernel
theorem dX6_clean_56 : decode cX6_clean 56 = .ok (.getfield 33, 3) := by decide +kernel
theorem dX6_clean_59 : decode cX6_clean 59 = .ok (.iload_n 2, 1) := by decide +kernel
theorem dX6_clean_60 : decode cX6_clean 60 = .ok (.invokevirtual 240, 3) := by decide +kernel
theorem dX6_clean_63 : decode cX6_clean 63 = .ok (.bipush (-10), 2) := by decide +kernel
theorem dX6_clean_65 : decode cX6_clean 65 = .ok (.invokevirtual 264, 3) := by decide +kernel
theorem dX6_clean_68 : decode cX6_clean 68 = .ok (.iinc 1 1, 3) := by decide +kernel
theorem dX6_clean_71 : decode cX6_clean 71 = .ok (.iinc 2 1, 3) := by decide +kernel
theorem dX6_clean_74 : decode cX6_clean 74 = .ok (.goto (-70), 3) := by decide +kernel
theorem dX6_clean_77 : decode cX6_clean 77 = .ok (.aload_n 0, 1) := by decide +kernel
theorem dX6_clean_78 : decode cX6_clean 78 = .ok (.invokevirtual 134, 3) := by decide +kernel
theorem dX6_clean_81 : decode cX6_clean 81 = .ok (.iload_n 1, 1) := by decide +kernel
theorem dX6_clean_82 : decode cX6_clean 82 = .ok (.ireturn, 1) := by decide +kernel
set_option maxRecDepth 20000 in
theorem ggX6_many_X2_size : GoodIn wsX6_many wsX2_size := goodIn_r _ [12, 13, 111, 112, 113, 114, 115] (by decide +kernel) (by decide +kernel)
set_option maxRecDepth 20000 in
theorem gX6_many_X2_size : GoodIn wsX6_many (wsV RX6 65 RX2 yX2_size wsX2_size) := goodIn_app (goodIn_of _ (by decide +kernel)) ggX6_many_X2_size
set_option maxRecDepth 20000 in
theorem ggX6_many_X1_size : GoodIn wsX6_many wsX1_size := goodIn_r _ [18, 19, 116, 117, 118, 119, 120, 121] (by decide +kernel) (by decide +kernel)
set_option maxRecDepth 20000 in
theorem gX6_many_X1_size : GoodIn wsX6_many (wsV RX6 116 RX1 yX1_size wsX1_size) := goodIn_app (goodIn_of _ (by decide +kernel)) ggX6_many_X1_size
set_option maxRecDepth 20000 in
theorem ggX6_many_X0_countIn : GoodIn wsX6_many wsX0_countIn := goodIn_r _ [24, 25, 26, 122, 123, 124, 125, 126, 127, 128, 129] (by decide +kernel) (by decide +kernel)
set_option maxRecDepth 20000 in
theorem gX6_many_X0_countIn : GoodIn wsX6_many (wsV RX6 267 RX0 yX0_countIn wsX0_countIn) := goodIn_app (goodIn_of _ (by decide +kernel)) ggX6_many_X0_countIn
set_option maxRecDepth 20000 in
theorem ggX6_many_X3_allTargets : GoodIn wsX6_many wsX3_allTargets := goodIn_r _ [31, 32, 33, 34, 30, 35, 130, 131, 132] (by decide +kernel) (by decide +kernel)
set_option maxRecDepth 20000 in
theorem gX6_many_X3_allTargets : GoodIn wsX6_many (wsV RX6 270 RX3 yX3_allTargets wsX3_allTargets) := goodIn_app (goodIn_of _ (by decide +kernel)) ggX6_many_X3_allTargets
set_option maxRecDepth 20000 in
theorem ggX6_many_X3_countOpen : GoodIn wsX6_many wsX3_countOpen := goodIn_r _ [39, 40, 41, 42, 30, 43, 44, 45, 46, 47, 48, 32, 49, 33, 34, 35, 130, 131, 132] (by decide +kernel) (by decide +kernel)
set_option maxRecDepth 20000 in
theorem gX6_many_X3_countOpen : GoodIn wsX6_many (wsV RX6 273 RX3 yX3_countOpen wsX3_countOpen) := goodIn_app (goodIn_of _ (by decide +kernel)) ggX6_many_X3_countOpen
set_option maxRecDepth 20000 in
theorem ggX6_many_X6_countAllToAsk : GoodIn wsX6_many wsX6_countAllToAsk := goodIn_r _ [54, 55, 56, 57, 53, 58, 4, 14, 15, 16, 17, 18, 19, 59, 60, 61, 62, 63, 64, 65, 66, 67, 5, 6, 68, 69, 70, 71, 72, 73, 74, 75, 23, 76, 25, 26, 77, 78, 79, 80, 81, 82, 83, 84, 85, 86, 41, 42, 30, 43, 44, 45, 46, 47, 48, 32, 49, 33, 34, 35, 103, 104, 105, 106, 107, 108, 109, 110, 116, 117, 118, 119, 120, 121, 122, 123, 124, 125, 126, 127, 128, 129, 130, 131, 132] (by decide +kernel) (by decide +kernel)
set_option maxRecDepth 20000 in
theorem gX6_many_X6_countAllToAsk : GoodIn wsX6_many (wsV RX6 276 RX6 yX6_countAllToAsk wsX6_countAllToAsk) := goodIn_app (goodIn_of _ (by decide +kernel)) ggX6_many_X6_countAllToAsk
set_option maxRecDepth 20000 in
theorem ggX6_many_X1_allPoints : GoodIn wsX6_many wsX1_allPoints := goodIn_r _ [90, 19, 91, 116, 117, 118, 119, 120, 121] (by decide +kernel) (by decide +kernel)
set_option maxRecDepth 20000 in
theorem gX6_many_X1_allPoints : GoodIn wsX6_many (wsV RX6 279 RX1 yX1_allPoints wsX1_allPoints) := goodIn_app (goodIn_of _ (by decide +kernel)) ggX6_many_X1_allPoints
set_option maxRecDepth 20000 in
theorem ggX6_many_X4_size : GoodIn wsX6_many wsX4_size := goodIn_r _ [96, 97, 133, 134] (by decide +kernel) (by decide +kernel)
set_option maxRecDepth 20000 in
theorem gX6_many_X4_size : GoodIn wsX6_many (wsV RX6 282 RX4 yX4_size wsX4_size) := goodIn_app (goodIn_of _ (by decide +kernel)) ggX6_many_X4_size
set_option maxRecDepth 20000 in
theorem ggX6_many_X1_today : GoodIn wsX6_many wsX1_today := goodIn_r _ [101, 102, 116, 117, 118, 119, 120, 121] (by decide +kernel) (by decide +kernel)
set_option maxRecDepth 20000 in
theorem gX6_many_X1_today : GoodIn wsX6_many (wsV RX6 283 RX1 yX1_today wsX1_today) := goodIn_app (goodIn_of _ (by decide +kernel)) ggX6_many_X1_today
theorem dX6_many_0 : decode cX6_many 0 = .ok (.iload_n 1, 1) := by decide +kernel
theorem dX6_many_1 : decode cX6_many 1 = .ok (.tableswitch 160 0 11 #[63, 71, 79, 88, 97, 106, 115, 123, 131, 136, 144, 152], 63) := by decide +kernel
theorem dX6_many_64 : decode cX6_many 64 = .ok (.aload_n 0, 1) := by decide +kernel
theorem dX6_many_65 : decode cX6_many 65 = .ok (.getfield 12, 3) := by decide +kernel
theorem dX6_many_68 : decode cX6_many 68 = .ok (.invokevirtual 65, 3) := by decide +kernel
theorem dX6_many_71 : decode cX6_many 71 = .ok (.ireturn, 1) := by decide +kernel
theorem dX6_many_72 : decode cX6_many 72 = .ok (.aload_n 0, 1) := by decide +kernel
theorem dX6_many_73 : decode cX6_many 73 = .ok (.getfield 26, 3) := by decide +kernel
theorem dX6_many_76 : decode cX6_many 76 = .ok (.invokevirtual 116, 3) := by decide +kernel
theorem dX6_many_79 : decode cX6_many 79 = .ok (.ireturn, 1) := by decide +kernel
theorem dX6_many_80 : decode cX6_many 80 = .ok (.aload_n 0, 1) := by decide +kernel
theorem dX6_many_81 : decode cX6_many 81 = .ok (.getfield 33, 3) := by decide +kernel
theorem dX6_many_84 : decode cX6_many 84 = .ok (.iconst 0, 1) := by decide +kernel
theorem dX6_many_85 : decode cX6_many 85 = .ok (.invokevirtual 267, 3) := by decide +kernel
theorem dX6_many_88 : decode cX6_many 88 = .ok (.ireturn, 1) := by decide +kernel
theorem dX6_many_89 : decode cX6_many 89 = .ok (.aload_n 0, 1) := by decide +kernel
theorem dX6_many_90 : decode cX6_many 90 = .ok (.getfield 33, 3) := by decide +kernel
theorem dX6_many_93 : decode cX6_many 93 = .ok (.iconst 1, 1) := by decide +kernel
theorem dX6_many_94 : decode cX6_many 94 = .ok (.invokevirtual 267, 3) := by decide +kernel
theorem dX6_many_97 : decode cX6_many 97 = .ok (.ireturn, 1) := by decide +kernel
theorem dX6_many_98 : decode cX6_many 98 = .ok (.aload_n 0, 1) := by decide +kernel
theorem dX6_many_99 : decode cX6_many 99 = .ok (.getfield 33, 3) := by decide +kernel
theorem dX6_many_102 : decode cX6_many 102 = .ok (.iconst 2, 1) := by decide +kernel
theorem dX6_many_103 : decode cX6_many 103 = .ok (.invokevirtual 267, 3) := by decide +kernel
theorem dX6_many_106 : decode cX6_many 106 = .ok (.ireturn, 1) := by decide +kernel
theorem dX6_many_107 : decode cX6_many 107 = .ok (.aload_n 0, 1) := by decide +kernel
theorem dX6_many_108 : decode cX6_many 108 = .ok (.getfield 33, 3) := by decide +kernel
theorem dX6_many_111 : decode cX6_many 111 = .ok (.iconst 3, 1) := by decide +kernel
theorem dX6_many_112 : decode cX6_many 112 = .ok (.invokevirtual 267, 3) := by decide +kernel
theorem dX6_many_115 : decode cX6_many 115 = .ok (.ireturn, 1) := by decide +kernel
theorem dX6_many_116 : decode cX6_many 116 = .ok (.aload_n 0, 1) := by decide +kernel
theorem dX6_many_117 : decode cX6_many 117 = .ok (.getfield 19, 3) := by decide +kernel
theorem dX6_many_120 : decode cX6_many 120 = .ok (.invokevirtual 270, 3) := by decide +kernel
theorem dX6_many_123 : decode cX6_many 123 = .ok (.ireturn, 1) := by decide +kernel
theorem dX6_many_124 : decode cX6_many 124 = .ok (.aload_n 0, 1) := by decide +kernel
theorem dX6_many_125 : decode cX6_many 125 = .ok (.getfield 19, 3) := by decide +kernel
theorem dX6_many_128 : decode cX6_many 128 = .ok (.invokevirtual 273, 3) := by decide +kernel
theorem dX6_many_131 : decode cX6_many 131 = .ok (.ireturn, 1) := by decide +kernel
theorem dX6_many_132 : decode cX6_many 132 = .ok (.aload_n 0, 1) := by decide +kernel
theorem dX6_many_133 : decode cX6_many 133 = .ok (.invokevirtual 276, 3) := by decide +kernel
theorem dX6_many_136 : decode cX6_many 136 = .ok (.ireturn, 1) := by decide +kernel
theorem dX6_many_137 : decode cX6_many 137 = .ok (.aload_n 0, 1) := by decide +kernel
theorem dX6_many_138 : decode cX6_many 138 = .ok (.getfield 26, 3) := by decide +kernel
theorem dX6_many_141 : decode cX6_many 141 = .ok (.invokevirtual 279, 3) := by decide +kernel
theorem dX6_many_144 : decode cX6_many 144 = .ok (.ireturn, 1) := by decide +kernel
theorem dX6_many_145 : decode cX6_many 145 = .ok (.aload_n 0, 1) := by decide +kernel
theorem dX6_many_146 : decode cX6_many 146 = .ok (.getfield 50, 3) := by decide +kernel
theorem dX6_many_149 : decode cX6_many 149 = .ok (.invokevirtual 282, 3) := by decide +kernel
theorem dX6_many_152 : decode cX6_many 152 = .ok (.ireturn, 1) := by decide +kernel
theorem dX6_many_153 : decode cX6_many 153 = .ok (.aload_n 0, 1) := by decide +kernel
theorem dX6_many_154 : decode cX6_many 154 = .ok (.getfield 26, 3) := by decide +kernel
theorem dX6_many_157 : decode cX6_many 157 = .ok (.invokevirtual 283, 3) := by decide +kernel
theorem dX6_many_160 : decode cX6_many 160 = .ok (.ireturn, 1) := by decide +kernel
theorem dX6_many_161 : decode cX6_many 161 = .ok (.new 58, 3) := by decide +kernel
theorem dX6_many_164 : decode cX6_many 164 = .ok (.dup, 1) := by decide +kernel
theorem dX6_many_165 : decode cX6_many 165 = .ok (.ldc_w 286, 3) := by decide +kernel
theorem dX6_many_168 : decode cX6_many 168 = .ok (.invokespecial 62, 3) := by decide +kernel
theorem dX6_many_171 : decode cX6_many 171 = .ok (.athrow, 1) := by decide +kernel
set_option maxRecDepth 20000 in
theorem ggX6_off_X5_farthest : GoodIn wsX6_off wsX5_farthest := goodIn_r _ [8, 9, 10, 11, 12, 13, 14, 15, 16, 17, 18, 7, 19, 20, 21, 22, 23, 24, 25, 26, 27, 28, 29, 30, 31, 32, 33, 34, 35, 36, 37, 38, 39, 40, 41, 42, 43, 44, 45, 46, 55, 56, 57, 58, 59, 60, 61, 62, 63, 64, 65, 66] (by decide +kernel) (by decide +kernel)
set_option maxRecDepth 20000 in
theorem gX6_off_X5_farthest : GoodIn wsX6_off (wsV RX6 291 RX5 yX5_farthest wsX5_farthest) := goodIn_app (goodIn_of _ (by decide +kernel)) ggX6_off_X5_farthest
theorem dX6_off_0 : decode cX6_off 0 = .ok (.aload_n 0, 1) := by decide +kernel
theorem dX6_off_1 : decode cX6_off 1 = .ok (.getfield 40, 3) := by decide +kernel
theorem dX6_off_4 : decode cX6_off 4 = .ok (.aload_n 0, 1) := by decide +kernel
theorem dX6_off_5 : decode cX6_off 5 = .ok (.getfield 33, 3) := by decide +kernel
theorem dX6_off_8 : decode cX6_off 8 = .ok (.aload_n 0, 1) := by decide +kernel
theorem dX6_off_9 : decode cX6_off 9 = .ok (.getfield 19, 3) := by decide +kernel
theorem dX6_off_12 : decode cX6_off 12 = .ok (.invokevirtual 291, 3) := by decide +kernel
theorem dX6_off_15 : decode cX6_off 15 = .ok (.ireturn, 1) := by decide +kernel
set_option maxRecDepth 20000 in
theorem ggX6_share_X6_needAnswer : GoodIn wsX6_share wsX6_needAnswer := goodIn_ca (goodIn_r _ [7, 8, 9, 10, 11, 12, 13, 14, 15, 16, 17, 18, 19, 20, 21, 58, 59, 60, 61, 62, 63, 64, 65, 66, 67, 68, 69, 70] (by decide +kernel) (by decide +kernel)) (goodIn_sub (fun _ h => List.mem_cons_of_mem _ (List.mem_append_right _ h)) (by decide +kernel))
set_option maxRecDepth 20000 in
theorem gX6_share_X6_needAnswer : GoodIn wsX6_share (wsV RX6 81 RX6 yX6_needAnswer wsX6_needAnswer) := goodIn_app (goodIn_of _ (by decide +kernel)) ggX6_share_X6_needAnswer
set_option maxRecDepth 20000 in
theorem ggX6_share_X6_needA : GoodIn wsX6_share wsX6_needA := goodIn_ca (goodIn_r _ [24, 8, 9, 25, 26, 6, 27] (by decide +kernel) (by decide +kernel)) (goodIn_sub (fun _ h => List.mem_cons_of_mem _ (List.mem_append_right _ h)) (by decide +kernel))
set_option maxRecDepth 20000 in
theorem gX6_share_X6_needA : GoodIn wsX6_share (va_wsS RX6 295 yX6_needA wsX6_needA) := goodIn_app (goodIn_of _ (by decide +kernel)) ggX6_share_X6_needA
set_option maxRecDepth 20000 in
theorem ggX6_share_X5_shareOf : GoodIn wsX6_share wsX5_shareOf := goodIn_r _ [32, 33, 34, 35, 36, 37, 38, 39, 40, 41, 42, 43, 44, 45, 46, 47, 48, 49, 50, 51, 52, 53, 54, 55, 6, 56, 57, 71, 72, 73, 74, 75, 76, 77, 78, 79] (by decide +kernel) (by decide +kernel)
set_option maxRecDepth 20000 in
theorem gX6_share_X5_shareOf : GoodIn wsX6_share (wsV RX6 298 RX5 yX5_shareOf wsX5_shareOf) := goodIn_app (goodIn_of _ (by decide +kernel)) ggX6_share_X5_shareOf
theorem dX6_share_0 : decode cX6_share 0 = .ok (.aload_n 0, 1) := by decide +kernel
theorem dX6_share_1 : decode cX6_share 1 = .ok (.iload_n 1, 1) := by decide +kernel
theorem dX6_share_2 : decode cX6_share 2 = .ok (.iload_n 2, 1) := by decide +kernel
theorem dX6_share_3 : decode cX6_share 3 = .ok (.invokevirtual 81, 3) := by decide +kernel
theorem dX6_share_6 : decode cX6_share 6 = .ok (.iload_n 3, 1) := by decide +kernel
theorem dX6_share_7 : decode cX6_share 7 = .ok (.iconst (-1), 1) := by decide +kernel
theorem dX6_share_8 : decode cX6_share 8 = .ok (.if_icmp .eq 7, 3) := by decide +kernel
theorem dX6_share_11 : decode cX6_share 11 = .ok (.iload_n 3, 1) := by decide +kernel
theorem dX6_share_12 : decode cX6_share 12 = .ok (.invokestatic 295, 3) := by decide +kernel
theorem dX6_share_15 : decode cX6_share 15 = .ok (.aload_n 0, 1) := by decide +kernel
theorem dX6_share_16 : decode cX6_share 16 = .ok (.getfield 40, 3) := by decide +kernel
theorem dX6_share_19 : decode cX6_share 19 = .ok (.aload_n 0, 1) := by decide +kernel
theorem dX6_share_20 : decode cX6_share 20 = .ok (.getfield 33, 3) := by decide +kernel
theorem dX6_share_23 : decode cX6_share 23 = .ok (.iload_n 1, 1) := by decide +kernel
theorem dX6_share_24 : decode cX6_share 24 = .ok (.iload_n 2, 1) := by decide +kernel
theorem dX6_share_25 : decode cX6_share 25 = .ok (.iload_n 3, 1) := by decide +kernel
theorem dX6_share_26 : decode cX6_share 26 = .ok (.invokevirtual 298, 3) := by decide +kernel
theorem dX6_share_29 : decode cX6_share 29 = .ok (.ireturn, 1) := by decide +kernel
set_option maxRecDepth 20000 in
theorem ggX6_hold_X4_size : GoodIn wsX6_hold wsX4_size := goodIn_r _ [11, 12, 75, 76] (by decide +kernel) (by decide +kernel)
set_option maxRecDepth 20000 in
theorem gX6_hold_X4_size : GoodIn wsX6_hold (wsV RX6 282 RX4 yX4_size wsX4_size) := goodIn_app (goodIn_of _ (by decide +kernel)) ggX6_hold_X4_size
set_option maxRecDepth 20000 in
theorem ggX6_hold_X4_add : GoodIn wsX6_hold wsX4_add := goodIn_r _ [16, 12, 75, 76] (by decide +kernel) (by decide +kernel)
set_option maxRecDepth 20000 in
theorem gX6_hold_X4_add : GoodIn wsX6_hold (wsV RX6 314 RX4 yX4_add wsX4_add) := goodIn_app (goodIn_of _ (by decide +kernel)) ggX6_hold_X4_add
set_option maxRecDepth 20000 in
theorem ggX6_hold_X2_size : GoodIn wsX6_hold wsX2_size := goodIn_r _ [21, 22, 77, 78, 79, 80, 81] (by decide +kernel) (by decide +kernel)
set_option maxRecDepth 20000 in
theorem gX6_hold_X2_size : GoodIn wsX6_hold (wsV RX6 65 RX2 yX2_size wsX2_size) := goodIn_app (goodIn_of _ (by decide +kernel)) ggX6_hold_X2_size
set_option maxRecDepth 20000 in
theorem ggX6_hold_X2_answersOf : GoodIn wsX6_hold wsX2_answersOf := goodIn_r _ [26, 27, 77, 78, 79, 80, 81] (by decide +kernel) (by decide +kernel)
set_option maxRecDepth 20000 in
theorem gX6_hold_X2_answersOf : GoodIn wsX6_hold (wsV RX6 316 RX2 yX2_answersOf wsX2_answersOf) := goodIn_app (goodIn_of _ (by decide +kernel)) ggX6_hold_X2_answersOf
set_option maxRecDepth 20000 in
theorem ggX6_hold_X5_shareOf : GoodIn wsX6_hold wsX5_shareOf := goodIn_r _ [32, 33, 34, 35, 36, 37, 38, 39, 40, 41, 42, 43, 44, 45, 46, 47, 48, 49, 50, 51, 52, 53, 54, 55, 56, 57, 58, 82, 83, 84, 85, 86, 87, 88, 89, 90] (by decide +kernel) (by decide +kernel)
set_option maxRecDepth 20000 in
theorem gX6_hold_X5_shareOf : GoodIn wsX6_hold (wsV RX6 298 RX5 yX5_shareOf wsX5_shareOf) := goodIn_app (goodIn_of _ (by decide +kernel)) ggX6_hold_X5_shareOf
set_option maxRecDepth 20000 in
theorem ggX6_hold_X4_put : GoodIn wsX6_hold wsX4_put := goodIn_r _ [62, 63, 64, 65, 10, 66, 75, 76] (by decide +kernel) (by decide +kernel)
set_option maxRecDepth 20000 in
theorem gX6_hold_X4_put : GoodIn wsX6_hold (wsV RX6 319 RX4 yX4_put wsX4_put) := goodIn_app (goodIn_of _ (by decide +kernel)) ggX6_hold_X4_put
theorem dX6_hold_0 : decode cX6_hold 0 = .ok (.aload_n 0, 1) := by decide +kernel
theorem dX6_hold_1 : decode cX6_hold 1 = .ok (.getfield 50, 3) := by decide +kernel
theorem dX6_hold_4 : decode cX6_hold 4 = .ok (.invokevirtual 282, 3) := by decide +kernel
theorem dX6_hold_7 : decode cX6_hold 7 = .ok (.iconst 5, 1) := by decide +kernel
theorem dX6_hold_8 : decode cX6_hold 8 = .ok (.if_icmp .lt 14, 3) := by decide +kernel
theorem dX6_hold_11 : decode cX6_hold 11 = .ok (.new 69, 3) := by decide +kernel
theorem dX6_hold_14 : decode cX6_hold 14 = .ok (.dup, 1) := by decide +kernel
theorem dX6_hold_15 : decode cX6_hold 15 = .ok (.ldc_w 312, 3) := by decide +kernel
theorem dX6_hold_18 : decode cX6_hold 18 = .ok (.invokespecial 73, 3) := by decide +kernel
theorem dX6_hold_21 : decode cX6_hold 21 = .ok (.athrow, 1) := by decide +kernel
theorem dX6_hold_22 : decode cX6_hold 22 = .ok (.aload_n 0, 1) := by decide +kernel
theorem dX6_hold_23 : decode cX6_hold 23 = .ok (.getfield 50, 3) := by decide +kernel
theorem dX6_hold_26 : decode cX6_hold 26 = .ok (.invokevirtual 314, 3) := by decide +kernel
theorem dX6_hold_29 : decode cX6_hold 29 = .ok (.istore_n 1, 1) := by decide +kernel
theorem dX6_hold_30 : decode cX6_hold 30 = .ok (.iconst 0, 1) := by decide +kernel
theorem dX6_hold_31 : decode cX6_hold 31 = .ok (.istore_n 2, 1) := by decide +kernel
theorem dX6_hold_32 : decode cX6_hold 32 = .ok (.iload_n 2, 1) := by decide +kernel
theorem dX6_hold_33 : decode cX6_hold 33 = .ok (.aload_n 0, 1) := by decide +kernel
theorem dX6_hold_34 : decode cX6_hold 34 = .ok (.getfield 12, 3) := by decide +kernel
theorem dX6_hold_37 : decode cX6_hold 37 = .ok (.invokevirtual 65, 3) := by decide +kernel
theorem dX6_hold_40 : decode cX6_hold 40 = .ok (.if_icmp .ge 53, 3) := by decide +kernel
theorem dX6_hold_43 : decode cX6_hold 43 = .ok (.iconst 0, 1) := by decide +kernel
theorem dX6_hold_44 : decode cX6_hold 44 = .ok (.istore_n 3, 1) := by decide +kernel
theorem dX6_hold_45 : decode cX6_hold 45 = .ok (.iload_n 3, 1) := by decide +kernel
theorem dX6_hold_46 : decode cX6_hold 46 = .ok (.aload_n 0, 1) := by decide +kernel
theorem dX6_hold_47 : decode cX6_hold 47 = .ok (.getfield 12, 3) := by decide +kernel
theorem dX6_hold_50 : decode cX6_hold 50 = .ok (.iload_n 2, 1) := by decide +kernel
theorem dX6_hold_51 : decode cX6_hold 51 = .ok (.invokevirtual 316, 3) := by decide +kernel
theorem dX6_hold_54 : decode cX6_hold 54 = .ok (.if_icmp .ge 33, 3) := by decide +kernel
theorem dX6_hold_57 : decode cX6_hold 57 = .ok (.aload_n 0, 1) := by decide +kernel
theorem dX6_hold_58 : decode cX6_hold 58 = .ok (.getfield 50, 3) := by decide +kernel
theorem dX6_hold_61 : decode cX6_hold 61 = .ok (.iload_n 1, 1) := by decide +kernel
theorem dX6_hold_62 : decode cX6_hold 62 = .ok (.iload_n 2, 1) := by decide +kernel
theorem dX6_hold_63 : decode cX6_hold 63 = .ok (.iload_n 3, 1) := by decide +kernel
theorem dX6_hold_64 : decode cX6_hold 64 = .ok (.aload_n 0, 1) := by decide +kernel
theorem dX6_hold_65 : decode cX6_hold 65 = .ok (.getfield 40, 3) := by decide +kernel
theorem dX6_hold_68 : decode cX6_hold 68 = .ok (.aload_n 0, 1) := by decide +kernel
theorem dX6_hold_69 : decode cX6_hold 69 = .ok (.getfield 33, 3) := by decide +kernel
theorem dX6_hold_72 : decode cX6_hold 72 = .ok (.iload_n 2, 1) := by decide +kernel
theorem dX6_hold_73 : decode cX6_hold 73 = .ok (.iload_n 3, 1) := by decide +kernel
theorem dX6_hold_74 : decode cX6_hold 74 = .ok (.iconst (-1), 1) := by decide +kernel
theorem dX6_hold_75 : decode cX6_hold 75 = .ok (.invokevirtual 298, 3) := by decide +kernel
theorem dX6_hold_78 : decode cX6_hold 78 = .ok (.invokevirtual 319, 3) := by decide +kernel
theorem dX6_hold_81 : decode cX6_hold 81 = .ok (.iinc 3 1, 3) := by decide +kernel
theorem dX6_hold_84 : decode cX6_hold 84 = .ok (.goto (-39), 3) := by decide +kernel
theorem dX6_hold_87 : decode cX6_hold 87 = .ok (.iinc 2 1, 3) := by decide +kernel
theorem dX6_hold_90 : decode cX6_hold 90 = .ok (.goto (-58), 3) := by decide +kernel
theorem dX6_hold_93 : decode cX6_hold 93 = .ok (.iload_n 1, 1) := by decide +kernel
theorem dX6_hold_94 : decode cX6_hold 94 = .ok (.ireturn, 1) := by decide +kernel
set_option maxRecDepth 20000 in
theorem ggX6_held_X4_size : GoodIn wsX6_held wsX4_size := goodIn_r _ [8, 9, 43, 44] (by decide +kernel) (by decide +kernel)
set_option maxRecDepth 20000 in
theorem gX6_held_X4_size : GoodIn wsX6_held (wsV RX6 282 RX4 yX4_size wsX4_size) := goodIn_app (goodIn_of _ (by decide +kernel)) ggX6_held_X4_size
set_option maxRecDepth 20000 in
theorem ggX6_held_X6_needAnswer : GoodIn wsX6_held wsX6_needAnswer := goodIn_ca (goodIn_r _ [14, 1, 2, 15, 16, 17, 18, 19, 20, 21, 22, 23, 24, 25, 26, 35, 36, 37, 38, 39, 40, 41, 42, 45, 46, 47, 48, 49] (by decide +kernel) (by decide +kernel)) (goodIn_sub (fun _ h => List.mem_cons_of_mem _ (List.mem_append_right _ h)) (by decide +kernel))
set_option maxRecDepth 20000 in
theorem gX6_held_X6_needAnswer : GoodIn wsX6_held (wsV RX6 81 RX6 yX6_needAnswer wsX6_needAnswer) := goodIn_app (goodIn_of _ (by decide +kernel)) ggX6_held_X6_needAnswer
set_option maxRecDepth 20000 in
theorem ggX6_held_X4_shareIn : GoodIn wsX6_held wsX4_shareIn := goodIn_r _ [30, 31, 32, 33, 7, 34, 43, 44] (by decide +kernel) (by decide +kernel)
set_option maxRecDepth 20000 in
theorem gX6_held_X4_shareIn : GoodIn wsX6_held (wsV RX6 327 RX4 yX4_shareIn wsX4_shareIn) := goodIn_app (goodIn_of _ (by decide +kernel)) ggX6_held_X4_shareIn
theorem dX6_held_0 : decode cX6_held 0 = .ok (.iload_n 1, 1) := by decide +kernel
theorem dX6_held_1 : decode cX6_held 1 = .ok (.ifCond .lt 14, 3) := by decide +kernel
theorem dX6_held_4 : decode cX6_held 4 = .ok (.iload_n 1, 1) := by decide +kernel
theorem dX6_held_5 : decode cX6_held 5 = .ok (.aload_n 0, 1) := by decide +kernel
theorem dX6_held_6 : decode cX6_held 6 = .ok (.getfield 50, 3) := by decide +kernel
theorem dX6_held_9 : decode cX6_held 9 = .ok (.invokevirtual 282, 3) := by decide +kernel
theorem dX6_held_12 : decode cX6_held 12 = .ok (.if_icmp .lt 14, 3) := by decide +kernel
theorem dX6_held_15 : decode cX6_held 15 = .ok (.new 322, 3) := by decide +kernel
theorem dX6_held_18 : decode cX6_held 18 = .ok (.dup, 1) := by decide +kernel
theorem dX6_held_19 : decode cX6_held 19 = .ok (.ldc_w 324, 3) := by decide +kernel
theorem dX6_held_22 : decode cX6_held 22 = .ok (.invokespecial 326, 3) := by decide +kernel
theorem dX6_held_25 : decode cX6_held 25 = .ok (.athrow, 1) := by decide +kernel
theorem dX6_held_26 : decode cX6_held 26 = .ok (.aload_n 0, 1) := by decide +kernel
theorem dX6_held_27 : decode cX6_held 27 = .ok (.iload_n 2, 1) := by decide +kernel
theorem dX6_held_28 : decode cX6_held 28 = .ok (.iload_n 3, 1) := by decide +kernel
theorem dX6_held_29 : decode cX6_held 29 = .ok (.invokevirtual 81, 3) := by decide +kernel
theorem dX6_held_32 : decode cX6_held 32 = .ok (.aload_n 0, 1) := by decide +kernel
theorem dX6_held_33 : decode cX6_held 33 = .ok (.getfield 50, 3) := by decide +kernel
theorem dX6_held_36 : decode cX6_held 36 = .ok (.iload_n 1, 1) := by decide +kernel
theorem dX6_held_37 : decode cX6_held 37 = .ok (.iload_n 2, 1) := by decide +kernel
theorem dX6_held_38 : decode cX6_held 38 = .ok (.iload_n 3, 1) := by decide +kernel
theorem dX6_held_39 : decode cX6_held 39 = .ok (.invokevirtual 327, 3) := by decide +kernel
theorem dX6_held_42 : decode cX6_held 42 = .ok (.ireturn, 1) := by decide +kernel
set_option maxRecDepth 20000 in
theorem ggX6_cleaned_X0_countToClean : GoodIn wsX6_cleaned wsX0_countToClean := goodIn_r _ [7, 8, 9, 10, 11, 12, 6, 13, 14, 15, 16, 17, 18, 19, 20, 21, 22, 23, 24, 25, 26, 27, 28, 29, 30, 31, 32, 33, 58, 59, 60, 61, 62, 63, 64, 65] (by decide +kernel) (by decide +kernel)
set_option maxRecDepth 20000 in
theorem gX6_cleaned_X0_countToClean : GoodIn wsX6_cleaned (wsV RX6 334 RX0 yX0_countToClean wsX0_countToClean) := goodIn_app (goodIn_of _ (by decide +kernel)) ggX6_cleaned_X0_countToClean
set_option maxRecDepth 20000 in
theorem ggX6_cleaned_X3_isOpen : GoodIn wsX6_cleaned wsX3_isOpen := goodIn_r _ [38, 39, 40, 41, 37, 42, 43, 44, 45, 46, 47, 48, 66, 67, 68] (by decide +kernel) (by decide +kernel)
set_option maxRecDepth 20000 in
theorem gX6_cleaned_X3_isOpen : GoodIn wsX6_cleaned (wsV RX6 148 RX3 yX3_isOpen wsX3_isOpen) := goodIn_app (goodIn_of _ (by decide +kernel)) ggX6_cleaned_X3_isOpen
set_option maxRecDepth 20000 in
theorem ggX6_cleaned_X3_isOpenWith : GoodIn wsX6_cleaned wsX3_isOpenWith := goodIn_r _ [42, 43, 44, 45, 46, 47, 37, 48, 66, 67, 68] (by decide +kernel) (by decide +kernel)
set_option maxRecDepth 20000 in
theorem gX6_cleaned_X3_isOpenWith : GoodIn wsX6_cleaned (wsV RX6 337 RX3 yX3_isOpenWith wsX3_isOpenWith) := goodIn_app (goodIn_of _ (by decide +kernel)) ggX6_cleaned_X3_isOpenWith
theorem dX6_cleaned_0 : decode cX6_cleaned 0 = .ok (.iconst 0, 1) := by decide +kernel
theorem dX6_cleaned_1 : decode cX6_cleaned 1 = .ok (.istore_n 1, 1) := by decide +kernel
theorem dX6_cleaned_2 : decode cX6_cleaned 2 = .ok (.iconst 0, 1) := by decide +kernel
theorem dX6_cleaned_3 : decode cX6_cleaned 3 = .ok (.istore_n 2, 1) := by decide +kernel
theorem dX6_cleaned_4 : decode cX6_cleaned 4 = .ok (.iload_n 2, 1) := by decide +kernel
theorem dX6_cleaned_5 : decode cX6_cleaned 5 = .ok (.bipush 6, 2) := by decide +kernel
theorem dX6_cleaned_7 : decode cX6_cleaned 7 = .ok (.if_icmp .ge 20, 3) := by decide +kernel
theorem dX6_cleaned_10 : decode cX6_cleaned 10 = .ok (.iload_n 1, 1) := by decide +kernel
theorem dX6_cleaned_11 : decode cX6_cleaned 11 = .ok (.aload_n 0, 1) := by decide +kernel
theorem dX6_cleaned_12 : decode cX6_cleaned 12 = .ok (.getfield 33, 3) := by decide +kernel
theorem dX6_cleaned_15 : decode cX6_cleaned 15 = .ok (.iload_n 2, 1) := by decide +kernel
theorem dX6_cleaned_16 : decode cX6_cleaned 16 = .ok (.invokevirtual 334, 3) := by decide +kernel
theorem dX6_cleaned_19 : decode cX6_cleaned 19 = .ok (.iadd, 1) := by decide +kernel
theorem dX6_cleaned_20 : decode cX6_cleaned 20 = .ok (.istore_n 1, 1) := by decide +kernel
theorem dX6_cleaned_21 : decode cX6_cleaned 21 = .ok (.iinc 2 1, 3) := by decide +kernel
theorem dX6_cleaned_24 : decode cX6_cleaned 24 = .ok (.goto (-20), 3) := by decide +kernel
theorem dX6_cleaned_27 : decode cX6_cleaned 27 = .ok (.iconst 0, 1) := by decide +kernel
theorem dX6_cleaned_28 : decode cX6_cleaned 28 = .ok (.istore_n 2, 1) := by decide +kernel
theorem dX6_cleaned_29 : decode cX6_cleaned 29 = .ok (.iconst 0, 1) := by decide +kernel
theorem dX6_cleaned_30 : decode cX6_cleaned 30 = .ok (.istore_n 3, 1) := by decide +kernel
theorem dX6_cleaned_31 : decode cX6_cleaned 31 = .ok (.iload_n 3, 1) := by decide +kernel
theorem dX6_cleaned_32 : decode cX6_cleaned 32 = .ok (.bipush 6, 2) := by decide +kernel
theorem dX6_cleaned_34 : decode cX6_cleaned 34 = .ok (.if_icmp .ge 43, 3) := by decide +kernel
theorem dX6_cleaned_37 : decode cX6_cleaned 37 = .ok (.aload_n 0, 1) := by decide +kernel
theorem dX6_cleaned_38 : decode cX6_cleaned 38 = .ok (.getfield 19, 3) := by decide +kernel
theorem dX6_cleaned_41 : decode cX6_cleaned 41 = .ok (.iload_n 3, 1) := by decide +kernel
theorem dX6_cleaned_42 : decode cX6_cleaned 42 = .ok (.invokevirtual 148, 3) := by decide +kernel
theorem dX6_cleaned_45 : decode cX6_cleaned 45 = .ok (.ifCond .ne 26, 3) := by decide +kernel
theorem dX6_cleaned_48 : decode cX6_cleaned 48 = .ok (.aload_n 0, 1) := by decide +kernel
theorem dX6_cleaned_49 : decode cX6_cleaned 49 = .ok (.getfield 19, 3) := by decide +kernel
theorem dX6_cleaned_52 : decode cX6_cleaned 52 = .ok (.iload_n 3, 1) := by decide +kernel
theorem dX6_cleaned_53 : decode cX6_cleaned 53 = .ok (.aload_n 0, 1) := by decide +kernel
theorem dX6_cleaned_54 : decode cX6_cleaned 54 = .ok (.getfield 33, 3) := by decide +kernel
theorem dX6_cleaned_57 : decode cX6_cleaned 57 = .ok (.iload_n 3, 1) := by decide +kernel
theorem dX6_cleaned_58 : decode cX6_cleaned 58 = .ok (.invokevirtual 334, 3) := by decide +kernel
theorem dX6_cleaned_61 : decode cX6_cleaned 61 = .ok (.iload_n 1, 1) := by decide +kernel
theorem dX6_cleaned_62 : decode cX6_cleaned 62 = .ok (.invokevirtual 337, 3) := by decide +kernel
theorem dX6_cleaned_65 : decode cX6_cleaned 65 = .ok (.ifCond .eq 6, 3) := by decide +kernel
theorem dX6_cleaned_68 : decode cX6_cleaned 68 = .ok (.iinc 2 1, 3) := by decide +kernel
theorem dX6_cleaned_71 : decode cX6_cleaned 71 = .ok (.iinc 3 1, 3) := by decide +kernel
theorem dX6_cleaned_74 : decode cX6_cleaned 74 = .ok (.goto (-43), 3) := by decide +kernel
theorem dX6_cleaned_77 : decode cX6_cleaned 77 = .ok (.iload_n 1, 1) := by decide +kernel
theorem dX6_cleaned_78 : decode cX6_cleaned 78 = .ok (.bipush 100, 2) := by decide +kernel
theorem dX6_cleaned_80 : decode cX6_cleaned 80 = .ok (.iload_n 2, 1) := by decide +kernel
theorem dX6_cleaned_81 : decode cX6_cleaned 81 = .ok (.imul, 1) := by decide +kernel
theorem dX6_cleaned_82 : decode cX6_cleaned 82 = .ok (.iadd, 1) := by decide +kernel
theorem dX6_cleaned_83 : decode cX6_cleaned 83 = .ok (.ireturn, 1) := by decide +kernel
set_option maxRecDepth 20000 in
theorem ggX6_nextIn_X6_firstToAsk : GoodIn wsX6_nextIn wsX6_firstToAsk := goodIn_r _ [7, 8, 9, 10, 11, 12, 13, 14, 15, 16, 17, 6, 18, 19, 20, 21, 22, 23, 24, 25, 26, 27, 28, 29, 30, 31, 32, 33, 34, 35, 36, 37, 38, 39, 40, 41, 42, 43, 44, 45, 46, 47, 48, 49, 50, 51, 52, 53, 54, 55, 56, 57, 58, 59, 60, 61, 62, 63, 64, 65, 66, 67, 68, 69, 70, 71, 72, 73, 74, 75, 76, 77, 78, 79, 80, 81, 82, 83, 84, 85, 86, 87, 88, 89, 90, 91, 92, 93, 94] (by decide +kernel) (by decide +kernel)
set_option maxRecDepth 20000 in
theorem gX6_nextIn_X6_firstToAsk : GoodIn wsX6_nextIn (wsV RX6 186 RX6 yX6_firstToAsk wsX6_firstToAsk) := goodIn_app (goodIn_of _ (by decide +kernel)) ggX6_nextIn_X6_firstToAsk
theorem dX6_nextIn_0 : decode cX6_nextIn 0 = .ok (.iload_n 1, 1) := by decide +kernel
theorem dX6_nextIn_1 : decode cX6_nextIn 1 = .ok (.ifCond .lt 9, 3) := by decide +kernel
theorem dX6_nextIn_4 : decode cX6_nextIn 4 = .ok (.iload_n 1, 1) := by decide +kernel
theorem dX6_nextIn_5 : decode cX6_nextIn 5 = .ok (.bipush 9, 2) := by decide +kernel
theorem dX6_nextIn_7 : decode cX6_nextIn 7 = .ok (.if_icmp .le 14, 3) := by decide +kernel
theorem dX6_nextIn_10 : decode cX6_nextIn 10 = .ok (.new 58, 3) := by decide +kernel
theorem dX6_nextIn_13 : decode cX6_nextIn 13 = .ok (.dup, 1) := by decide +kernel
theorem dX6_nextIn_14 : decode cX6_nextIn 14 = .ok (.ldc_w 341, 3) := by decide +kernel
theorem dX6_nextIn_17 : decode cX6_nextIn 17 = .ok (.invokespecial 62, 3) := by decide +kernel
theorem dX6_nextIn_20 : decode cX6_nextIn 20 = .ok (.athrow, 1) := by decide +kernel
theorem dX6_nextIn_21 : decode cX6_nextIn 21 = .ok (.aload_n 0, 1) := by decide +kernel
theorem dX6_nextIn_22 : decode cX6_nextIn 22 = .ok (.iload_n 1, 1) := by decide +kernel
theorem dX6_nextIn_23 : decode cX6_nextIn 23 = .ok (.invokevirtual 186, 3) := by decide +kernel
theorem dX6_nextIn_26 : decode cX6_nextIn 26 = .ok (.ireturn, 1) := by decide +kernel
set_option maxRecDepth 20000 in
theorem ggX6_offWith_X6_needRounds : GoodIn wsX6_offWith wsX6_needRounds := goodIn_ca (goodIn_r _ [7, 8, 9] (by decide +kernel) (by decide +kernel)) (goodIn_sub (fun _ h => List.mem_cons_of_mem _ (List.mem_append_right _ h)) (by decide +kernel))
set_option maxRecDepth 20000 in
theorem gX6_offWith_X6_needRounds : GoodIn wsX6_offWith (va_wsS RX6 288 yX6_needRounds wsX6_needRounds) := goodIn_app (goodIn_of _ (by decide +kernel)) ggX6_offWith_X6_needRounds
set_option maxRecDepth 20000 in
theorem ggX6_offWith_X5_weigh : GoodIn wsX6_offWith wsX5_weigh := goodIn_r _ [14, 15, 16, 17, 18, 19, 20, 21, 22, 23, 24, 25, 26, 27, 28, 29, 30, 31, 32, 33, 6, 34, 35, 36, 37, 38, 39, 40, 41, 42, 43, 13, 44, 45, 46, 47, 48, 49, 50, 51, 52, 53, 73, 74, 75, 76, 77, 78, 79, 80, 81, 82, 83, 84] (by decide +kernel) (by decide +kernel)
set_option maxRecDepth 20000 in
theorem gX6_offWith_X5_weigh : GoodIn wsX6_offWith (wsV RX6 343 RX5 yX5_weigh wsX5_weigh) := goodIn_app (goodIn_of _ (by decide +kernel)) ggX6_offWith_X5_weigh
set_option maxRecDepth 20000 in
theorem ggX6_offWith_X5_farthest : GoodIn wsX6_offWith wsX5_farthest := goodIn_r _ [57, 58, 59, 60, 61, 62, 63, 64, 45, 46, 47, 13, 48, 15, 16, 17, 18, 19, 20, 21, 49, 50, 51, 52, 53, 33, 6, 34, 35, 36, 37, 38, 39, 40, 27, 28, 29, 30, 31, 32, 73, 74, 75, 76, 77, 78, 79, 80, 81, 82, 83, 84] (by decide +kernel) (by decide +kernel)
set_option maxRecDepth 20000 in
theorem gX6_offWith_X5_farthest : GoodIn wsX6_offWith (wsV RX6 291 RX5 yX5_farthest wsX5_farthest) := goodIn_app (goodIn_of _ (by decide +kernel)) ggX6_offWith_X5_farthest
theorem dX6_offWith_0 : decode cX6_offWith 0 = .ok (.iload_n 1, 1) := by decide +kernel
theorem dX6_offWith_1 : decode cX6_offWith 1 = .ok (.invokestatic 288, 3) := by decide +kernel
theorem dX6_offWith_4 : decode cX6_offWith 4 = .ok (.aload_n 0, 1) := by decide +kernel
theorem dX6_offWith_5 : decode cX6_offWith 5 = .ok (.getfield 44, 3) := by decide +kernel
theorem dX6_offWith_8 : decode cX6_offWith 8 = .ok (.aload_n 0, 1) := by decide +kernel
theorem dX6_offWith_9 : decode cX6_offWith 9 = .ok (.getfield 33, 3) := by decide +kernel
theorem dX6_offWith_12 : decode cX6_offWith 12 = .ok (.aload_n 0, 1) := by decide +kernel
theorem dX6_offWith_13 : decode cX6_offWith 13 = .ok (.getfield 19, 3) := by decide +kernel
theorem dX6_offWith_16 : decode cX6_offWith 16 = .ok (.iload_n 1, 1) := by decide +kernel
theorem dX6_offWith_17 : decode cX6_offWith 17 = .ok (.invokevirtual 343, 3) := by decide +kernel
theorem dX6_offWith_20 : decode cX6_offWith 20 = .ok (.aload_n 0, 1) := by decide +kernel
theorem dX6_offWith_21 : decode cX6_offWith 21 = .ok (.getfield 44, 3) := by decide +kernel
theorem dX6_offWith_24 : decode cX6_offWith 24 = .ok (.aload_n 0, 1) := by decide +kernel
theorem dX6_offWith_25 : decode cX6_offWith 25 = .ok (.getfield 33, 3) := by decide +kernel
theorem dX6_offWith_28 : decode cX6_offWith 28 = .ok (.aload_n 0, 1) := by decide +kernel
theorem dX6_offWith_29 : decode cX6_offWith 29 = .ok (.getfield 19, 3) := by decide +kernel
theorem dX6_offWith_32 : decode cX6_offWith 32 = .ok (.invokevirtual 291, 3) := by decide +kernel
theorem dX6_offWith_35 : decode cX6_offWith 35 = .ok (.ireturn, 1) := by decide +kernel
set_option maxRecDepth 20000 in
theorem ggX6_shortest_X6_needQuestion : GoodIn wsX6_shortest wsX6_needQuestion := goodIn_ca (goodIn_r _ [6, 7, 8, 1, 9, 10, 11, 12, 13, 14, 34, 35, 36, 37, 38, 39, 40, 41, 42, 43, 44, 45, 46] (by decide +kernel) (by decide +kernel)) (goodIn_sub (fun _ h => List.mem_cons_of_mem _ (List.mem_append_right _ h)) (by decide +kernel))
set_option maxRecDepth 20000 in
theorem gX6_shortest_X6_needQuestion : GoodIn wsX6_shortest (wsV RX6 85 RX6 yX6_needQuestion wsX6_needQuestion) := goodIn_app (goodIn_of _ (by decide +kernel)) ggX6_shortest_X6_needQuestion
set_option maxRecDepth 20000 in
theorem ggX6_shortest_X2_stepsFrom : GoodIn wsX6_shortest wsX2_stepsFrom := goodIn_r _ [18, 14, 19, 20, 21, 22, 23, 24, 25, 26, 27, 12, 28, 29, 30, 31, 32, 33, 42, 43, 44, 45, 46] (by decide +kernel) (by decide +kernel)
set_option maxRecDepth 20000 in
theorem gX6_shortest_X2_stepsFrom : GoodIn wsX6_shortest (wsV RX6 347 RX2 yX2_stepsFrom wsX2_stepsFrom) := goodIn_app (goodIn_of _ (by decide +kernel)) ggX6_shortest_X2_stepsFrom
theorem dX6_shortest_0 : decode cX6_shortest 0 = .ok (.aload_n 0, 1) := by decide +kernel
theorem dX6_shortest_1 : decode cX6_shortest 1 = .ok (.iload_n 1, 1) := by decide +kernel
theorem dX6_shortest_2 : decode cX6_shortest 2 = .ok (.invokevirtual 85, 3) := by decide +kernel
theorem dX6_shortest_5 : decode cX6_shortest 5 = .ok (.aload_n 0, 1) := by decide +kernel
theorem dX6_shortest_6 : decode cX6_shortest 6 = .ok (.getfield 12, 3) := by decide +kernel
theorem dX6_shortest_9 : decode cX6_shortest 9 = .ok (.iload_n 1, 1) := by decide +kernel
theorem dX6_shortest_10 : decode cX6_shortest 10 = .ok (.invokevirtual 347, 3) := by decide +kernel
theorem dX6_shortest_13 : decode cX6_shortest 13 = .ok (.ireturn, 1) := by decide +kernel
set_option maxRecDepth 20000 in
theorem ggX6_digest_X6_many : GoodIn wsX6_digest wsX6_many := goodIn_ca (goodIn_r _ [7, 8, 9, 10, 11, 12, 13, 14, 15, 16, 17, 18, 19, 20, 21, 22, 23, 24, 25, 26, 27, 28, 29, 30, 31, 32, 33, 34, 35, 36, 37, 38, 39, 40, 41, 42, 43, 44, 45, 46, 47, 48, 49, 50, 51, 52, 53, 54, 55, 56, 57, 58, 59, 6, 60, 61, 62, 63, 64, 65, 66, 67, 68, 69, 70, 71, 72, 73, 74, 75, 76, 77, 78, 79, 80, 81, 82, 83, 84, 85, 86, 87, 88, 89, 90, 91, 92, 93, 94, 95, 96, 97, 98, 99, 100, 101, 102, 103, 104, 105, 106, 107, 108, 359, 360, 361, 362, 363, 364, 365, 366, 367, 368, 369, 370, 371, 372, 373, 374, 375, 376, 377, 378, 379, 380, 381, 382, 383, 384, 385, 386, 387, 388, 389, 390] (by decide +kernel) (by decide +kernel)) (goodIn_sub (fun _ h => List.mem_cons_of_mem _ (List.mem_append_left _ (List.mem_append_right _ h))) (by decide +kernel))
set_option maxRecDepth 20000 in
theorem gX6_digest_X6_many : GoodIn wsX6_digest (wsV RX6 354 RX6 yX6_many wsX6_many) := goodIn_app (goodIn_of _ (by decide +kernel)) ggX6_digest_X6_many
set_option maxRecDepth 20000 in
theorem ggX6_digest_X6_digestCells : GoodIn wsX6_digest wsX6_digestCells := goodIn_ca (goodIn_ca (goodIn_r _ [112, 2, 113, 114, 115, 6, 116, 8, 9, 13, 11, 117, 118, 119, 120, 121, 122, 123, 124, 125, 126, 127, 128, 129, 130, 131, 132, 133, 37, 134, 39, 135, 136, 137, 138, 55, 92, 48, 49, 50, 51, 52, 53, 54, 56, 40, 41, 42, 139, 140, 141, 24, 142, 26, 69, 61, 62, 63, 64, 21, 22, 23, 25, 65, 66, 67, 68, 70, 71, 72, 73, 12, 74, 75, 76, 77, 78, 79, 80, 81, 30, 82, 32, 33, 83, 84, 85, 86, 87, 88, 89, 90, 91, 359, 360, 361, 362, 363, 364, 365, 366, 386, 387, 388, 372, 373, 374, 375, 376, 377, 378, 379, 380, 381, 382, 383, 384, 385] (by decide +kernel) (by decide +kernel)) (goodIn_sub (fun _ h => List.mem_cons_of_mem _ (List.mem_append_left _ (List.mem_append_right _ h))) (by decide +kernel))) (goodIn_sub (fun _ h => List.mem_cons_of_mem _ (List.mem_append_right _ h)) (by decide +kernel))
set_option maxRecDepth 20000 in
theorem gX6_digest_X6_digestCells : GoodIn wsX6_digest (wsV RX6 357 RX6 yX6_digestCells wsX6_digestCells) := goodIn_app (goodIn_of _ (by decide +kernel)) ggX6_digest_X6_digestCells
set_option maxRecDepth 20000 in
theorem ggX6_digest_X6_digestPeople : GoodIn wsX6_digest wsX6_digestPeople := goodIn_ca (goodIn_ca (goodIn_r _ [146, 11, 2, 21, 22, 23, 24, 25, 26, 147, 148, 149, 6, 150, 8, 9, 151, 152, 153, 154, 120, 121, 65, 66, 67, 68, 69, 155, 156, 157, 158, 159, 160, 83, 84, 85, 86, 87, 88, 89, 90, 91, 161, 162, 163, 164, 97, 70, 71, 72, 73, 12, 13, 74, 75, 76, 77, 78, 79, 80, 81, 30, 82, 32, 33, 92, 48, 49, 37, 50, 51, 52, 53, 54, 55, 39, 56, 40, 41, 42, 359, 360, 361, 362, 363, 364, 365, 366, 372, 373, 374, 375, 376, 377, 378, 379, 380, 381, 382, 383, 384, 385, 386, 387, 388] (by decide +kernel) (by decide +kernel)) (goodIn_sub (fun _ h => List.mem_cons_of_mem _ (List.mem_append_left _ (List.mem_append_right _ h))) (by decide +kernel))) (goodIn_sub (fun _ h => List.mem_cons_of_mem _ (List.mem_append_right _ h)) (by decide +kernel))
set_option maxRecDepth 20000 in
theorem gX6_digest_X6_digestPeople : GoodIn wsX6_digest (wsV RX6 361 RX6 yX6_digestPeople wsX6_digestPeople) := goodIn_app (goodIn_of _ (by decide +kernel)) ggX6_digest_X6_digestPeople
set_option maxRecDepth 20000 in
theorem ggX6_digest_X6_digestInterviews : GoodIn wsX6_digest wsX6_digestInterviews := goodIn_ca (goodIn_ca (goodIn_r _ [168, 12, 2, 10, 169, 170, 171, 30, 172, 32, 173, 174, 175, 6, 176, 8, 9, 177, 178, 179, 180, 181, 120, 121, 182, 183, 184, 185, 186, 187, 188, 189, 190, 33, 191, 192, 193, 194, 195, 196, 197, 198, 199, 200, 201, 202, 203, 204, 205, 206, 207, 208, 209, 210, 211, 212, 213, 214, 215, 216, 217, 218, 219, 220, 221, 222, 223, 224, 225, 226, 227, 228, 229, 230, 231, 232, 15, 16, 17, 18, 19, 20, 233, 234, 235, 236, 237, 238, 239, 240, 241, 242, 243, 244, 245, 359, 360, 361, 362, 363, 364, 365, 366, 378, 379, 380, 381, 382, 383, 384, 385, 391, 367, 368, 369, 370, 371] (by decide +kernel) (by decide +kernel)) (goodIn_sub (fun _ h => List.mem_cons_of_mem _ (List.mem_append_left _ (List.mem_append_right _ h))) (by decide +kernel))) (goodIn_sub (fun _ h => List.mem_cons_of_mem _ (List.mem_append_right _ h)) (by decide +kernel))
set_option maxRecDepth 20000 in
theorem gX6_digest_X6_digestInterviews : GoodIn wsX6_digest (wsV RX6 364 RX6 yX6_digestInterviews wsX6_digestInterviews) := goodIn_app (goodIn_of _ (by decide +kernel)) ggX6_digest_X6_digestInterviews
set_option maxRecDepth 20000 in
theorem ggX6_digest_X6_digestQuestions : GoodIn wsX6_digest wsX6_digestQuestions := goodIn_ca (goodIn_r _ [249, 10, 2, 15, 16, 17, 18, 19, 20, 250, 251, 252, 253, 254, 255, 256, 257, 6, 258, 177, 12, 259, 260, 261, 262, 120, 121, 263, 264, 265, 266, 267, 242, 243, 244, 268, 269, 270, 122, 123, 124, 271, 272, 273, 209, 274, 211, 275, 170, 171, 30, 172, 32, 276, 277, 278, 279, 280, 216, 217, 218, 219, 33, 228, 229, 230, 231, 232, 156, 157, 281, 282, 283, 284, 285, 237, 238, 239, 240, 241, 286, 287, 288, 289, 290, 291, 292, 90, 293, 294, 295, 296, 297, 298, 299, 300, 301, 302, 359, 360, 361, 362, 363, 364, 365, 366, 367, 368, 369, 370, 371, 391, 378, 379, 380, 381, 382, 383, 384, 385] (by decide +kernel) (by decide +kernel)) (goodIn_sub (fun _ h => List.mem_cons_of_mem _ (List.mem_append_right _ h)) (by decide +kernel))
set_option maxRecDepth 20000 in
theorem gX6_digest_X6_digestQuestions : GoodIn wsX6_digest (wsV RX6 367 RX6 yX6_digestQuestions wsX6_digestQuestions) := goodIn_app (goodIn_of _ (by decide +kernel)) ggX6_digest_X6_digestQuestions
set_option maxRecDepth 20000 in
theorem ggX6_digest_X6_next : GoodIn wsX6_digest wsX6_next := goodIn_r _ [306, 307, 308, 309, 6, 310, 11, 21, 22, 23, 24, 25, 26, 70, 71, 72, 73, 12, 13, 74, 75, 76, 77, 78, 79, 80, 81, 30, 82, 32, 33, 83, 84, 85, 86, 87, 88, 89, 90, 91, 65, 66, 67, 68, 69, 92, 48, 49, 37, 50, 51, 52, 53, 54, 55, 39, 56, 40, 41, 42, 311, 312, 313, 314, 315, 316, 317, 318, 359, 360, 361, 362, 363, 364, 365, 366, 372, 373, 374, 375, 376, 377, 378, 379, 380, 381, 382, 383, 384, 385, 386, 387, 388] (by decide +kernel) (by decide +kernel)
set_option maxRecDepth 20000 in
theorem gX6_digest_X6_next : GoodIn wsX6_digest (wsV RX6 370 RX6 yX6_next wsX6_next) := goodIn_app (goodIn_of _ (by decide +kernel)) ggX6_digest_X6_next
set_option maxRecDepth 20000 in
theorem ggX6_digest_X6_off : GoodIn wsX6_digest wsX6_off := goodIn_r _ [322, 177, 12, 13, 323, 324, 325, 209, 326, 327, 328, 90, 329, 330, 89, 91, 331, 332, 333, 334, 211, 275, 170, 171, 30, 172, 32, 335, 336, 337, 338, 280, 339, 6, 340, 155, 156, 157, 158, 159, 160, 341, 342, 343, 37, 344, 39, 359, 360, 361, 362, 363, 364, 365, 366, 391, 378, 379, 380, 381, 382, 383, 384, 385, 386, 387, 388] (by decide +kernel) (by decide +kernel)
set_option maxRecDepth 20000 in
theorem gX6_digest_X6_off : GoodIn wsX6_digest (wsV RX6 373 RX6 yX6_off wsX6_off) := goodIn_app (goodIn_of _ (by decide +kernel)) ggX6_digest_X6_off
set_option maxRecDepth 20000 in
theorem ggX6_digest_X6_cleaned : GoodIn wsX6_digest wsX6_cleaned := goodIn_r _ [348, 12, 13, 349, 350, 351, 30, 352, 32, 280, 353, 213, 214, 215, 216, 217, 218, 219, 33, 220, 221, 222, 223, 205, 200, 224, 225, 226, 227, 228, 229, 230, 231, 232, 92, 48, 49, 37, 50, 51, 52, 53, 54, 55, 39, 56, 40, 41, 42, 354, 359, 360, 361, 362, 363, 364, 365, 366, 378, 379, 380, 381, 382, 383, 384, 385, 386, 387, 388] (by decide +kernel) (by decide +kernel)
set_option maxRecDepth 20000 in
theorem gX6_digest_X6_cleaned : GoodIn wsX6_digest (wsV RX6 376 RX6 yX6_cleaned wsX6_cleaned) := goodIn_app (goodIn_of _ (by decide +kernel)) ggX6_digest_X6_cleaned
set_option maxRecDepth 20000 in
theorem ggX6_digest_X6_nextIn : GoodIn wsX6_digest wsX6_nextIn := goodIn_ca (goodIn_r _ [358, 8, 9, 307, 308, 309, 6, 310, 11, 21, 22, 23, 24, 25, 26, 70, 71, 72, 73, 12, 13, 74, 75, 76, 77, 78, 79, 80, 81, 30, 82, 32, 33, 83, 84, 85, 86, 87, 88, 89, 90, 91, 65, 66, 67, 68, 69, 92, 48, 49, 37, 50, 51, 52, 53, 54, 55, 39, 56, 40, 41, 42, 311, 312, 313, 314, 315, 316, 317, 318, 359, 360, 361, 362, 363, 364, 365, 366, 372, 373, 374, 375, 376, 377, 378, 379, 380, 381, 382, 383, 384, 385, 386, 387, 388] (by decide +kernel) (by decide +kernel)) (goodIn_sub (fun _ h => List.mem_cons_of_mem _ (List.mem_append_left _ (List.mem_append_right _ h))) (by decide +kernel))
set_option maxRecDepth 20000 in
theorem gX6_digest_X6_nextIn : GoodIn wsX6_digest (wsV RX6 379 RX6 yX6_nextIn wsX6_nextIn) := goodIn_app (goodIn_of _ (by decide +kernel)) ggX6_digest_X6_nextIn
theorem dX6_digest_0 : decode cX6_digest 0 = .ok (.ldc2_w 350, 3) := by decide +kernel
theorem dX6_digest_3 : decode cX6_digest 3 = .ok (.lstore_n 1, 1) := by decide +kernel
theorem dX6_digest_4 : decode cX6_digest 4 = .ok (.iconst 0, 1) := by decide +kernel
theorem dX6_digest_5 : decode cX6_digest 5 = .ok (.istore_n 3, 1) := by decide +kernel
theorem dX6_digest_6 : decode cX6_digest 6 = .ok (.iload_n 3, 1) := by decide +kernel
theorem dX6_digest_7 : decode cX6_digest 7 = .ok (.bipush 11, 2) := by decide +kernel
theorem dX6_digest_9 : decode cX6_digest 9 = .ok (.if_icmp .gt 22, 3) := by decide +kernel
theorem dX6_digest_12 : decode cX6_digest 12 = .ok (.lload_n 1, 1) := by decide +kernel
theorem dX6_digest_13 : decode cX6_digest 13 = .ok (.ldc2_w 352, 3) := by decide +kernel
theorem dX6_digest_16 : decode cX6_digest 16 = .ok (.lmul, 1) := by decide +kernel
theorem dX6_digest_17 : decode cX6_digest 17 = .ok (.aload_n 0, 1) := by decide +kernel
theorem dX6_digest_18 : decode cX6_digest 18 = .ok (.iload_n 3, 1) := by decide +kernel
theorem dX6_digest_19 : decode cX6_digest 19 = .ok (.invokevirtual 354, 3) := by decide +kernel
theorem dX6_digest_22 : decode cX6_digest 22 = .ok (.i2l, 1) := by decide +kernel
theorem dX6_digest_23 : decode cX6_digest 23 = .ok (.ladd, 1) := by decide +kernel
theorem dX6_digest_24 : decode cX6_digest 24 = .ok (.lstore_n 1, 1) := by decide +kernel
theorem dX6_digest_25 : decode cX6_digest 25 = .ok (.iinc 3 1, 3) := by decide +kernel
theorem dX6_digest_28 : decode cX6_digest 28 = .ok (.goto (-22), 3) := by decide +kernel
theorem dX6_digest_31 : decode cX6_digest 31 = .ok (.aload_n 0, 1) := by decide +kernel
theorem dX6_digest_32 : decode cX6_digest 32 = .ok (.lload_n 1, 1) := by decide +kernel
theorem dX6_digest_33 : decode cX6_digest 33 = .ok (.invokevirtual 357, 3) := by decide +kernel
theorem dX6_digest_36 : decode cX6_digest 36 = .ok (.lstore_n 1, 1) := by decide +kernel
theorem dX6_digest_37 : decode cX6_digest 37 = .ok (.aload_n 0, 1) := by decide +kernel
theorem dX6_digest_38 : decode cX6_digest 38 = .ok (.lload_n 1, 1) := by decide +kernel
theorem dX6_digest_39 : decode cX6_digest 39 = .ok (.invokevirtual 361, 3) := by decide +kernel
theorem dX6_digest_42 : decode cX6_digest 42 = .ok (.lstore_n 1, 1) := by decide +kernel
theorem dX6_digest_43 : decode cX6_digest 43 = .ok (.aload_n 0, 1) := by decide +kernel
theorem dX6_digest_44 : decode cX6_digest 44 = .ok (.lload_n 1, 1) := by decide +kernel
theorem dX6_digest_45 : decode cX6_digest 45 = .ok (.invokevirtual 364, 3) := by decide +kernel
theorem dX6_digest_48 : decode cX6_digest 48 = .ok (.lstore_n 1, 1) := by decide +kernel
theorem dX6_digest_49 : decode cX6_digest 49 = .ok (.aload_n 0, 1) := by decide +kernel
theorem dX6_digest_50 : decode cX6_digest 50 = .ok (.lload_n 1, 1) := by decide +kernel
theorem dX6_digest_51 : decode cX6_digest 51 = .ok (.invokevirtual 367, 3) := by decide +kernel
theorem dX6_digest_54 : decode cX6_digest 54 = .ok (.lstore_n 1, 1) := by decide +kernel
theorem dX6_digest_55 : decode cX6_digest 55 = .ok (.lload_n 1, 1) := by decide +kernel
theorem dX6_digest_56 : decode cX6_digest 56 = .ok (.ldc2_w 352, 3) := by decide +kernel
theorem dX6_digest_59 : decode cX6_digest 59 = .ok (.lmul, 1) := by decide +kernel
theorem dX6_digest_60 : decode cX6_digest 60 = .ok (.aload_n 0, 1) := by decide +kernel
theorem dX6_digest_61 : decode cX6_digest 61 = .ok (.invokevirtual 370, 3) := by decide +kernel
theorem dX6_digest_64 : decode cX6_digest 64 = .ok (.i2l, 1) := by decide +kernel
theorem dX6_digest_65 : decode cX6_digest 65 = .ok (.ladd, 1) := by decide +kernel
theorem dX6_digest_66 : decode cX6_digest 66 = .ok (.lstore_n 1, 1) := by decide +kernel
theorem dX6_digest_67 : decode cX6_digest 67 = .ok (.lload_n 1, 1) := by decide +kernel
theorem dX6_digest_68 : decode cX6_digest 68 = .ok (.ldc2_w 352, 3) := by decide +kernel
theorem dX6_digest_71 : decode cX6_digest 71 = .ok (.lmul, 1) := by decide +kernel
theorem dX6_digest_72 : decode cX6_digest 72 = .ok (.aload_n 0, 1) := by decide +kernel
theorem dX6_digest_73 : decode cX6_digest 73 = .ok (.invokevirtual 373, 3) := by decide +kernel
theorem dX6_digest_76 : decode cX6_digest 76 = .ok (.i2l, 1) := by decide +kernel
theorem dX6_digest_77 : decode cX6_digest 77 = .ok (.ladd, 1) := by decide +kernel
theorem dX6_digest_78 : decode cX6_digest 78 = .ok (.lstore_n 1, 1) := by decide +kernel
theorem dX6_digest_79 : decode cX6_digest 79 = .ok (.lload_n 1, 1) := by decide +kernel
theorem dX6_digest_80 : decode cX6_digest 80 = .ok (.ldc2_w 352, 3) := by decide +kernel
theorem dX6_digest_83 : decode cX6_digest 83 = .ok (.lmul, 1) := by decide +kernel
theorem dX6_digest_84 : decode cX6_digest 84 = .ok (.aload_n 0, 1) := by decide +kernel
theorem dX6_digest_85 : decode cX6_digest 85 = .ok (.invokevirtual 376, 3) := by decide +kernel
theorem dX6_digest_88 : decode cX6_digest 88 = .ok (.i2l, 1) := by decide +kernel
theorem dX6_digest_89 : decode cX6_digest 89 = .ok (.ladd, 1) := by decide +kernel
theorem dX6_digest_90 : decode cX6_digest 90 = .ok (.lstore_n 1, 1) := by decide +kernel
theorem dX6_digest_91 : decode cX6_digest 91 = .ok (.lload_n 1, 1) := by decide +kernel
theorem dX6_digest_92 : decode cX6_digest 92 = .ok (.ldc2_w 352, 3) := by decide +kernel
theorem dX6_digest_95 : decode cX6_digest 95 = .ok (.lmul, 1) := by decide +kernel
theorem dX6_digest_96 : decode cX6_digest 96 = .ok (.aload_n 0, 1) := by decide +kernel
theorem dX6_digest_97 : decode cX6_digest 97 = .ok (.iconst 3, 1) := by decide +kernel
theorem dX6_digest_98 : decode cX6_digest 98 = .ok (.invokevirtual 379, 3) := by decide +kernel
theorem dX6_digest_101 : decode cX6_digest 101 = .ok (.i2l, 1) := by decide +kernel
theorem dX6_digest_102 : decode cX6_digest 102 = .ok (.ladd, 1) := by decide +kernel
theorem dX6_digest_103 : decode cX6_digest 103 = .ok (.lreturn, 1) := by decide +kernel
set_option maxRecDepth 20000 in
theorem ggX6_digestCells_X6_ofCell : GoodIn wsX6_digestCells wsX6_ofCell := goodIn_ca (goodIn_ca (goodIn_r _ [6, 7, 8, 9, 10, 11, 12, 5, 13, 14, 15, 16, 17, 18, 19, 20, 21, 22, 23, 24, 25, 26, 27, 28, 29, 30, 31, 32, 33, 34, 35, 36, 37, 38, 39, 40, 41, 42, 43, 44, 45, 46, 47, 48, 49, 50, 51, 52, 53, 54, 55, 56, 57, 58, 59, 60, 61, 62, 63, 64, 65, 66, 67, 68, 69, 70, 71, 72, 73, 74, 75, 76, 77, 78, 79, 80, 81, 82, 83, 84, 85, 86, 87, 88, 89, 90, 91, 92, 93, 94, 95, 96, 97, 98, 99, 100, 101, 102, 103, 104, 105, 106, 107, 108, 109, 110, 111, 112, 113, 114, 115, 116, 117] (by decide +kernel) (by decide +kernel)) (goodIn_sub (fun _ h => List.mem_cons_of_mem _ (List.mem_append_left _ (List.mem_append_right _ h))) (by decide +kernel))) (goodIn_sub (fun _ h => List.mem_cons_of_mem _ (List.mem_append_right _ h)) (by decide +kernel))
set_option maxRecDepth 20000 in
theorem gX6_digestCells_X6_ofCell : GoodIn wsX6_digestCells (wsV RX6 382 RX6 yX6_ofCell wsX6_ofCell) := goodIn_app (goodIn_of _ (by decide +kernel)) ggX6_digestCells_X6_ofCell
theorem dX6_digestCells_0 : decode cX6_digestCells 0 = .ok (.lload_n 1, 1) := by decide +kernel
theorem dX6_digestCells_1 : decode cX6_digestCells 1 = .ok (.lstore_n 3, 1) := by decide +kernel
theorem dX6_digestCells_2 : decode cX6_digestCells 2 = .ok (.iconst 0, 1) := by decide +kernel
theorem dX6_digestCells_3 : decode cX6_digestCells 3 = .ok (.istore 5, 2) := by decide +kernel
theorem dX6_digestCells_5 : decode cX6_digestCells 5 = .ok (.iload 5, 2) := by decide +kernel
theorem dX6_digestCells_7 : decode cX6_digestCells 7 = .ok (.iconst 3, 1) := by decide +kernel
theorem dX6_digestCells_8 : decode cX6_digestCells 8 = .ok (.if_icmp .ge 57, 3) := by decide +kernel
theorem dX6_digestCells_11 : decode cX6_digestCells 11 = .ok (.iconst 0, 1) := by decide +kernel
theorem dX6_digestCells_12 : decode cX6_digestCells 12 = .ok (.istore 6, 2) := by decide +kernel
theorem dX6_digestCells_14 : decode cX6_digestCells 14 = .ok (.iload 6, 2) := by decide +kernel
theorem dX6_digestCells_16 : decode cX6_digestCells 16 = .ok (.iconst 2, 1) := by decide +kernel
theorem dX6_digestCells_17 : decode cX6_digestCells 17 = .ok (.if_icmp .ge 42, 3) := by decide +kernel
theorem dX6_digestCells_20 : decode cX6_digestCells 20 = .ok (.iconst 0, 1) := by decide +kernel
theorem dX6_digestCells_21 : decode cX6_digestCells 21 = .ok (.istore 7, 2) := by decide +kernel
theorem dX6_digestCells_23 : decode cX6_digestCells 23 = .ok (.iload 7, 2) := by decide +kernel
theorem dX6_digestCells_25 : decode cX6_digestCells 25 = .ok (.iconst 4, 1) := by decide +kernel
theorem dX6_digestCells_26 : decode cX6_digestCells 26 = .ok (.if_icmp .gt 27, 3) := by decide +kernel
theorem dX6_digestCells_29 : decode cX6_digestCells 29 = .ok (.lload_n 3, 1) := by decide +kernel
theorem dX6_digestCells_30 : decode cX6_digestCells 30 = .ok (.ldc2_w 352, 3) := by decide +kernel
theorem dX6_digestCells_33 : decode cX6_digestCells 33 = .ok (.lmul, 1) := by decide +kernel
theorem dX6_digestCells_34 : decode cX6_digestCells 34 = .ok (.aload_n 0, 1) := by decide +kernel
theorem dX6_digestCells_35 : decode cX6_digestCells 35 = .ok (.iload 5, 2) := by decide +kernel
theorem dX6_digestCells_37 : decode cX6_digestCells 37 = .ok (.iload 6, 2) := by decide +kernel
theorem dX6_digestCells_39 : decode cX6_digestCells 39 = .ok (.iload 7, 2) := by decide +kernel
theorem dX6_digestCells_41 : decode cX6_digestCells 41 = .ok (.invokevirtual 382, 3) := by decide +kernel
theorem dX6_digestCells_44 : decode cX6_digestCells 44 = .ok (.i2l, 1) := by decide +kernel
theorem dX6_digestCells_45 : decode cX6_digestCells 45 = .ok (.ladd, 1) := by decide +kernel
theorem dX6_digestCells_46 : decode cX6_digestCells 46 = .ok (.lstore_n 3, 1) := by decide +kernel
theorem dX6_digestCells_47 : decode cX6_digestCells 47 = .ok (.iinc 7 1, 3) := by decide +kernel
theorem dX6_digestCells_50 : decode cX6_digestCells 50 = .ok (.goto (-27), 3) := by decide +kernel
theorem dX6_digestCells_53 : decode cX6_digestCells 53 = .ok (.iinc 6 1, 3) := by decide +kernel
theorem dX6_digestCells_56 : decode cX6_digestCells 56 = .ok (.goto (-42), 3) := by decide +kernel
theorem dX6_digestCells_59 : decode cX6_digestCells 59 = .ok (.iinc 5 1, 3) := by decide +kernel
theorem dX6_digestCells_62 : decode cX6_digestCells 62 = .ok (.goto (-57), 3) := by decide +kernel
theorem dX6_digestCells_65 : decode cX6_digestCells 65 = .ok (.lload_n 3, 1) := by decide +kernel
theorem dX6_digestCells_66 : decode cX6_digestCells 66 = .ok (.lreturn, 1) := by decide +kernel
set_option maxRecDepth 20000 in
theorem ggX6_digestPeople_X1_size : GoodIn wsX6_digestPeople wsX1_size := goodIn_r _ [7, 8, 88, 89, 90, 91, 92, 93] (by decide +kernel) (by decide +kernel)
set_option maxRecDepth 20000 in
theorem gX6_digestPeople_X1_size : GoodIn wsX6_digestPeople (wsV RX6 116 RX1 yX1_size wsX1_size) := goodIn_app (goodIn_of _ (by decide +kernel)) ggX6_digestPeople_X1_size
set_option maxRecDepth 20000 in
theorem ggX6_digestPeople_X6_ofPerson : GoodIn wsX6_digestPeople wsX6_ofPerson := goodIn_ca (goodIn_ca (goodIn_r _ [13, 14, 15, 1, 16, 17, 18, 12, 19, 20, 21, 3, 4, 5, 6, 7, 8, 22, 23, 24, 25, 26, 27, 28, 29, 30, 31, 32, 33, 34, 35, 36, 37, 38, 39, 40, 41, 42, 43, 44, 45, 46, 47, 48, 49, 50, 51, 52, 53, 54, 55, 56, 57, 58, 59, 60, 61, 62, 63, 64, 65, 66, 67, 68, 69, 70, 71, 72, 73, 74, 75, 76, 77, 78, 79, 80, 81, 82, 83, 84, 85, 86, 87, 88, 89, 90, 91, 92, 93, 94, 95, 96, 97, 98, 99, 100, 101, 102, 103, 104] (by decide +kernel) (by decide +kernel)) (goodIn_sub (fun _ h => List.mem_cons_of_mem _ (List.mem_append_left _ (List.mem_append_right _ h))) (by decide +kernel))) (goodIn_sub (fun _ h => List.mem_cons_of_mem _ (List.mem_append_right _ h)) (by decide +kernel))
set_option maxRecDepth 20000 in
theorem gX6_digestPeople_X6_ofPerson : GoodIn wsX6_digestPeople (wsV RX6 385 RX6 yX6_ofPerson wsX6_ofPerson) := goodIn_app (goodIn_of _ (by decide +kernel)) ggX6_digestPeople_X6_ofPerson
theorem dX6_digestPeople_0 : decode cX6_digestPeople 0 = .ok (.lload_n 1, 1) := by decide +kernel
theorem dX6_digestPeople_1 : decode cX6_digestPeople 1 = .ok (.lstore_n 3, 1) := by decide +kernel
theorem dX6_digestPeople_2 : decode cX6_digestPeople 2 = .ok (.iconst 0, 1) := by decide +kernel
theorem dX6_digestPeople_3 : decode cX6_digestPeople 3 = .ok (.istore 5, 2) := by decide +kernel
theorem dX6_digestPeople_5 : decode cX6_digestPeople 5 = .ok (.iload 5, 2) := by decide +kernel
theorem dX6_digestPeople_7 : decode cX6_digestPeople 7 = .ok (.aload_n 0, 1) := by decide +kernel
theorem dX6_digestPeople_8 : decode cX6_digestPeople 8 = .ok (.getfield 26, 3) := by decide +kernel
theorem dX6_digestPeople_11 : decode cX6_digestPeople 11 = .ok (.invokevirtual 116, 3) := by decide +kernel
theorem dX6_digestPeople_14 : decode cX6_digestPeople 14 = .ok (.if_icmp .ge 40, 3) := by decide +kernel
theorem dX6_digestPeople_17 : decode cX6_digestPeople 17 = .ok (.iconst 0, 1) := by decide +kernel
theorem dX6_digestPeople_18 : decode cX6_digestPeople 18 = .ok (.istore 6, 2) := by decide +kernel
theorem dX6_digestPeople_20 : decode cX6_digestPeople 20 = .ok (.iload 6, 2) := by decide +kernel
theorem dX6_digestPeople_22 : decode cX6_digestPeople 22 = .ok (.iconst 5, 1) := by decide +kernel
theorem dX6_digestPeople_23 : decode cX6_digestPeople 23 = .ok (.if_icmp .gt 25, 3) := by decide +kernel
theorem dX6_digestPeople_26 : decode cX6_digestPeople 26 = .ok (.lload_n 3, 1) := by decide +kernel
theorem dX6_digestPeople_27 : decode cX6_digestPeople 27 = .ok (.ldc2_w 352, 3) := by decide +kernel
theorem dX6_digestPeople_30 : decode cX6_digestPeople 30 = .ok (.lmul, 1) := by decide +kernel
theorem dX6_digestPeople_31 : decode cX6_digestPeople 31 = .ok (.aload_n 0, 1) := by decide +kernel
theorem dX6_digestPeople_32 : decode cX6_digestPeople 32 = .ok (.iload 5, 2) := by decide +kernel
theorem dX6_digestPeople_34 : decode cX6_digestPeople 34 = .ok (.iload 6, 2) := by decide +kernel
theorem dX6_digestPeople_36 : decode cX6_digestPeople 36 = .ok (.invokevirtual 385, 3) := by decide +kernel
theorem dX6_digestPeople_39 : decode cX6_digestPeople 39 = .ok (.i2l, 1) := by decide +kernel
theorem dX6_digestPeople_40 : decode cX6_digestPeople 40 = .ok (.ladd, 1) := by decide +kernel
theorem dX6_digestPeople_41 : decode cX6_digestPeople 41 = .ok (.lstore_n 3, 1) := by decide +kernel
theorem dX6_digestPeople_42 : decode cX6_digestPeople 42 = .ok (.iinc 6 1, 3) := by decide +kernel
theorem dX6_digestPeople_45 : decode cX6_digestPeople 45 = .ok (.goto (-25), 3) := by decide +kernel
theorem dX6_digestPeople_48 : decode cX6_digestPeople 48 = .ok (.iinc 5 1, 3) := by decide +kernel
theorem dX6_digestPeople_51 : decode cX6_digestPeople 51 = .ok (.goto (-46), 3) := by decide +kernel
theorem dX6_digestPeople_54 : decode cX6_digestPeople 54 = .ok (.lload_n 3, 1) := by decide +kernel
theorem dX6_digestPeople_55 : decode cX6_digestPeople 55 = .ok (.lreturn, 1) := by decide +kernel
set_option maxRecDepth 20000 in
theorem ggX6_digestInterviews_X0_size : GoodIn wsX6_digestInterviews wsX0_size := goodIn_r _ [8, 9, 103, 104, 105, 106, 107, 108, 109, 110] (by decide +kernel) (by decide +kernel)
set_option maxRecDepth 20000 in
theorem gX6_digestInterviews_X0_size : GoodIn wsX6_digestInterviews (wsV RX6 196 RX0 yX0_size wsX0_size) := goodIn_app (goodIn_of _ (by decide +kernel)) ggX6_digestInterviews_X0_size
set_option maxRecDepth 20000 in
theorem ggX6_digestInterviews_X6_ofInterview : GoodIn wsX6_digestInterviews wsX6_ofInterview := goodIn_ca (goodIn_ca (goodIn_r _ [14, 15, 16, 1, 17, 18, 19, 20, 13, 21, 22, 23, 4, 5, 6, 7, 8, 9, 24, 25, 26, 27, 28, 29, 30, 31, 32, 33, 34, 35, 36, 37, 38, 39, 40, 41, 42, 43, 44, 45, 46, 47, 48, 49, 50, 51, 52, 53, 54, 55, 56, 57, 58, 59, 60, 61, 62, 63, 64, 65, 66, 67, 68, 69, 70, 71, 72, 73, 74, 75, 95, 96, 97, 98, 99, 100, 101, 102, 103, 104, 105, 106, 107, 108, 109, 110, 111] (by decide +kernel) (by decide +kernel)) (goodIn_sub (fun _ h => List.mem_cons_of_mem _ (List.mem_append_left _ (List.mem_append_right _ h))) (by decide +kernel))) (goodIn_sub (fun _ h => List.mem_cons_of_mem _ (List.mem_append_right _ h)) (by decide +kernel))
set_option maxRecDepth 20000 in
theorem gX6_digestInterviews_X6_ofInterview : GoodIn wsX6_digestInterviews (wsV RX6 388 RX6 yX6_ofInterview wsX6_ofInterview) := goodIn_app (goodIn_of _ (by decide +kernel)) ggX6_digestInterviews_X6_ofInterview
set_option maxRecDepth 20000 in
theorem ggX6_digestInterviews_X2_size : GoodIn wsX6_digestInterviews wsX2_size := goodIn_r _ [80, 81, 112, 113, 114, 115, 116] (by decide +kernel) (by decide +kernel)
set_option maxRecDepth 20000 in
theorem gX6_digestInterviews_X2_size : GoodIn wsX6_digestInterviews (wsV RX6 65 RX2 yX2_size wsX2_size) := goodIn_app (goodIn_of _ (by decide +kernel)) ggX6_digestInterviews_X2_size
set_option maxRecDepth 20000 in
theorem ggX6_digestInterviews_X6_given : GoodIn wsX6_digestInterviews wsX6_given := goodIn_ca (goodIn_r _ [85, 1, 18, 19, 20, 13, 21, 22, 23, 4, 5, 6, 7, 8, 9, 86, 87, 88, 89, 3, 90, 91, 92, 79, 93, 81, 94, 72, 73, 74, 75, 95, 96, 97, 98, 99, 100, 101, 102, 103, 104, 105, 106, 107, 108, 109, 110, 112, 113, 114, 115, 116] (by decide +kernel) (by decide +kernel)) (goodIn_sub (fun _ h => List.mem_cons_of_mem _ (List.mem_append_right _ h)) (by decide +kernel))
set_option maxRecDepth 20000 in
theorem gX6_digestInterviews_X6_given : GoodIn wsX6_digestInterviews (wsV RX6 391 RX6 yX6_given wsX6_given) := goodIn_app (goodIn_of _ (by decide +kernel)) ggX6_digestInterviews_X6_given
theorem dX6_digestInterviews_0 : decode cX6_digestInterviews 0 = .ok (.lload_n 1, 1) := by decide +kernel
theorem dX6_digestInterviews_1 : decode cX6_digestInterviews 1 = .ok (.lstore_n 3, 1) := by decide +kernel
theorem dX6_digestInterviews_2 : decode cX6_digestInterviews 2 = .ok (.iconst 0, 1) := by decide +kernel
theorem dX6_digestInterviews_3 : decode cX6_digestInterviews 3 = .ok (.istore 5, 2) := by decide +kernel
theorem dX6_digestInterviews_5 : decode cX6_digestInterviews 5 = .ok (.iload 5, 2) := by decide +kernel
theorem dX6_digestInterviews_7 : decode cX6_digestInterviews 7 = .ok (.aload_n 0, 1) := by decide +kernel
theorem dX6_digestInterviews_8 : decode cX6_digestInterviews 8 = .ok (.getfield 33, 3) := by decide +kernel
theorem dX6_digestInterviews_11 : decode cX6_digestInterviews 11 = .ok (.invokevirtual 196, 3) := by decide +kernel
theorem dX6_digestInterviews_14 : decode cX6_digestInterviews 14 = .ok (.if_icmp .ge 78, 3) := by decide +kernel
theorem dX6_digestInterviews_17 : decode cX6_digestInterviews 17 = .ok (.iconst 0, 1) := by decide +kernel
theorem dX6_digestInterviews_18 : decode cX6_digestInterviews 18 = .ok (.istore 6, 2) := by decide +kernel
theorem dX6_digestInterviews_20 : decode cX6_digestInterviews 20 = .ok (.iload 6, 2) := by decide +kernel
theorem dX6_digestInterviews_22 : decode cX6_digestInterviews 22 = .ok (.bipush 6, 2) := by decide +kernel
theorem dX6_digestInterviews_24 : decode cX6_digestInterviews 24 = .ok (.if_icmp .gt 25, 3) := by decide +kernel
theorem dX6_digestInterviews_27 : decode cX6_digestInterviews 27 = .ok (.lload_n 3, 1) := by decide +kernel
theorem dX6_digestInterviews_28 : decode cX6_digestInterviews 28 = .ok (.ldc2_w 352, 3) := by decide +kernel
theorem dX6_digestInterviews_31 : decode cX6_digestInterviews 31 = .ok (.lmul, 1) := by decide +kernel
theorem dX6_digestInterviews_32 : decode cX6_digestInterviews 32 = .ok (.aload_n 0, 1) := by decide +kernel
theorem dX6_digestInterviews_33 : decode cX6_digestInterviews 33 = .ok (.iload 5, 2) := by decide +kernel
theorem dX6_digestInterviews_35 : decode cX6_digestInterviews 35 = .ok (.iload 6, 2) := by decide +kernel
theorem dX6_digestInterviews_37 : decode cX6_digestInterviews 37 = .ok (.invokevirtual 388, 3) := by decide +kernel
theorem dX6_digestInterviews_40 : decode cX6_digestInterviews 40 = .ok (.i2l, 1) := by decide +kernel
theorem dX6_digestInterviews_41 : decode cX6_digestInterviews 41 = .ok (.ladd, 1) := by decide +kernel
theorem dX6_digestInterviews_42 : decode cX6_digestInterviews 42 = .ok (.lstore_n 3, 1) := by decide +kernel
theorem dX6_digestInterviews_43 : decode cX6_digestInterviews 43 = .ok (.iinc 6 1, 3) := by decide +kernel
theorem dX6_digestInterviews_46 : decode cX6_digestInterviews 46 = .ok (.goto (-26), 3) := by decide +kernel
theorem dX6_digestInterviews_49 : decode cX6_digestInterviews 49 = .ok (.iconst 0, 1) := by decide +kernel
theorem dX6_digestInterviews_50 : decode cX6_digestInterviews 50 = .ok (.istore 6, 2) := by decide +kernel
theorem dX6_digestInterviews_52 : decode cX6_digestInterviews 52 = .ok (.iload 6, 2) := by decide +kernel
theorem dX6_digestInterviews_54 : decode cX6_digestInterviews 54 = .ok (.aload_n 0, 1) := by decide +kernel
theorem dX6_digestInterviews_55 : decode cX6_digestInterviews 55 = .ok (.getfield 12, 3) := by decide +kernel
theorem dX6_digestInterviews_58 : decode cX6_digestInterviews 58 = .ok (.invokevirtual 65, 3) := by decide +kernel
theorem dX6_digestInterviews_61 : decode cX6_digestInterviews 61 = .ok (.if_icmp .ge 25, 3) := by decide +kernel
theorem dX6_digestInterviews_64 : decode cX6_digestInterviews 64 = .ok (.lload_n 3, 1) := by decide +kernel
theorem dX6_digestInterviews_65 : decode cX6_digestInterviews 65 = .ok (.ldc2_w 352, 3) := by decide +kernel
theorem dX6_digestInterviews_68 : decode cX6_digestInterviews 68 = .ok (.lmul, 1) := by decide +kernel
theorem dX6_digestInterviews_69 : decode cX6_digestInterviews 69 = .ok (.aload_n 0, 1) := by decide +kernel
theorem dX6_digestInterviews_70 : decode cX6_digestInterviews 70 = .ok (.iload 5, 2) := by decide +kernel
theorem dX6_digestInterviews_72 : decode cX6_digestInterviews 72 = .ok (.iload 6, 2) := by decide +kernel
theorem dX6_digestInterviews_74 : decode cX6_digestInterviews 74 = .ok (.invokevirtual 391, 3) := by decide +kernel
theorem dX6_digestInterviews_77 : decode cX6_digestInterviews 77 = .ok (.i2l, 1) := by decide +kernel
theorem dX6_digestInterviews_78 : decode cX6_digestInterviews 78 = .ok (.ladd, 1) := by decide +kernel
theorem dX6_digestInterviews_79 : decode cX6_digestInterviews 79 = .ok (.lstore_n 3, 1) := by decide +kernel
theorem dX6_digestInterviews_80 : decode cX6_digestInterviews 80 = .ok (.iinc 6 1, 3) := by decide +kernel
theorem dX6_digestInterviews_83 : decode cX6_digestInterviews 83 = .ok (.goto (-31), 3) := by decide +kernel
theorem dX6_digestInterviews_86 : decode cX6_digestInterviews 86 = .ok (.iinc 5 1, 3) := by decide +kernel
theorem dX6_digestInterviews_89 : decode cX6_digestInterviews 89 = .ok (.goto (-84), 3) := by decide +kernel
theorem dX6_digestInterviews_92 : decode cX6_digestInterviews 92 = .ok (.lload_n 3, 1) := by decide +kernel
theorem dX6_digestInterviews_93 : decode cX6_digestInterviews 93 = .ok (.lreturn, 1) := by decide +kernel
set_option maxRecDepth 20000 in
theorem ggX6_digestQuestions_X2_size : GoodIn wsX6_digestQuestions wsX2_size := goodIn_r _ [7, 8, 106, 107, 108, 109, 110] (by decide +kernel) (by decide +kernel)
set_option maxRecDepth 20000 in
theorem gX6_digestQuestions_X2_size : GoodIn wsX6_digestQuestions (wsV RX6 65 RX2 yX2_size wsX2_size) := goodIn_app (goodIn_of _ (by decide +kernel)) ggX6_digestQuestions_X2_size
set_option maxRecDepth 20000 in
theorem ggX6_digestQuestions_X2_answersOf : GoodIn wsX6_digestQuestions wsX2_answersOf := goodIn_r _ [12, 13, 106, 107, 108, 109, 110] (by decide +kernel) (by decide +kernel)
set_option maxRecDepth 20000 in
theorem gX6_digestQuestions_X2_answersOf : GoodIn wsX6_digestQuestions (wsV RX6 316 RX2 yX2_answersOf wsX2_answersOf) := goodIn_app (goodIn_of _ (by decide +kernel)) ggX6_digestQuestions_X2_answersOf
set_option maxRecDepth 20000 in
theorem ggX6_digestQuestions_X6_share : GoodIn wsX6_digestQuestions wsX6_share := goodIn_ca (goodIn_r _ [18, 19, 20, 21, 22, 23, 17, 24, 25, 26, 1, 27, 28, 29, 6, 30, 13, 31, 32, 33, 34, 8, 35, 36, 37, 38, 39, 40, 41, 42, 43, 44, 45, 46, 47, 48, 49, 50, 51, 52, 53, 54, 55, 56, 57, 58, 59, 60, 61, 62, 63, 64, 65, 66, 67, 68, 69, 70, 98, 99, 100, 101, 102, 103, 104, 105, 106, 107, 108, 109, 110, 111, 112, 113, 114, 115, 116, 117, 118, 119] (by decide +kernel) (by decide +kernel)) (goodIn_sub (fun _ h => List.mem_cons_of_mem _ (List.mem_append_right _ h)) (by decide +kernel))
set_option maxRecDepth 20000 in
theorem gX6_digestQuestions_X6_share : GoodIn wsX6_digestQuestions (wsV RX6 394 RX6 yX6_share wsX6_share) := goodIn_app (goodIn_of _ (by decide +kernel)) ggX6_digestQuestions_X6_share
set_option maxRecDepth 20000 in
theorem ggX6_digestQuestions_X6_shortest : GoodIn wsX6_digestQuestions wsX6_shortest := goodIn_ca (goodIn_r _ [74, 1, 75, 76, 77, 17, 78, 25, 26, 79, 32, 33, 6, 34, 8, 80, 81, 82, 83, 13, 84, 85, 86, 87, 88, 89, 90, 91, 92, 93, 94, 95, 96, 97, 98, 99, 100, 101, 102, 103, 104, 105, 106, 107, 108, 109, 110] (by decide +kernel) (by decide +kernel)) (goodIn_sub (fun _ h => List.mem_cons_of_mem _ (List.mem_append_right _ h)) (by decide +kernel))
set_option maxRecDepth 20000 in
theorem gX6_digestQuestions_X6_shortest : GoodIn wsX6_digestQuestions (wsV RX6 397 RX6 yX6_shortest wsX6_shortest) := goodIn_app (goodIn_of _ (by decide +kernel)) ggX6_digestQuestions_X6_shortest
theorem dX6_digestQuestions_0 : decode cX6_digestQuestions 0 = .ok (.lload_n 1, 1) := by decide +kernel
theorem dX6_digestQuestions_1 : decode cX6_digestQuestions 1 = .ok (.lstore_n 3, 1) := by decide +kernel
theorem dX6_digestQuestions_2 : decode cX6_digestQuestions 2 = .ok (.iconst 0, 1) := by decide +kernel
theorem dX6_digestQuestions_3 : decode cX6_digestQuestions 3 = .ok (.istore 5, 2) := by decide +kernel
theorem dX6_digestQuestions_5 : decode cX6_digestQuestions 5 = .ok (.iload 5, 2) := by decide +kernel
theorem dX6_digestQuestions_7 : decode cX6_digestQuestions 7 = .ok (.aload_n 0, 1) := by decide +kernel
theorem dX6_digestQuestions_8 : decode cX6_digestQuestions 8 = .ok (.getfield 12, 3) := by decide +kernel
theorem dX6_digestQuestions_11 : decode cX6_digestQuestions 11 = .ok (.invokevirtual 65, 3) := by decide +kernel
theorem dX6_digestQuestions_14 : decode cX6_digestQuestions 14 = .ok (.if_icmp .ge 63, 3) := by decide +kernel
theorem dX6_digestQuestions_17 : decode cX6_digestQuestions 17 = .ok (.iconst 0, 1) := by decide +kernel
theorem dX6_digestQuestions_18 : decode cX6_digestQuestions 18 = .ok (.istore 6, 2) := by decide +kernel
theorem dX6_digestQuestions_20 : decode cX6_digestQuestions 20 = .ok (.iload 6, 2) := by decide +kernel
theorem dX6_digestQuestions_22 : decode cX6_digestQuestions 22 = .ok (.aload_n 0, 1) := by decide +kernel
theorem dX6_digestQuestions_23 : decode cX6_digestQuestions 23 = .ok (.getfield 12, 3) := by decide +kernel
theorem dX6_digestQuestions_26 : decode cX6_digestQuestions 26 = .ok (.iload 5, 2) := by decide +kernel
theorem dX6_digestQuestions_28 : decode cX6_digestQuestions 28 = .ok (.invokevirtual 316, 3) := by decide +kernel
theorem dX6_digestQuestions_31 : decode cX6_digestQuestions 31 = .ok (.if_icmp .ge 26, 3) := by decide +kernel
theorem dX6_digestQuestions_34 : decode cX6_digestQuestions 34 = .ok (.lload_n 3, 1) := by decide +kernel
theorem dX6_digestQuestions_35 : decode cX6_digestQuestions 35 = .ok (.ldc2_w 352, 3) := by decide +kernel
theorem dX6_digestQuestions_38 : decode cX6_digestQuestions 38 = .ok (.lmul, 1) := by decide +kernel
theorem dX6_digestQuestions_39 : decode cX6_digestQuestions 39 = .ok (.aload_n 0, 1) := by decide +kernel
theorem dX6_digestQuestions_40 : decode cX6_digestQuestions 40 = .ok (.iload 5, 2) := by decide +kernel
theorem dX6_digestQuestions_42 : decode cX6_digestQuestions 42 = .ok (.iload 6, 2) := by decide +kernel
theorem dX6_digestQuestions_44 : decode cX6_digestQuestions 44 = .ok (.iconst (-1), 1) := by decide +kernel
theorem dX6_digestQuestions_45 : decode cX6_digestQuestions 45 = .ok (.invokevirtual 394, 3) := by decide +kernel
theorem dX6_digestQuestions_48 : decode cX6_digestQuestions 48 = .ok (.i2l, 1) := by decide +kernel
theorem dX6_digestQuestions_49 : decode cX6_digestQuestions 49 = .ok (.ladd, 1) := by decide +kernel
theorem dX6_digestQuestions_50 : decode cX6_digestQuestions 50 = .ok (.lstore_n 3, 1) := by decide +kernel
theorem dX6_digestQuestions_51 : decode cX6_digestQuestions 51 = .ok (.iinc 6 1, 3) := by decide +kernel
theorem dX6_digestQuestions_54 : decode cX6_digestQuestions 54 = .ok (.goto (-34), 3) := by decide +kernel
theorem dX6_digestQuestions_57 : decode cX6_digestQuestions 57 = .ok (.lload_n 3, 1) := by decide +kernel
theorem dX6_digestQuestions_58 : decode cX6_digestQuestions 58 = .ok (.ldc2_w 352, 3) := by decide +kernel
theorem dX6_digestQuestions_61 : decode cX6_digestQuestions 61 = .ok (.lmul, 1) := by decide +kernel
theorem dX6_digestQuestions_62 : decode cX6_digestQuestions 62 = .ok (.aload_n 0, 1) := by decide +kernel
theorem dX6_digestQuestions_63 : decode cX6_digestQuestions 63 = .ok (.iload 5, 2) := by decide +kernel
theorem dX6_digestQuestions_65 : decode cX6_digestQuestions 65 = .ok (.invokevirtual 397, 3) := by decide +kernel
theorem dX6_digestQuestions_68 : decode cX6_digestQuestions 68 = .ok (.i2l, 1) := by decide +kernel
theorem dX6_digestQuestions_69 : decode cX6_digestQuestions 69 = .ok (.ladd, 1) := by decide +kernel
theorem dX6_digestQuestions_70 : decode cX6_digestQuestions 70 = .ok (.lstore_n 3, 1) := by decide +kernel
theorem dX6_digestQuestions_71 : decode cX6_digestQuestions 71 = .ok (.iinc 5 1, 3) := by decide +kernel
theorem dX6_digestQuestions_74 : decode cX6_digestQuestions 74 = .ok (.goto (-69), 3) := by decide +kernel
theorem dX6_digestQuestions_77 : decode cX6_digestQuestions 77 = .ok (.lload_n 3, 1) := by decide +kernel
theorem dX6_digestQuestions_78 : decode cX6_digestQuestions 78 = .ok (.lreturn, 1) := by decide +kernel
set_option maxRecDepth 20000 in
theorem ggX6_needNoInterview_X0_size : GoodIn wsX6_needNoInterview wsX0_size := goodIn_r _ [8, 9, 18, 19, 20, 21, 22, 23, 24, 25] (by decide +kernel) (by decide +kernel)
set_option maxRecDepth 20000 in
theorem gX6_needNoInterview_X0_size : GoodIn wsX6_needNoInterview (wsV RX6 196 RX0 yX0_size wsX0_size) := goodIn_app (goodIn_of _ (by decide +kernel)) ggX6_needNoInterview_X0_size
theorem dX6_needNoInterview_0 : decode cX6_needNoInterview 0 = .ok (.aload_n 0, 1) := by decide +kernel
theorem dX6_needNoInterview_1 : decode cX6_needNoInterview 1 = .ok (.getfield 33, 3) := by decide +kernel
theorem dX6_needNoInterview_4 : decode cX6_needNoInterview 4 = .ok (.invokevirtual 196, 3) := by decide +kernel
theorem dX6_needNoInterview_7 : decode cX6_needNoInterview 7 = .ok (.ifCond .le 14, 3) := by decide +kernel
theorem dX6_needNoInterview_10 : decode cX6_needNoInterview 10 = .ok (.new 69, 3) := by decide +kernel
theorem dX6_needNoInterview_13 : decode cX6_needNoInterview 13 = .ok (.dup, 1) := by decide +kernel
theorem dX6_needNoInterview_14 : decode cX6_needNoInterview 14 = .ok (.ldc_w 400, 3) := by decide +kernel
theorem dX6_needNoInterview_17 : decode cX6_needNoInterview 17 = .ok (.invokespecial 73, 3) := by decide +kernel
theorem dX6_needNoInterview_20 : decode cX6_needNoInterview 20 = .ok (.athrow, 1) := by decide +kernel
theorem dX6_needNoInterview_21 : decode cX6_needNoInterview 21 = .ok (.return_, 1) := by decide +kernel
set_option maxRecDepth 20000 in
theorem ggX6_needQuestion_X2_has : GoodIn wsX6_needQuestion wsX2_has := goodIn_r _ [8, 9, 18, 19, 20, 21, 22] (by decide +kernel) (by decide +kernel)
set_option maxRecDepth 20000 in
theorem gX6_needQuestion_X2_has : GoodIn wsX6_needQuestion (wsV RX6 402 RX2 yX2_has wsX2_has) := goodIn_app (goodIn_of _ (by decide +kernel)) ggX6_needQuestion_X2_has
theorem dX6_needQuestion_0 : decode cX6_needQuestion 0 = .ok (.aload_n 0, 1) := by decide +kernel
theorem dX6_needQuestion_1 : decode cX6_needQuestion 1 = .ok (.getfield 12, 3) := by decide +kernel
theorem dX6_needQuestion_4 : decode cX6_needQuestion 4 = .ok (.iload_n 1, 1) := by decide +kernel
theorem dX6_needQuestion_5 : decode cX6_needQuestion 5 = .ok (.invokevirtual 402, 3) := by decide +kernel
theorem dX6_needQuestion_8 : decode cX6_needQuestion 8 = .ok (.ifCond .ne 14, 3) := by decide +kernel
theorem dX6_needQuestion_11 : decode cX6_needQuestion 11 = .ok (.new 322, 3) := by decide +kernel
theorem dX6_needQuestion_14 : decode cX6_needQuestion 14 = .ok (.dup, 1) := by decide +kernel
theorem dX6_needQuestion_15 : decode cX6_needQuestion 15 = .ok (.ldc_w 405, 3) := by decide +kernel
theorem dX6_needQuestion_18 : decode cX6_needQuestion 18 = .ok (.invokespecial 326, 3) := by decide +kernel
theorem dX6_needQuestion_21 : decode cX6_needQuestion 21 = .ok (.athrow, 1) := by decide +kernel
theorem dX6_needQuestion_22 : decode cX6_needQuestion 22 = .ok (.return_, 1) := by decide +kernel
set_option maxRecDepth 20000 in
theorem ggX6_needAnswer_X2_offers : GoodIn wsX6_needAnswer wsX2_offers := goodIn_r _ [8, 9, 10, 11, 12, 7, 13, 14, 23, 24, 25, 26, 27] (by decide +kernel) (by decide +kernel)
set_option maxRecDepth 20000 in
theorem gX6_needAnswer_X2_offers : GoodIn wsX6_needAnswer (wsV RX6 221 RX2 yX2_offers wsX2_offers) := goodIn_app (goodIn_of _ (by decide +kernel)) ggX6_needAnswer_X2_offers
theorem dX6_needAnswer_0 : decode cX6_needAnswer 0 = .ok (.aload_n 0, 1) := by decide +kernel
theorem dX6_needAnswer_1 : decode cX6_needAnswer 1 = .ok (.getfield 12, 3) := by decide +kernel
theorem dX6_needAnswer_4 : decode cX6_needAnswer 4 = .ok (.iload_n 1, 1) := by decide +kernel
theorem dX6_needAnswer_5 : decode cX6_needAnswer 5 = .ok (.iload_n 2, 1) := by decide +kernel
theorem dX6_needAnswer_6 : decode cX6_needAnswer 6 = .ok (.invokevirtual 221, 3) := by decide +kernel
theorem dX6_needAnswer_9 : decode cX6_needAnswer 9 = .ok (.ifCond .ne 14, 3) := by decide +kernel
theorem dX6_needAnswer_12 : decode cX6_needAnswer 12 = .ok (.new 322, 3) := by decide +kernel
theorem dX6_needAnswer_15 : decode cX6_needAnswer 15 = .ok (.dup, 1) := by decide +kernel
theorem dX6_needAnswer_16 : decode cX6_needAnswer 16 = .ok (.ldc_w 407, 3) := by decide +kernel
theorem dX6_needAnswer_19 : decode cX6_needAnswer 19 = .ok (.invokespecial 326, 3) := by decide +kernel
theorem dX6_needAnswer_22 : decode cX6_needAnswer 22 = .ok (.athrow, 1) := by decide +kernel
theorem dX6_needAnswer_23 : decode cX6_needAnswer 23 = .ok (.return_, 1) := by decide +kernel
set_option maxRecDepth 20000 in
theorem ggX6_needPerson_X1_size : GoodIn wsX6_needPerson wsX1_size := goodIn_r _ [8, 9, 18, 19, 20, 21, 22, 23] (by decide +kernel) (by decide +kernel)
set_option maxRecDepth 20000 in
theorem gX6_needPerson_X1_size : GoodIn wsX6_needPerson (wsV RX6 116 RX1 yX1_size wsX1_size) := goodIn_app (goodIn_of _ (by decide +kernel)) ggX6_needPerson_X1_size
theorem dX6_needPerson_0 : decode cX6_needPerson 0 = .ok (.iload_n 1, 1) := by decide +kernel
theorem dX6_needPerson_1 : decode cX6_needPerson 1 = .ok (.ifCond .lt 14, 3) := by decide +kernel
theorem dX6_needPerson_4 : decode cX6_needPerson 4 = .ok (.iload_n 1, 1) := by decide +kernel
theorem dX6_needPerson_5 : decode cX6_needPerson 5 = .ok (.aload_n 0, 1) := by decide +kernel
theorem dX6_needPerson_6 : decode cX6_needPerson 6 = .ok (.getfield 26, 3) := by decide +kernel
theorem dX6_needPerson_9 : decode cX6_needPerson 9 = .ok (.invokevirtual 116, 3) := by decide +kernel
theorem dX6_needPerson_12 : decode cX6_needPerson 12 = .ok (.if_icmp .lt 14, 3) := by decide +kernel
theorem dX6_needPerson_15 : decode cX6_needPerson 15 = .ok (.new 322, 3) := by decide +kernel
theorem dX6_needPerson_18 : decode cX6_needPerson 18 = .ok (.dup, 1) := by decide +kernel
theorem dX6_needPerson_19 : decode cX6_needPerson 19 = .ok (.ldc_w 409, 3) := by decide +kernel
theorem dX6_needPerson_22 : decode cX6_needPerson 22 = .ok (.invokespecial 326, 3) := by decide +kernel
theorem dX6_needPerson_25 : decode cX6_needPerson 25 = .ok (.athrow, 1) := by decide +kernel
theorem dX6_needPerson_26 : decode cX6_needPerson 26 = .ok (.return_, 1) := by decide +kernel
set_option maxRecDepth 20000 in
theorem ggX6_needInterview_X0_size : GoodIn wsX6_needInterview wsX0_size := goodIn_r _ [8, 9, 18, 19, 20, 21, 22, 23, 24, 25] (by decide +kernel) (by decide +kernel)
set_option maxRecDepth 20000 in
theorem gX6_needInterview_X0_size : GoodIn wsX6_needInterview (wsV RX6 196 RX0 yX0_size wsX0_size) := goodIn_app (goodIn_of _ (by decide +kernel)) ggX6_needInterview_X0_size
theorem dX6_needInterview_0 : decode cX6_needInterview 0 = .ok (.iload_n 1, 1) := by decide +kernel
theorem dX6_needInterview_1 : decode cX6_needInterview 1 = .ok (.ifCond .lt 14, 3) := by decide +kernel
theorem dX6_needInterview_4 : decode cX6_needInterview 4 = .ok (.iload_n 1, 1) := by decide +kernel
theorem dX6_needInterview_5 : decode cX6_needInterview 5 = .ok (.aload_n 0, 1) := by decide +kernel
theorem dX6_needInterview_6 : decode cX6_needInterview 6 = .ok (.getfield 33, 3) := by decide +kernel
theorem dX6_needInterview_9 : decode cX6_needInterview 9 = .ok (.invokevirtual 196, 3) := by decide +kernel
theorem dX6_needInterview_12 : decode cX6_needInterview 12 = .ok (.if_icmp .lt 14, 3) := by decide +kernel
theorem dX6_needInterview_15 : decode cX6_needInterview 15 = .ok (.new 322, 3) := by decide +kernel
theorem dX6_needInterview_18 : decode cX6_needInterview 18 = .ok (.dup, 1) := by decide +kernel
theorem dX6_needInterview_19 : decode cX6_needInterview 19 = .ok (.ldc_w 411, 3) := by decide +kernel
theorem dX6_needInterview_22 : decode cX6_needInterview 22 = .ok (.invokespecial 326, 3) := by decide +kernel
theorem dX6_needInterview_25 : decode cX6_needInterview 25 = .ok (.athrow, 1) := by decide +kernel
theorem dX6_needInterview_26 : decode cX6_needInterview 26 = .ok (.return_, 1) := by decide +kernel
set_option maxRecDepth 20000 in
theorem ggX6_needA_X6_isA : GoodIn wsX6_needA wsX6_isA := goodIn_r _ [6] (by decide +kernel) (by decide +kernel)
set_option maxRecDepth 20000 in
theorem gX6_needA_X6_isA : GoodIn wsX6_needA (va_wsS RX6 107 yX6_isA wsX6_isA) := goodIn_app (goodIn_of _ (by decide +kernel)) ggX6_needA_X6_isA
theorem dX6_needA_0 : decode cX6_needA 0 = .ok (.iload_n 0, 1) := by decide +kernel
theorem dX6_needA_1 : decode cX6_needA 1 = .ok (.invokestatic 107, 3) := by decide +kernel
theorem dX6_needA_4 : decode cX6_needA 4 = .ok (.ifCond .ne 14, 3) := by decide +kernel
theorem dX6_needA_7 : decode cX6_needA 7 = .ok (.new 322, 3) := by decide +kernel
theorem dX6_needA_10 : decode cX6_needA 10 = .ok (.dup, 1) := by decide +kernel
theorem dX6_needA_11 : decode cX6_needA 11 = .ok (.ldc_w 413, 3) := by decide +kernel
theorem dX6_needA_14 : decode cX6_needA 14 = .ok (.invokespecial 326, 3) := by decide +kernel
theorem dX6_needA_17 : decode cX6_needA 17 = .ok (.athrow, 1) := by decide +kernel
theorem dX6_needA_18 : decode cX6_needA 18 = .ok (.return_, 1) := by decide +kernel
set_option maxRecDepth 20000 in
theorem ggX6_needCell_X6_isA : GoodIn wsX6_needCell wsX6_isA := goodIn_r _ [6] (by decide +kernel) (by decide +kernel)
set_option maxRecDepth 20000 in
theorem gX6_needCell_X6_isA : GoodIn wsX6_needCell (va_wsS RX6 107 yX6_isA wsX6_isA) := goodIn_app (goodIn_of _ (by decide +kernel)) ggX6_needCell_X6_isA
set_option maxRecDepth 20000 in
theorem ggX6_needCell_X6_isB : GoodIn wsX6_needCell wsX6_isB := goodIn_r _ [9] (by decide +kernel) (by decide +kernel)
set_option maxRecDepth 20000 in
theorem gX6_needCell_X6_isB : GoodIn wsX6_needCell (va_wsS RX6 111 yX6_isB wsX6_isB) := goodIn_app (goodIn_of _ (by decide +kernel)) ggX6_needCell_X6_isB
theorem dX6_needCell_0 : decode cX6_needCell 0 = .ok (.iload_n 0, 1) := by decide +kernel
theorem dX6_needCell_1 : decode cX6_needCell 1 = .ok (.invokestatic 107, 3) := by decide +kernel
theorem dX6_needCell_4 : decode cX6_needCell 4 = .ok (.ifCond .eq 10, 3) := by decide +kernel
theorem dX6_needCell_7 : decode cX6_needCell 7 = .ok (.iload_n 1, 1) := by decide +kernel
theorem dX6_needCell_8 : decode cX6_needCell 8 = .ok (.invokestatic 111, 3) := by decide +kernel
theorem dX6_needCell_11 : decode cX6_needCell 11 = .ok (.ifCond .ne 13, 3) := by decide +kernel
theorem dX6_needCell_14 : decode cX6_needCell 14 = .ok (.new 322, 3) := by decide +kernel
theorem dX6_needCell_17 : decode cX6_needCell 17 = .ok (.dup, 1) := by decide +kernel
theorem dX6_needCell_18 : decode cX6_needCell 18 = .ok (.ldc 114, 2) := by decide +kernel
theorem dX6_needCell_20 : decode cX6_needCell 20 = .ok (.invokespecial 326, 3) := by decide +kernel
theorem dX6_needCell_23 : decode cX6_needCell 23 = .ok (.athrow, 1) := by decide +kernel
theorem dX6_needCell_24 : decode cX6_needCell 24 = .ok (.return_, 1) := by decide +kernel
theorem dX6_needRounds_0 : decode cX6_needRounds 0 = .ok (.iload_n 0, 1) := by decide +kernel
theorem dX6_needRounds_1 : decode cX6_needRounds 1 = .ok (.ifCond .lt 9, 3) := by decide +kernel
theorem dX6_needRounds_4 : decode cX6_needRounds 4 = .ok (.iload_n 0, 1) := by decide +kernel
theorem dX6_needRounds_5 : decode cX6_needRounds 5 = .ok (.bipush 9, 2) := by decide +kernel
theorem dX6_needRounds_7 : decode cX6_needRounds 7 = .ok (.if_icmp .le 14, 3) := by decide +kernel
theorem dX6_needRounds_10 : decode cX6_needRounds 10 = .ok (.new 58, 3) := by decide +kernel
theorem dX6_needRounds_13 : decode cX6_needRounds 13 = .ok (.dup, 1) := by decide +kernel
theorem dX6_needRounds_14 : decode cX6_needRounds 14 = .ok (.ldc_w 415, 3) := by decide +kernel
theorem dX6_needRounds_17 : decode cX6_needRounds 17 = .ok (.invokespecial 62, 3) := by decide +kernel
theorem dX6_needRounds_20 : decode cX6_needRounds 20 = .ok (.athrow, 1) := by decide +kernel
theorem dX6_needRounds_21 : decode cX6_needRounds 21 = .ok (.return_, 1) := by decide +kernel
theorem dX6_isA_0 : decode cX6_isA 0 = .ok (.iload_n 0, 1) := by decide +kernel
theorem dX6_isA_1 : decode cX6_isA 1 = .ok (.ifCond .lt 12, 3) := by decide +kernel
theorem dX6_isA_4 : decode cX6_isA 4 = .ok (.iload_n 0, 1) := by decide +kernel
theorem dX6_isA_5 : decode cX6_isA 5 = .ok (.iconst 3, 1) := by decide +kernel
theorem dX6_isA_6 : decode cX6_isA 6 = .ok (.if_icmp .ge 7, 3) := by decide +kernel
theorem dX6_isA_9 : decode cX6_isA 9 = .ok (.iconst 1, 1) := by decide +kernel
theorem dX6_isA_10 : decode cX6_isA 10 = .ok (.goto 4, 3) := by decide +kernel
theorem dX6_isA_13 : decode cX6_isA 13 = .ok (.iconst 0, 1) := by decide +kernel
theorem dX6_isA_14 : decode cX6_isA 14 = .ok (.ireturn, 1) := by decide +kernel
theorem dX6_isB_0 : decode cX6_isB 0 = .ok (.iload_n 0, 1) := by decide +kernel
theorem dX6_isB_1 : decode cX6_isB 1 = .ok (.ifCond .lt 12, 3) := by decide +kernel
theorem dX6_isB_4 : decode cX6_isB 4 = .ok (.iload_n 0, 1) := by decide +kernel
theorem dX6_isB_5 : decode cX6_isB 5 = .ok (.iconst 2, 1) := by decide +kernel
theorem dX6_isB_6 : decode cX6_isB 6 = .ok (.if_icmp .ge 7, 3) := by decide +kernel
theorem dX6_isB_9 : decode cX6_isB 9 = .ok (.iconst 1, 1) := by decide +kernel
theorem dX6_isB_10 : decode cX6_isB 10 = .ok (.goto 4, 3) := by decide +kernel
theorem dX6_isB_13 : decode cX6_isB 13 = .ok (.iconst 0, 1) := by decide +kernel
theorem dX6_isB_14 : decode cX6_isB 14 = .ok (.ireturn, 1) := by decide +kernel
theorem dX6_cellAt_0 : decode cX6_cellAt 0 = .ok (.iload_n 0, 1) := by decide +kernel
theorem dX6_cellAt_1 : decode cX6_cellAt 1 = .ok (.iconst 2, 1) := by decide +kernel
theorem dX6_cellAt_2 : decode cX6_cellAt 2 = .ok (.imul, 1) := by decide +kernel
theorem dX6_cellAt_3 : decode cX6_cellAt 3 = .ok (.iload_n 1, 1) := by decide +kernel
theorem dX6_cellAt_4 : decode cX6_cellAt 4 = .ok (.iadd, 1) := by decide +kernel
theorem dX6_cellAt_5 : decode cX6_cellAt 5 = .ok (.ireturn, 1) := by decide +kernel
theorem dX6_aOf_0 : decode cX6_aOf 0 = .ok (.iload_n 0, 1) := by decide +kernel
theorem dX6_aOf_1 : decode cX6_aOf 1 = .ok (.iconst 2, 1) := by decide +kernel
theorem dX6_aOf_2 : decode cX6_aOf 2 = .ok (.idiv, 1) := by decide +kernel
theorem dX6_aOf_3 : decode cX6_aOf 3 = .ok (.ireturn, 1) := by decide +kernel
theorem dX6_bOf_0 : decode cX6_bOf 0 = .ok (.iload_n 0, 1) := by decide +kernel
theorem dX6_bOf_1 : decode cX6_bOf 1 = .ok (.iconst 2, 1) := by decide +kernel
theorem dX6_bOf_2 : decode cX6_bOf 2 = .ok (.irem, 1) := by decide +kernel
theorem dX6_bOf_3 : decode cX6_bOf 3 = .ok (.ireturn, 1) := by decide +kernel
set_option maxRecDepth 20000 in
theorem ggX6_isIn_X6_aOf : GoodIn wsX6_isIn wsX6_aOf := goodIn_r _ [4] (by decide +kernel) (by decide +kernel)
set_option maxRecDepth 20000 in
theorem gX6_isIn_X6_aOf : GoodIn wsX6_isIn (va_wsS RX6 165 yX6_aOf wsX6_aOf) := goodIn_app (goodIn_of _ (by decide +kernel)) ggX6_isIn_X6_aOf
set_option maxRecDepth 20000 in
theorem ggX6_isIn_X6_bOf : GoodIn wsX6_isIn wsX6_bOf := goodIn_r _ [7] (by decide +kernel) (by decide +kernel)
set_option maxRecDepth 20000 in
theorem gX6_isIn_X6_bOf : GoodIn wsX6_isIn (va_wsS RX6 168 yX6_bOf wsX6_bOf) := goodIn_app (goodIn_of _ (by decide +kernel)) ggX6_isIn_X6_bOf
theorem dX6_isIn_0 : decode cX6_isIn 0 = .ok (.iload_n 1, 1) := by decide +kernel
theorem dX6_isIn_1 : decode cX6_isIn 1 = .ok (.iconst 3, 1) := by decide +kernel
theorem dX6_isIn_2 : decode cX6_isIn 2 = .ok (.if_icmp .ge 19, 3) := by decide +kernel
theorem dX6_isIn_5 : decode cX6_isIn 5 = .ok (.iload_n 0, 1) := by decide +kernel
theorem dX6_isIn_6 : decode cX6_isIn 6 = .ok (.invokestatic 165, 3) := by decide +kernel
theorem dX6_isIn_9 : decode cX6_isIn 9 = .ok (.iload_n 1, 1) := by decide +kernel
theorem dX6_isIn_10 : decode cX6_isIn 10 = .ok (.if_icmp .ne 7, 3) := by decide +kernel
theorem dX6_isIn_13 : decode cX6_isIn 13 = .ok (.iconst 1, 1) := by decide +kernel
theorem dX6_isIn_14 : decode cX6_isIn 14 = .ok (.goto 22, 3) := by decide +kernel
theorem dX6_isIn_17 : decode cX6_isIn 17 = .ok (.iconst 0, 1) := by decide +kernel
theorem dX6_isIn_18 : decode cX6_isIn 18 = .ok (.goto 18, 3) := by decide +kernel
theorem dX6_isIn_21 : decode cX6_isIn 21 = .ok (.iload_n 0, 1) := by decide +kernel
theorem dX6_isIn_22 : decode cX6_isIn 22 = .ok (.invokestatic 168, 3) := by decide +kernel
theorem dX6_isIn_25 : decode cX6_isIn 25 = .ok (.iload_n 1, 1) := by decide +kernel
theorem dX6_isIn_26 : decode cX6_isIn 26 = .ok (.iconst 3, 1) := by decide +kernel
theorem dX6_isIn_27 : decode cX6_isIn 27 = .ok (.isub, 1) := by decide +kernel
theorem dX6_isIn_28 : decode cX6_isIn 28 = .ok (.if_icmp .ne 7, 3) := by decide +kernel
theorem dX6_isIn_31 : decode cX6_isIn 31 = .ok (.iconst 1, 1) := by decide +kernel
theorem dX6_isIn_32 : decode cX6_isIn 32 = .ok (.goto 4, 3) := by decide +kernel
theorem dX6_isIn_35 : decode cX6_isIn 35 = .ok (.iconst 0, 1) := by decide +kernel
theorem dX6_isIn_36 : decode cX6_isIn 36 = .ok (.ireturn, 1) := by decide +kernel
set_option maxRecDepth 20000 in
theorem ggX6_canBeAsked_X1_latestOf : GoodIn wsX6_canBeAsked wsX1_latestOf := goodIn_r _ [8, 9, 54, 55, 56, 57, 58, 59] (by decide +kernel) (by decide +kernel)
set_option maxRecDepth 20000 in
theorem gX6_canBeAsked_X1_latestOf : GoodIn wsX6_canBeAsked (wsV RX6 181 RX1 yX1_latestOf wsX1_latestOf) := goodIn_app (goodIn_of _ (by decide +kernel)) ggX6_canBeAsked_X1_latestOf
set_option maxRecDepth 20000 in
theorem ggX6_canBeAsked_X0_isTaken : GoodIn wsX6_canBeAsked wsX0_isTaken := goodIn_r _ [14, 15, 16, 60, 61, 62, 63, 64, 65, 66, 67] (by decide +kernel) (by decide +kernel)
set_option maxRecDepth 20000 in
theorem gX6_canBeAsked_X0_isTaken : GoodIn wsX6_canBeAsked (wsV RX6 417 RX0 yX0_isTaken wsX0_isTaken) := goodIn_app (goodIn_of _ (by decide +kernel)) ggX6_canBeAsked_X0_isTaken
set_option maxRecDepth 20000 in
theorem ggX6_canBeAsked_X1_fatigueIn : GoodIn wsX6_canBeAsked wsX1_fatigueIn := goodIn_r _ [20, 21, 22, 23, 24, 25, 54, 55, 56, 57, 58, 59] (by decide +kernel) (by decide +kernel)
set_option maxRecDepth 20000 in
theorem gX6_canBeAsked_X1_fatigueIn : GoodIn wsX6_canBeAsked (wsV RX6 171 RX1 yX1_fatigueIn wsX1_fatigueIn) := goodIn_app (goodIn_of _ (by decide +kernel)) ggX6_canBeAsked_X1_fatigueIn
set_option maxRecDepth 20000 in
theorem ggX6_canBeAsked_X1_cellOf : GoodIn wsX6_canBeAsked wsX1_cellOf := goodIn_r _ [29, 30, 54, 55, 56, 57, 58, 59] (by decide +kernel) (by decide +kernel)
set_option maxRecDepth 20000 in
theorem gX6_canBeAsked_X1_cellOf : GoodIn wsX6_canBeAsked (wsV RX6 162 RX1 yX1_cellOf wsX1_cellOf) := goodIn_app (goodIn_of _ (by decide +kernel)) ggX6_canBeAsked_X1_cellOf
set_option maxRecDepth 20000 in
theorem ggX6_canBeAsked_X3_isOpen : GoodIn wsX6_canBeAsked wsX3_isOpen := goodIn_r _ [35, 36, 37, 38, 34, 39, 40, 41, 42, 43, 44, 45, 68, 69, 70] (by decide +kernel) (by decide +kernel)
set_option maxRecDepth 20000 in
theorem gX6_canBeAsked_X3_isOpen : GoodIn wsX6_canBeAsked (wsV RX6 148 RX3 yX3_isOpen wsX3_isOpen) := goodIn_app (goodIn_of _ (by decide +kernel)) ggX6_canBeAsked_X3_isOpen
theorem dX6_canBeAsked_0 : decode cX6_canBeAsked 0 = .ok (.aload_n 0, 1) := by decide +kernel
theorem dX6_canBeAsked_1 : decode cX6_canBeAsked 1 = .ok (.getfield 33, 3) := by decide +kernel
theorem dX6_canBeAsked_4 : decode cX6_canBeAsked 4 = .ok (.aload_n 0, 1) := by decide +kernel
theorem dX6_canBeAsked_5 : decode cX6_canBeAsked 5 = .ok (.getfield 26, 3) := by decide +kernel
theorem dX6_canBeAsked_8 : decode cX6_canBeAsked 8 = .ok (.iload_n 1, 1) := by decide +kernel
theorem dX6_canBeAsked_9 : decode cX6_canBeAsked 9 = .ok (.invokevirtual 181, 3) := by decide +kernel
theorem dX6_canBeAsked_12 : decode cX6_canBeAsked 12 = .ok (.invokevirtual 417, 3) := by decide +kernel
theorem dX6_canBeAsked_15 : decode cX6_canBeAsked 15 = .ok (.ifCond .ne 38, 3) := by decide +kernel
theorem dX6_canBeAsked_18 : decode cX6_canBeAsked 18 = .ok (.aload_n 0, 1) := by decide +kernel
theorem dX6_canBeAsked_19 : decode cX6_canBeAsked 19 = .ok (.getfield 26, 3) := by decide +kernel
theorem dX6_canBeAsked_22 : decode cX6_canBeAsked 22 = .ok (.iload_n 1, 1) := by decide +kernel
theorem dX6_canBeAsked_23 : decode cX6_canBeAsked 23 = .ok (.iload_n 2, 1) := by decide +kernel
theorem dX6_canBeAsked_24 : decode cX6_canBeAsked 24 = .ok (.invokevirtual 171, 3) := by decide +kernel
theorem dX6_canBeAsked_27 : decode cX6_canBeAsked 27 = .ok (.iconst 4, 1) := by decide +kernel
theorem dX6_canBeAsked_28 : decode cX6_canBeAsked 28 = .ok (.if_icmp .gt 25, 3) := by decide +kernel
theorem dX6_canBeAsked_31 : decode cX6_canBeAsked 31 = .ok (.aload_n 0, 1) := by decide +kernel
theorem dX6_canBeAsked_32 : decode cX6_canBeAsked 32 = .ok (.getfield 19, 3) := by decide +kernel
theorem dX6_canBeAsked_35 : decode cX6_canBeAsked 35 = .ok (.aload_n 0, 1) := by decide +kernel
theorem dX6_canBeAsked_36 : decode cX6_canBeAsked 36 = .ok (.getfield 26, 3) := by decide +kernel
theorem dX6_canBeAsked_39 : decode cX6_canBeAsked 39 = .ok (.iload_n 1, 1) := by decide +kernel
theorem dX6_canBeAsked_40 : decode cX6_canBeAsked 40 = .ok (.invokevirtual 162, 3) := by decide +kernel
theorem dX6_canBeAsked_43 : decode cX6_canBeAsked 43 = .ok (.invokevirtual 148, 3) := by decide +kernel
theorem dX6_canBeAsked_46 : decode cX6_canBeAsked 46 = .ok (.ifCond .eq 7, 3) := by decide +kernel
theorem dX6_canBeAsked_49 : decode cX6_canBeAsked 49 = .ok (.iconst 1, 1) := by decide +kernel
theorem dX6_canBeAsked_50 : decode cX6_canBeAsked 50 = .ok (.goto 4, 3) := by decide +kernel
theorem dX6_canBeAsked_53 : decode cX6_canBeAsked 53 = .ok (.iconst 0, 1) := by decide +kernel
theorem dX6_canBeAsked_54 : decode cX6_canBeAsked 54 = .ok (.ireturn, 1) := by decide +kernel
set_option maxRecDepth 20000 in
theorem ggX6_countToAsk_X1_size : GoodIn wsX6_countToAsk wsX1_size := goodIn_r _ [6, 7, 64, 65, 66, 67, 68, 69] (by decide +kernel) (by decide +kernel)
set_option maxRecDepth 20000 in
theorem gX6_countToAsk_X1_size : GoodIn wsX6_countToAsk (wsV RX6 116 RX1 yX1_size wsX1_size) := goodIn_app (goodIn_of _ (by decide +kernel)) ggX6_countToAsk_X1_size
set_option maxRecDepth 20000 in
theorem ggX6_countToAsk_X1_cellOf : GoodIn wsX6_countToAsk wsX1_cellOf := goodIn_r _ [11, 12, 64, 65, 66, 67, 68, 69] (by decide +kernel) (by decide +kernel)
set_option maxRecDepth 20000 in
theorem gX6_countToAsk_X1_cellOf : GoodIn wsX6_countToAsk (wsV RX6 162 RX1 yX1_cellOf wsX1_cellOf) := goodIn_app (goodIn_of _ (by decide +kernel)) ggX6_countToAsk_X1_cellOf
set_option maxRecDepth 20000 in
theorem ggX6_countToAsk_X6_canBeAsked : GoodIn wsX6_countToAsk wsX6_canBeAsked := goodIn_r _ [17, 18, 1, 19, 20, 21, 22, 5, 23, 24, 25, 26, 27, 28, 29, 30, 31, 32, 33, 34, 35, 36, 37, 38, 39, 40, 8, 9, 10, 11, 12, 41, 42, 43, 44, 45, 46, 47, 48, 49, 50, 51, 52, 53, 54, 55, 56, 57, 58, 59, 60, 61, 62, 63, 64, 65, 66, 67, 68, 69, 70, 71, 72, 73, 74, 75, 76, 77, 78, 79, 80] (by decide +kernel) (by decide +kernel)
set_option maxRecDepth 20000 in
theorem gX6_countToAsk_X6_canBeAsked : GoodIn wsX6_countToAsk (wsV RX6 177 RX6 yX6_canBeAsked wsX6_canBeAsked) := goodIn_app (goodIn_of _ (by decide +kernel)) ggX6_countToAsk_X6_canBeAsked
theorem dX6_countToAsk_0 : decode cX6_countToAsk 0 = .ok (.iconst 0, 1) := by decide +kernel
theorem dX6_countToAsk_1 : decode cX6_countToAsk 1 = .ok (.istore_n 2, 1) := by decide +kernel
theorem dX6_countToAsk_2 : decode cX6_countToAsk 2 = .ok (.iconst 0, 1) := by decide +kernel
theorem dX6_countToAsk_3 : decode cX6_countToAsk 3 = .ok (.istore_n 3, 1) := by decide +kernel
theorem dX6_countToAsk_4 : decode cX6_countToAsk 4 = .ok (.iload_n 3, 1) := by decide +kernel
theorem dX6_countToAsk_5 : decode cX6_countToAsk 5 = .ok (.aload_n 0, 1) := by decide +kernel
theorem dX6_countToAsk_6 : decode cX6_countToAsk 6 = .ok (.getfield 26, 3) := by decide +kernel
theorem dX6_countToAsk_9 : decode cX6_countToAsk 9 = .ok (.invokevirtual 116, 3) := by decide +kernel
theorem dX6_countToAsk_12 : decode cX6_countToAsk 12 = .ok (.if_icmp .ge 33, 3) := by decide +kernel
theorem dX6_countToAsk_15 : decode cX6_countToAsk 15 = .ok (.aload_n 0, 1) := by decide +kernel
theorem dX6_countToAsk_16 : decode cX6_countToAsk 16 = .ok (.getfield 26, 3) := by decide +kernel
theorem dX6_countToAsk_19 : decode cX6_countToAsk 19 = .ok (.iload_n 3, 1) := by decide +kernel
theorem dX6_countToAsk_20 : decode cX6_countToAsk 20 = .ok (.invokevirtual 162, 3) := by decide +kernel
theorem dX6_countToAsk_23 : decode cX6_countToAsk 23 = .ok (.iload_n 1, 1) := by decide +kernel
theorem dX6_countToAsk_24 : decode cX6_countToAsk 24 = .ok (.if_icmp .ne 15, 3) := by decide +kernel
theorem dX6_countToAsk_27 : decode cX6_countToAsk 27 = .ok (.aload_n 0, 1) := by decide +kernel
theorem dX6_countToAsk_28 : decode cX6_countToAsk 28 = .ok (.iload_n 3, 1) := by decide +kernel
theorem dX6_countToAsk_29 : decode cX6_countToAsk 29 = .ok (.iconst 0, 1) := by decide +kernel
theorem dX6_countToAsk_30 : decode cX6_countToAsk 30 = .ok (.invokevirtual 177, 3) := by decide +kernel
theorem dX6_countToAsk_33 : decode cX6_countToAsk 33 = .ok (.ifCond .eq 6, 3) := by decide +kernel
theorem dX6_countToAsk_36 : decode cX6_countToAsk 36 = .ok (.iinc 2 1, 3) := by decide +kernel
theorem dX6_countToAsk_39 : decode cX6_countToAsk 39 = .ok (.iinc 3 1, 3) := by decide +kernel
theorem dX6_countToAsk_42 : decode cX6_countToAsk 42 = .ok (.goto (-38), 3) := by decide +kernel
theorem dX6_countToAsk_45 : decode cX6_countToAsk 45 = .ok (.iload_n 2, 1) := by decide +kernel
theorem dX6_countToAsk_46 : decode cX6_countToAsk 46 = .ok (.ireturn, 1) := by decide +kernel
set_option maxRecDepth 20000 in
theorem ggX6_countAllToAsk_X6_countToAsk : GoodIn wsX6_countAllToAsk wsX6_countToAsk := goodIn_r _ [5, 6, 7, 8, 9, 10, 11, 12, 13, 14, 15, 16, 17, 18, 19, 20, 4, 21, 22, 23, 24, 25, 26, 27, 28, 29, 30, 31, 32, 33, 34, 35, 36, 37, 38, 39, 40, 41, 42, 43, 44, 45, 46, 47, 48, 49, 50, 51, 52, 53, 54, 55, 56, 57, 58, 59, 60, 61, 62, 63, 64, 65, 66, 67, 68, 69, 70, 71, 72, 73, 74, 75, 76, 77, 78, 79, 80, 81, 82, 83, 84] (by decide +kernel) (by decide +kernel)
set_option maxRecDepth 20000 in
theorem gX6_countAllToAsk_X6_countToAsk : GoodIn wsX6_countAllToAsk (wsV RX6 154 RX6 yX6_countToAsk wsX6_countToAsk) := goodIn_app (goodIn_of _ (by decide +kernel)) ggX6_countAllToAsk_X6_countToAsk
theorem dX6_countAllToAsk_0 : decode cX6_countAllToAsk 0 = .ok (.iconst 0, 1) := by decide +kernel
theorem dX6_countAllToAsk_1 : decode cX6_countAllToAsk 1 = .ok (.istore_n 1, 1) := by decide +kernel
theorem dX6_countAllToAsk_2 : decode cX6_countAllToAsk 2 = .ok (.iconst 0, 1) := by decide +kernel
theorem dX6_countAllToAsk_3 : decode cX6_countAllToAsk 3 = .ok (.istore_n 2, 1) := by decide +kernel
theorem dX6_countAllToAsk_4 : decode cX6_countAllToAsk 4 = .ok (.iload_n 2, 1) := by decide +kernel
theorem dX6_countAllToAsk_5 : decode cX6_countAllToAsk 5 = .ok (.bipush 6, 2) := by decide +kernel
theorem dX6_countAllToAsk_7 : decode cX6_countAllToAsk 7 = .ok (.if_icmp .ge 17, 3) := by decide +kernel
theorem dX6_countAllToAsk_10 : decode cX6_countAllToAsk 10 = .ok (.iload_n 1, 1) := by decide +kernel
theorem dX6_countAllToAsk_11 : decode cX6_countAllToAsk 11 = .ok (.aload_n 0, 1) := by decide +kernel
theorem dX6_countAllToAsk_12 : decode cX6_countAllToAsk 12 = .ok (.iload_n 2, 1) := by decide +kernel
theorem dX6_countAllToAsk_13 : decode cX6_countAllToAsk 13 = .ok (.invokevirtual 154, 3) := by decide +kernel
theorem dX6_countAllToAsk_16 : decode cX6_countAllToAsk 16 = .ok (.iadd, 1) := by decide +kernel
theorem dX6_countAllToAsk_17 : decode cX6_countAllToAsk 17 = .ok (.istore_n 1, 1) := by decide +kernel
theorem dX6_countAllToAsk_18 : decode cX6_countAllToAsk 18 = .ok (.iinc 2 1, 3) := by decide +kernel
theorem dX6_countAllToAsk_21 : decode cX6_countAllToAsk 21 = .ok (.goto (-17), 3) := by decide +kernel
theorem dX6_countAllToAsk_24 : decode cX6_countAllToAsk 24 = .ok (.iload_n 1, 1) := by decide +kernel
theorem dX6_countAllToAsk_25 : decode cX6_countAllToAsk 25 = .ok (.ireturn, 1) := by decide +kernel
set_option maxRecDepth 20000 in
theorem ggX6_firstToAsk_X1_size : GoodIn wsX6_firstToAsk wsX1_size := goodIn_r _ [6, 7, 72, 73, 74, 75, 76, 77] (by decide +kernel) (by decide +kernel)
set_option maxRecDepth 20000 in
theorem gX6_firstToAsk_X1_size : GoodIn wsX6_firstToAsk (wsV RX6 116 RX1 yX1_size wsX1_size) := goodIn_app (goodIn_of _ (by decide +kernel)) ggX6_firstToAsk_X1_size
set_option maxRecDepth 20000 in
theorem ggX6_firstToAsk_X6_canBeAsked : GoodIn wsX6_firstToAsk wsX6_canBeAsked := goodIn_r _ [12, 13, 1, 14, 15, 16, 17, 5, 18, 19, 20, 21, 22, 23, 24, 25, 26, 27, 28, 29, 30, 31, 32, 33, 34, 35, 36, 37, 38, 39, 40, 41, 42, 43, 44, 45, 46, 47, 48, 49, 50, 51, 52, 53, 54, 55, 64, 65, 66, 67, 68, 69, 70, 71, 72, 73, 74, 75, 76, 77, 78, 79, 80, 81, 82, 83, 84, 85, 86, 87, 88] (by decide +kernel) (by decide +kernel)
set_option maxRecDepth 20000 in
theorem gX6_firstToAsk_X6_canBeAsked : GoodIn wsX6_firstToAsk (wsV RX6 177 RX6 yX6_canBeAsked wsX6_canBeAsked) := goodIn_app (goodIn_of _ (by decide +kernel)) ggX6_firstToAsk_X6_canBeAsked
set_option maxRecDepth 20000 in
theorem ggX6_firstToAsk_X6_isAhead : GoodIn wsX6_firstToAsk wsX6_isAhead := goodIn_r _ [59, 14, 1, 36, 37, 38, 5, 39, 40, 60, 61, 62, 44, 63, 51, 50, 27, 28, 29, 30, 31, 32, 33, 34, 35, 64, 65, 66, 67, 68, 69, 70, 71, 72, 73, 74, 75, 76, 77, 86, 87, 88] (by decide +kernel) (by decide +kernel)
set_option maxRecDepth 20000 in
theorem gX6_firstToAsk_X6_isAhead : GoodIn wsX6_firstToAsk (wsV RX6 420 RX6 yX6_isAhead wsX6_isAhead) := goodIn_app (goodIn_of _ (by decide +kernel)) ggX6_firstToAsk_X6_isAhead
theorem dX6_firstToAsk_0 : decode cX6_firstToAsk 0 = .ok (.iconst (-1), 1) := by decide +kernel
theorem dX6_firstToAsk_1 : decode cX6_firstToAsk 1 = .ok (.istore_n 2, 1) := by decide +kernel
theorem dX6_firstToAsk_2 : decode cX6_firstToAsk 2 = .ok (.iconst 0, 1) := by decide +kernel
theorem dX6_firstToAsk_3 : decode cX6_firstToAsk 3 = .ok (.istore_n 3, 1) := by decide +kernel
theorem dX6_firstToAsk_4 : decode cX6_firstToAsk 4 = .ok (.iload_n 3, 1) := by decide +kernel
theorem dX6_firstToAsk_5 : decode cX6_firstToAsk 5 = .ok (.aload_n 0, 1) := by decide +kernel
theorem dX6_firstToAsk_6 : decode cX6_firstToAsk 6 = .ok (.getfield 26, 3) := by decide +kernel
theorem dX6_firstToAsk_9 : decode cX6_firstToAsk 9 = .ok (.invokevirtual 116, 3) := by decide +kernel
theorem dX6_firstToAsk_12 : decode cX6_firstToAsk 12 = .ok (.if_icmp .ge 35, 3) := by decide +kernel
theorem dX6_firstToAsk_15 : decode cX6_firstToAsk 15 = .ok (.aload_n 0, 1) := by decide +kernel
theorem dX6_firstToAsk_16 : decode cX6_firstToAsk 16 = .ok (.iload_n 3, 1) := by decide +kernel
theorem dX6_firstToAsk_17 : decode cX6_firstToAsk 17 = .ok (.iload_n 1, 1) := by decide +kernel
theorem dX6_firstToAsk_18 : decode cX6_firstToAsk 18 = .ok (.invokevirtual 177, 3) := by decide +kernel
theorem dX6_firstToAsk_21 : decode cX6_firstToAsk 21 = .ok (.ifCond .eq 20, 3) := by decide +kernel
theorem dX6_firstToAsk_24 : decode cX6_firstToAsk 24 = .ok (.iload_n 2, 1) := by decide +kernel
theorem dX6_firstToAsk_25 : decode cX6_firstToAsk 25 = .ok (.iconst (-1), 1) := by decide +kernel
theorem dX6_firstToAsk_26 : decode cX6_firstToAsk 26 = .ok (.if_icmp .eq 13, 3) := by decide +kernel
theorem dX6_firstToAsk_29 : decode cX6_firstToAsk 29 = .ok (.aload_n 0, 1) := by decide +kernel
theorem dX6_firstToAsk_30 : decode cX6_firstToAsk 30 = .ok (.iload_n 3, 1) := by decide +kernel
theorem dX6_firstToAsk_31 : decode cX6_firstToAsk 31 = .ok (.iload_n 2, 1) := by decide +kernel
theorem dX6_firstToAsk_32 : decode cX6_firstToAsk 32 = .ok (.iload_n 1, 1) := by decide +kernel
theorem dX6_firstToAsk_33 : decode cX6_firstToAsk 33 = .ok (.invokevirtual 420, 3) := by decide +kernel
theorem dX6_firstToAsk_36 : decode cX6_firstToAsk 36 = .ok (.ifCond .eq 5, 3) := by decide +kernel
theorem dX6_firstToAsk_39 : decode cX6_firstToAsk 39 = .ok (.iload_n 3, 1) := by decide +kernel
theorem dX6_firstToAsk_40 : decode cX6_firstToAsk 40 = .ok (.istore_n 2, 1) := by decide +kernel
theorem dX6_firstToAsk_41 : decode cX6_firstToAsk 41 = .ok (.iinc 3 1, 3) := by decide +kernel
theorem dX6_firstToAsk_44 : decode cX6_firstToAsk 44 = .ok (.goto (-40), 3) := by decide +kernel
theorem dX6_firstToAsk_47 : decode cX6_firstToAsk 47 = .ok (.iload_n 2, 1) := by decide +kernel
theorem dX6_firstToAsk_48 : decode cX6_firstToAsk 48 = .ok (.ireturn, 1) := by decide +kernel
set_option maxRecDepth 20000 in
theorem ggX6_isAhead_X1_cellOf : GoodIn wsX6_isAhead wsX1_cellOf := goodIn_r _ [7, 8, 33, 34, 35, 36, 37, 38] (by decide +kernel) (by decide +kernel)
set_option maxRecDepth 20000 in
theorem gX6_isAhead_X1_cellOf : GoodIn wsX6_isAhead (wsV RX6 162 RX1 yX1_cellOf wsX1_cellOf) := goodIn_app (goodIn_of _ (by decide +kernel)) ggX6_isAhead_X1_cellOf
set_option maxRecDepth 20000 in
theorem ggX6_isAhead_X3_lackOf : GoodIn wsX6_isAhead wsX3_lackOf := goodIn_r _ [13, 14, 15, 39, 40, 41] (by decide +kernel) (by decide +kernel)
set_option maxRecDepth 20000 in
theorem gX6_isAhead_X3_lackOf : GoodIn wsX6_isAhead (wsV RX6 423 RX3 yX3_lackOf wsX3_lackOf) := goodIn_app (goodIn_of _ (by decide +kernel)) ggX6_isAhead_X3_lackOf
set_option maxRecDepth 20000 in
theorem ggX6_isAhead_X1_fatigueIn : GoodIn wsX6_isAhead wsX1_fatigueIn := goodIn_r _ [19, 20, 21, 22, 23, 24, 33, 34, 35, 36, 37, 38] (by decide +kernel) (by decide +kernel)
set_option maxRecDepth 20000 in
theorem gX6_isAhead_X1_fatigueIn : GoodIn wsX6_isAhead (wsV RX6 171 RX1 yX1_fatigueIn wsX1_fatigueIn) := goodIn_app (goodIn_of _ (by decide +kernel)) ggX6_isAhead_X1_fatigueIn
theorem dX6_isAhead_0 : decode cX6_isAhead 0 = .ok (.aload_n 0, 1) := by decide +kernel
theorem dX6_isAhead_1 : decode cX6_isAhead 1 = .ok (.getfield 19, 3) := by decide +kernel
theorem dX6_isAhead_4 : decode cX6_isAhead 4 = .ok (.aload_n 0, 1) := by decide +kernel
theorem dX6_isAhead_5 : decode cX6_isAhead 5 = .ok (.getfield 26, 3) := by decide +kernel
theorem dX6_isAhead_8 : decode cX6_isAhead 8 = .ok (.iload_n 1, 1) := by decide +kernel
theorem dX6_isAhead_9 : decode cX6_isAhead 9 = .ok (.invokevirtual 162, 3) := by decide +kernel
theorem dX6_isAhead_12 : decode cX6_isAhead 12 = .ok (.invokevirtual 423, 3) := by decide +kernel
theorem dX6_isAhead_15 : decode cX6_isAhead 15 = .ok (.istore 4, 2) := by decide +kernel
theorem dX6_isAhead_17 : decode cX6_isAhead 17 = .ok (.aload_n 0, 1) := by decide +kernel
theorem dX6_isAhead_18 : decode cX6_isAhead 18 = .ok (.getfield 19, 3) := by decide +kernel
theorem dX6_isAhead_21 : decode cX6_isAhead 21 = .ok (.aload_n 0, 1) := by decide +kernel
theorem dX6_isAhead_22 : decode cX6_isAhead 22 = .ok (.getfield 26, 3) := by decide +kernel
theorem dX6_isAhead_25 : decode cX6_isAhead 25 = .ok (.iload_n 2, 1) := by decide +kernel
theorem dX6_isAhead_26 : decode cX6_isAhead 26 = .ok (.invokevirtual 162, 3) := by decide +kernel
theorem dX6_isAhead_29 : decode cX6_isAhead 29 = .ok (.invokevirtual 423, 3) := by decide +kernel
theorem dX6_isAhead_32 : decode cX6_isAhead 32 = .ok (.istore 5, 2) := by decide +kernel
theorem dX6_isAhead_34 : decode cX6_isAhead 34 = .ok (.iload 4, 2) := by decide +kernel
theorem dX6_isAhead_36 : decode cX6_isAhead 36 = .ok (.iload 5, 2) := by decide +kernel
theorem dX6_isAhead_38 : decode cX6_isAhead 38 = .ok (.if_icmp .eq 16, 3) := by decide +kernel
theorem dX6_isAhead_41 : decode cX6_isAhead 41 = .ok (.iload 4, 2) := by decide +kernel
theorem dX6_isAhead_43 : decode cX6_isAhead 43 = .ok (.iload 5, 2) := by decide +kernel
theorem dX6_isAhead_45 : decode cX6_isAhead 45 = .ok (.if_icmp .le 7, 3) := by decide +kernel
theorem dX6_isAhead_48 : decode cX6_isAhead 48 = .ok (.iconst 1, 1) := by decide +kernel
theorem dX6_isAhead_49 : decode cX6_isAhead 49 = .ok (.goto 4, 3) := by decide +kernel
theorem dX6_isAhead_52 : decode cX6_isAhead 52 = .ok (.iconst 0, 1) := by decide +kernel
theorem dX6_isAhead_53 : decode cX6_isAhead 53 = .ok (.ireturn, 1) := by decide +kernel
theorem dX6_isAhead_54 : decode cX6_isAhead 54 = .ok (.aload_n 0, 1) := by decide +kernel
theorem dX6_isAhead_55 : decode cX6_isAhead 55 = .ok (.getfield 26, 3) := by decide +kernel
theorem dX6_isAhead_58 : decode cX6_isAhead 58 = .ok (.iload_n 1, 1) := by decide +kernel
theorem dX6_isAhead_59 : decode cX6_isAhead 59 = .ok (.iload_n 3, 1) := by decide +kernel
theorem dX6_isAhead_60 : decode cX6_isAhead 60 = .ok (.invokevirtual 171, 3) := by decide +kernel
theorem dX6_isAhead_63 : decode cX6_isAhead 63 = .ok (.aload_n 0, 1) := by decide +kernel
theorem dX6_isAhead_64 : decode cX6_isAhead 64 = .ok (.getfield 26, 3) := by decide +kernel
theorem dX6_isAhead_67 : decode cX6_isAhead 67 = .ok (.iload_n 2, 1) := by decide +kernel
theorem dX6_isAhead_68 : decode cX6_isAhead 68 = .ok (.iload_n 3, 1) := by decide +kernel
theorem dX6_isAhead_69 : decode cX6_isAhead 69 = .ok (.invokevirtual 171, 3) := by decide +kernel
theorem dX6_isAhead_72 : decode cX6_isAhead 72 = .ok (.if_icmp .ge 7, 3) := by decide +kernel
theorem dX6_isAhead_75 : decode cX6_isAhead 75 = .ok (.iconst 1, 1) := by decide +kernel
theorem dX6_isAhead_76 : decode cX6_isAhead 76 = .ok (.goto 4, 3) := by decide +kernel
theorem dX6_isAhead_79 : decode cX6_isAhead 79 = .ok (.iconst 0, 1) := by decide +kernel
theorem dX6_isAhead_80 : decode cX6_isAhead 80 = .ok (.ireturn, 1) := by decide +kernel
set_option maxRecDepth 20000 in
theorem ggX6_finish_X0_personOf : GoodIn wsX6_finish wsX0_personOf := goodIn_r _ [8, 9, 96, 97, 98, 99, 100, 101, 102, 103] (by decide +kernel) (by decide +kernel)
set_option maxRecDepth 20000 in
theorem gX6_finish_X0_personOf : GoodIn wsX6_finish (wsV RX6 240 RX0 yX0_personOf wsX0_personOf) := goodIn_app (goodIn_of _ (by decide +kernel)) ggX6_finish_X0_personOf
set_option maxRecDepth 20000 in
theorem ggX6_finish_X0_cellOf : GoodIn wsX6_finish wsX0_cellOf := goodIn_r _ [13, 14, 96, 97, 98, 99, 100, 101, 102, 103] (by decide +kernel) (by decide +kernel)
set_option maxRecDepth 20000 in
theorem gX6_finish_X0_cellOf : GoodIn wsX6_finish (wsV RX6 260 RX0 yX0_cellOf wsX0_cellOf) := goodIn_app (goodIn_of _ (by decide +kernel)) ggX6_finish_X0_cellOf
set_option maxRecDepth 20000 in
theorem ggX6_finish_X3_isOpen : GoodIn wsX6_finish wsX3_isOpen := goodIn_r _ [19, 20, 21, 22, 18, 23, 24, 25, 26, 27, 28, 29, 104, 105, 106] (by decide +kernel) (by decide +kernel)
set_option maxRecDepth 20000 in
theorem gX6_finish_X3_isOpen : GoodIn wsX6_finish (wsV RX6 148 RX3 yX3_isOpen wsX3_isOpen) := goodIn_app (goodIn_of _ (by decide +kernel)) ggX6_finish_X3_isOpen
set_option maxRecDepth 20000 in
theorem ggX6_finish_X0_setState : GoodIn wsX6_finish wsX0_setState := goodIn_r _ [33, 34, 96, 97, 98, 99, 100, 101, 102, 103] (by decide +kernel) (by decide +kernel)
set_option maxRecDepth 20000 in
theorem gX6_finish_X0_setState : GoodIn wsX6_finish (wsV RX6 257 RX0 yX0_setState wsX0_setState) := goodIn_app (goodIn_of _ (by decide +kernel)) ggX6_finish_X0_setState
set_option maxRecDepth 20000 in
theorem ggX6_finish_X3_fill : GoodIn wsX6_finish wsX3_fill := goodIn_r _ [38, 24, 104, 105, 106] (by decide +kernel) (by decide +kernel)
set_option maxRecDepth 20000 in
theorem gX6_finish_X3_fill : GoodIn wsX6_finish (wsV RX6 261 RX3 yX3_fill wsX3_fill) := goodIn_app (goodIn_of _ (by decide +kernel)) ggX6_finish_X3_fill
set_option maxRecDepth 20000 in
theorem ggX6_finish_X1_addPoints : GoodIn wsX6_finish wsX1_addPoints := goodIn_r _ [43, 44, 107, 108, 109, 110, 111, 112] (by decide +kernel) (by decide +kernel)
set_option maxRecDepth 20000 in
theorem gX6_finish_X1_addPoints : GoodIn wsX6_finish (wsV RX6 264 RX1 yX1_addPoints wsX1_addPoints) := goodIn_app (goodIn_of _ (by decide +kernel)) ggX6_finish_X1_addPoints
set_option maxRecDepth 20000 in
theorem ggX6_finish_X6_reweigh : GoodIn wsX6_finish wsX6_reweigh := goodIn_r _ [49, 50, 1, 2, 51, 52, 53, 54, 55, 56, 57, 58, 59, 60, 7, 61, 62, 63, 64, 65, 66, 34, 67, 68, 69, 18, 70, 25, 71, 48, 72, 73, 74, 75, 76, 77, 78, 79, 80, 81, 82, 83, 84, 85, 86, 87, 11, 12, 13, 14, 88, 89, 90, 91, 92, 93, 94, 95, 113, 96, 97, 98, 99, 100, 101, 102, 103, 104, 105, 106] (by decide +kernel) (by decide +kernel)
set_option maxRecDepth 20000 in
theorem gX6_finish_X6_reweigh : GoodIn wsX6_finish (wsV RX6 134 RX6 yX6_reweigh wsX6_reweigh) := goodIn_app (goodIn_of _ (by decide +kernel)) ggX6_finish_X6_reweigh
theorem dX6_finish_0 : decode cX6_finish 0 = .ok (.aload_n 0, 1) := by decide +kernel
theorem dX6_finish_1 : decode cX6_finish 1 = .ok (.getfield 33, 3) := by decide +kernel
theorem dX6_finish_4 : decode cX6_finish 4 = .ok (.iload_n 1, 1) := by decide +kernel
theorem dX6_finish_5 : decode cX6_finish 5 = .ok (.invokevirtual 240, 3) := by decide +kernel
theorem dX6_finish_8 : decode cX6_finish 8 = .ok (.istore_n 2, 1) := by decide +kernel
theorem dX6_finish_9 : decode cX6_finish 9 = .ok (.aload_n 0, 1) := by decide +kernel
theorem dX6_finish_10 : decode cX6_finish 10 = .ok (.getfield 33, 3) := by decide +kernel
theorem dX6_finish_13 : decode cX6_finish 13 = .ok (.iload_n 1, 1) := by decide +kernel
theorem dX6_finish_14 : decode cX6_finish 14 = .ok (.invokevirtual 260, 3) := by decide +kernel
theorem dX6_finish_17 : decode cX6_finish 17 = .ok (.istore_n 3, 1) := by decide +kernel
theorem dX6_finish_18 : decode cX6_finish 18 = .ok (.aload_n 0, 1) := by decide +kernel
theorem dX6_finish_19 : decode cX6_finish 19 = .ok (.getfield 19, 3) := by decide +kernel
theorem dX6_finish_22 : decode cX6_finish 22 = .ok (.iload_n 3, 1) := by decide +kernel
theorem dX6_finish_23 : decode cX6_finish 23 = .ok (.invokevirtual 148, 3) := by decide +kernel
theorem dX6_finish_26 : decode cX6_finish 26 = .ok (.ifCond .eq 38, 3) := by decide +kernel
theorem dX6_finish_29 : decode cX6_finish 29 = .ok (.aload_n 0, 1) := by decide +kernel
theorem dX6_finish_30 : decode cX6_finish 30 = .ok (.getfield 33, 3) := by decide +kernel
theorem dX6_finish_33 : decode cX6_finish 33 = .ok (.iload_n 1, 1) := by decide +kernel
theorem dX6_finish_34 : decode cX6_finish 34 = .ok (.iconst 1, 1) := by decide +kernel
theorem dX6_finish_35 : decode cX6_finish 35 = .ok (.invokevirtual 257, 3) := by decide +kernel
theorem dX6_finish_38 : decode cX6_finish 38 = .ok (.aload_n 0, 1) := by decide +kernel
theorem dX6_finish_39 : decode cX6_finish 39 = .ok (.getfield 19, 3) := by decide +kernel
theorem dX6_finish_42 : decode cX6_finish 42 = .ok (.iload_n 3, 1) := by decide +kernel
theorem dX6_finish_43 : decode cX6_finish 43 = .ok (.iconst 1, 1) := by decide +kernel
theorem dX6_finish_44 : decode cX6_finish 44 = .ok (.invokevirtual 261, 3) := by decide +kernel
theorem dX6_finish_47 : decode cX6_finish 47 = .ok (.aload_n 0, 1) := by decide +kernel
theorem dX6_finish_48 : decode cX6_finish 48 = .ok (.getfield 26, 3) := by decide +kernel
theorem dX6_finish_51 : decode cX6_finish 51 = .ok (.iload_n 2, 1) := by decide +kernel
theorem dX6_finish_52 : decode cX6_finish 52 = .ok (.bipush 10, 2) := by decide +kernel
theorem dX6_finish_54 : decode cX6_finish 54 = .ok (.invokevirtual 264, 3) := by decide +kernel
theorem dX6_finish_57 : decode cX6_finish 57 = .ok (.aload_n 0, 1) := by decide +kernel
theorem dX6_finish_58 : decode cX6_finish 58 = .ok (.invokevirtual 134, 3) := by decide +kernel
theorem dX6_finish_61 : decode cX6_finish 61 = .ok (.goto 21, 3) := by decide +kernel
theorem dX6_finish_64 : decode cX6_finish 64 = .ok (.aload_n 0, 1) := by decide +kernel
theorem dX6_finish_65 : decode cX6_finish 65 = .ok (.getfield 33, 3) := by decide +kernel
theorem dX6_finish_68 : decode cX6_finish 68 = .ok (.iload_n 1, 1) := by decide +kernel
theorem dX6_finish_69 : decode cX6_finish 69 = .ok (.iconst 2, 1) := by decide +kernel
theorem dX6_finish_70 : decode cX6_finish 70 = .ok (.invokevirtual 257, 3) := by decide +kernel
theorem dX6_finish_73 : decode cX6_finish 73 = .ok (.aload_n 0, 1) := by decide +kernel
theorem dX6_finish_74 : decode cX6_finish 74 = .ok (.getfield 26, 3) := by decide +kernel
theorem dX6_finish_77 : decode cX6_finish 77 = .ok (.iload_n 2, 1) := by decide +kernel
theorem dX6_finish_78 : decode cX6_finish 78 = .ok (.iconst 2, 1) := by decide +kernel
theorem dX6_finish_79 : decode cX6_finish 79 = .ok (.invokevirtual 264, 3) := by decide +kernel
theorem dX6_finish_82 : decode cX6_finish 82 = .ok (.return_, 1) := by decide +kernel
set_option maxRecDepth 20000 in
theorem ggX6_reweigh_X5_weigh : GoodIn wsX6_reweigh wsX5_weigh := goodIn_r _ [9, 10, 11, 12, 13, 14, 15, 16, 17, 18, 19, 20, 21, 22, 23, 24, 25, 26, 27, 28, 29, 30, 31, 32, 33, 34, 35, 36, 37, 38, 39, 8, 40, 41, 42, 43, 44, 45, 46, 47, 48, 49, 58, 59, 60, 61, 62, 63, 64, 65, 66, 67, 68, 69] (by decide +kernel) (by decide +kernel)
set_option maxRecDepth 20000 in
theorem gX6_reweigh_X5_weigh : GoodIn wsX6_reweigh (wsV RX6 343 RX5 yX5_weigh wsX5_weigh) := goodIn_app (goodIn_of _ (by decide +kernel)) ggX6_reweigh_X5_weigh
theorem dX6_reweigh_0 : decode cX6_reweigh 0 = .ok (.aload_n 0, 1) := by decide +kernel
theorem dX6_reweigh_1 : decode cX6_reweigh 1 = .ok (.getfield 40, 3) := by decide +kernel
theorem dX6_reweigh_4 : decode cX6_reweigh 4 = .ok (.aload_n 0, 1) := by decide +kernel
theorem dX6_reweigh_5 : decode cX6_reweigh 5 = .ok (.getfield 33, 3) := by decide +kernel
theorem dX6_reweigh_8 : decode cX6_reweigh 8 = .ok (.aload_n 0, 1) := by decide +kernel
theorem dX6_reweigh_9 : decode cX6_reweigh 9 = .ok (.getfield 19, 3) := by decide +kernel
theorem dX6_reweigh_12 : decode cX6_reweigh 12 = .ok (.aload_n 0, 1) := by decide +kernel
theorem dX6_reweigh_13 : decode cX6_reweigh 13 = .ok (.getfield 54, 3) := by decide +kernel
theorem dX6_reweigh_16 : decode cX6_reweigh 16 = .ok (.invokevirtual 343, 3) := by decide +kernel
theorem dX6_reweigh_19 : decode cX6_reweigh 19 = .ok (.return_, 1) := by decide +kernel
theorem dJ7_fill_53178_0 : decode cJ7_fill_53178 0 = .ok (.iconst 0, 1) := by decide +kernel
theorem dJ7_fill_53178_1 : decode cJ7_fill_53178 1 = .ok (.istore_n 2, 1) := by decide +kernel
theorem dJ7_fill_53178_2 : decode cJ7_fill_53178 2 = .ok (.aload_n 0, 1) := by decide +kernel
theorem dJ7_fill_53178_3 : decode cJ7_fill_53178 3 = .ok (.arraylength, 1) := by decide +kernel
theorem dJ7_fill_53178_4 : decode cJ7_fill_53178 4 = .ok (.istore_n 3, 1) := by decide +kernel
theorem dJ7_fill_53178_5 : decode cJ7_fill_53178 5 = .ok (.iload_n 2, 1) := by decide +kernel
theorem dJ7_fill_53178_6 : decode cJ7_fill_53178 6 = .ok (.iload_n 3, 1) := by decide +kernel
theorem dJ7_fill_53178_7 : decode cJ7_fill_53178 7 = .ok (.if_icmp .ge 13, 3) := by decide +kernel
theorem dJ7_fill_53178_10 : decode cJ7_fill_53178 10 = .ok (.aload_n 0, 1) := by decide +kernel
theorem dJ7_fill_53178_11 : decode cJ7_fill_53178 11 = .ok (.iload_n 2, 1) := by decide +kernel
theorem dJ7_fill_53178_12 : decode cJ7_fill_53178 12 = .ok (.iload_n 1, 1) := by decide +kernel
theorem dJ7_fill_53178_13 : decode cJ7_fill_53178 13 = .ok (.iastore, 1) := by decide +kernel
theorem dJ7_fill_53178_14 : decode cJ7_fill_53178 14 = .ok (.iinc 2 1, 3) := by decide +kernel
theorem dJ7_fill_53178_17 : decode cJ7_fill_53178 17 = .ok (.goto (-12), 3) := by decide +kernel
theorem dJ7_fill_53178_20 : decode cJ7_fill_53178 20 = .ok (.return_, 1) := by decide +kernel
abbrev vwCl : List vw_C := [(RX0, TX0, 8), (RX1, TX1, 6), (RX2, TX2, 5), (RX3, TX3, 3), (RX4, TX4, 2), (RX5, TX5, 1), (RX6, TX6, 8)]
/-! ===== END printed: names ===== -/

