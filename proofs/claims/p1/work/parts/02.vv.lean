section VVA
/-- locals: by place, what is known of them -/
def prs : Nat → List (Option Value) → List (Nat × Value)
  | _, [] => []
  | b, none :: t => prs (b + 1) t
  | b, some v :: t => (b, v) :: prs (b + 1) t
theorem prs_mem : ∀ (L : List (Option Value)) (b k : Nat) (v : Value), (k, v) ∈ prs b L ↔ b ≤ k ∧ L[k - b]? = some (some v)
  | [], b, k, v => by simp [prs]
  | none :: t, b, k, v => by
    rw [prs, prs_mem t (b + 1) k v]
    constructor
    · rintro ⟨h1, h2⟩
      refine ⟨by omega, ?_⟩
      rw [show k - b = (k - (b + 1)) + 1 by omega]
      simpa using h2
    · rintro ⟨h1, h2⟩
      by_cases hk : k = b
      · subst hk
        simp at h2
      · refine ⟨by omega, ?_⟩
        rw [show k - b = (k - (b + 1)) + 1 by omega] at h2
        simpa using h2
  | some u :: t, b, k, v => by
    rw [prs, List.mem_cons, prs_mem t (b + 1) k v]
    constructor
    · rintro (h | ⟨h1, h2⟩)
      · cases h
        simp
      · refine ⟨by omega, ?_⟩
        rw [show k - b = (k - (b + 1)) + 1 by omega]
        simpa using h2
    · rintro ⟨h1, h2⟩
      by_cases hk : k = b
      · subst hk
        simp at h2
        exact Or.inl (by rw [h2])
      · refine Or.inr ⟨by omega, ?_⟩
        rw [show k - b = (k - (b + 1)) + 1 by omega] at h2
        simpa using h2
theorem prs_at {ls : Array Slot} {n : Nat} {L : List (Option Value)} (h : lv_has ls n (prs 0 L)) {i : Nat} {v : Value} (hl : L[i]? = some (some v)) : ls[i]? = some (.val v) :=
  h.2.2 (i, v) ((prs_mem L 0 i v).mpr ⟨Nat.zero_le _, hl⟩)
/-- fewer of them known -/
def lsub : List (Option Value) → List (Option Value) → Prop
  | [], _ => True
  | none :: t, L => lsub t L.tail
  | some v :: t, L => L.head? = some (some v) ∧ lsub t L.tail
theorem lsub_get : ∀ (M L : List (Option Value)), lsub M L → ∀ (i : Nat) (v : Value), M[i]? = some (some v) → L[i]? = some (some v)
  | [], L, _, i, v, h => by simp at h
  | none :: t, L, hs, i, v, h => by
    cases i with
    | zero => simp at h
    | succ i =>
      have := lsub_get t L.tail hs i v (by simpa using h)
      cases L with
      | nil => simp at this
      | cons a L => simpa using this
  | some u :: t, L, hs, i, v, h => by
    obtain ⟨h1, h2⟩ := hs
    cases i with
    | zero =>
      simp at h
      subst h
      cases L with
      | nil => simp at h1
      | cons a L => simpa using h1
    | succ i =>
      have := lsub_get t L.tail h2 i v (by simpa using h)
      cases L with
      | nil => simp at this
      | cons a L => simpa using this
theorem prs_sub {ls : Array Slot} {n : Nat} {L M : List (Option Value)} (h : lv_has ls n (prs 0 L)) (hs : lsub M L) : lv_has ls n (prs 0 M) := by
  refine ⟨h.1, h.2.1, fun q hq => ?_⟩
  obtain ⟨k, v⟩ := q
  exact prs_at h (lsub_get M L hs k v ((prs_mem M 0 k v).mp hq).2)
theorem lsub_e {L : List (Option Value)} : lsub [] L := trivial
theorem lsub_n {t L : List (Option Value)} (h : lsub t L.tail) : lsub (none :: t) L := h
theorem lsub_s {t L : List (Option Value)} {v : Value} (h1 : L.head? = some (some v)) (h : lsub t L.tail) : lsub (some v :: t) L := ⟨h1, h⟩
theorem lsub_si {t L : List (Option Value)} {x y : Int32} (e : x = y) (h1 : L.head? = some (some (.int x))) (h : lsub t L.tail) : lsub (some (.int y) :: t) L := ⟨e ▸ h1, h⟩
theorem lsub_sl {t L : List (Option Value)} {x y : Int64} (e : x = y) (h1 : L.head? = some (some (.long x))) (h : lsub t L.tail) : lsub (some (.long y) :: t) L := ⟨e ▸ h1, h⟩
/-- no long stands just ahead of this place -/
def lcat (L : List (Option Value)) : Nat → Bool
  | 0 => true
  | j + 1 => match L[j]? with
    | some (some v) => v.category == 1
    | _ => true
theorem prs_store {ls' : Array Slot} {n : Nat} {L : List (Option Value)} {i : Nat} {v : Value} (hv : lv_has ls' n ((i, v) :: (prs 0 L).filter (fun q => !(q.1 == i) && !(q.1 + 1 == i && q.2.category == 2)))) (hc : lcat L i = true) : lv_has ls' n (prs 0 (L.set i (some v))) := by
  refine ⟨hv.1, hv.2.1, fun q hq => ?_⟩
  obtain ⟨k, u⟩ := q
  have h1 := ((prs_mem _ 0 k u).mp hq).2
  rw [Nat.sub_zero] at h1
  by_cases hk : k = i
  · subst hk
    have hlt : k < L.length := by
      have := (List.getElem?_eq_some_iff.mp h1).1
      simpa using this
    rw [List.getElem?_set_self hlt] at h1
    cases h1
    exact hv.2.2 _ List.mem_cons_self
  · rw [List.getElem?_set_ne (Ne.symm hk)] at h1
    refine hv.2.2 _ (List.mem_cons_of_mem _ (List.mem_filter.mpr ⟨(prs_mem L 0 k u).mpr ⟨Nat.zero_le _, h1⟩, ?_⟩))
    by_cases hk2 : k + 1 = i
    · subst hk2
      simp only [lcat, h1] at hc
      have hc2 : u.category = 1 := by simpa using hc
      simp [hc2]
    · simp [hk, hk2]
theorem prs_store2 {ls' : Array Slot} {n : Nat} {L : List (Option Value)} {i : Nat} {v : Value} (hv : lv_has ls' n ((i, v) :: (prs 0 L).filter (fun q => !(q.1 == i) && (!(q.1 == i + 1) && !(q.1 + 1 == i && q.2.category == 2))))) (hc : lcat L i = true) : lv_has ls' n (prs 0 ((L.set i (some v)).set (i + 1) none)) := by
  refine ⟨hv.1, hv.2.1, fun q hq => ?_⟩
  obtain ⟨k, u⟩ := q
  have h1 := ((prs_mem _ 0 k u).mp hq).2
  rw [Nat.sub_zero] at h1
  by_cases hk1 : k = i + 1
  · subst hk1
    have hlt : i + 1 < (L.set i (some v)).length := by
      have := (List.getElem?_eq_some_iff.mp h1).1
      simpa using this
    rw [List.getElem?_set_self hlt] at h1
    cases h1
  · rw [List.getElem?_set_ne (Ne.symm hk1)] at h1
    by_cases hk : k = i
    · subst hk
      have hlt : k < L.length := by
        have := (List.getElem?_eq_some_iff.mp h1).1
        simpa using this
      rw [List.getElem?_set_self hlt] at h1
      cases h1
      exact hv.2.2 _ List.mem_cons_self
    · rw [List.getElem?_set_ne (Ne.symm hk)] at h1
      refine hv.2.2 _ (List.mem_cons_of_mem _ (List.mem_filter.mpr ⟨(prs_mem L 0 k u).mpr ⟨Nat.zero_le _, h1⟩, ?_⟩))
      by_cases hk2 : k + 1 = i
      · subst hk2
        simp only [lcat, h1] at hc
        have hc2 : u.category = 1 := by simpa using hc
        simp [hc2]
        try omega
      · simp [hk, hk2, hk1]
/-- what links to private members of nest mates the class's methods use -/
def NW (U : State) : Prop := va_Nw (.methodLinkNest RX0 60 yX6_aOf RX6) U ∧ va_Nw (.methodLinkNest RX3 34 yX6_isIn RX6) U ∧ va_Nw (.methodLinkNest RX5 42 yX6_isIn RX6) U ∧ va_Nw (.methodLinkNest RX6 18 yX3_init RX6) U ∧ va_Nw (.methodLinkNest RX6 25 yX1_init RX6) U ∧ va_Nw (.methodLinkNest RX6 39 yX5_init RX6) U
theorem NW.warm {s U : State} (hW : s.WarmedH U.vm) (h : NW s) : NW U := ⟨va_Nw.warmM hW h.1, va_Nw.warmM hW h.2.1, va_Nw.warmM hW h.2.2.1, va_Nw.warmM hW h.2.2.2.1, va_Nw.warmM hW h.2.2.2.2.1, va_Nw.warmM hW h.2.2.2.2.2⟩
theorem NW.same {u U : State} (hvm : u.vm = U.vm) (h : NW u) : NW U := ⟨va_Nw.same rfl hvm h.1, va_Nw.same rfl hvm h.2.1, va_Nw.same rfl hvm h.2.2.1, va_Nw.same rfl hvm h.2.2.2.1, va_Nw.same rfl hvm h.2.2.2.2.1, va_Nw.same rfl hvm h.2.2.2.2.2⟩
/-- the tables: classes, array classes, nest links -/
def KX (D : va_G) (tys : List (ClassId × FieldType)) (U : State) : Prop := va_K D vwCl tys U ∧ NW U
theorem KX.warm {D : va_G} {tys : List (ClassId × FieldType)} {s U : State} (hW : s.WarmedH U.vm) (h : KX D tys s) : KX D tys U := ⟨va_K.moved hW.alike h.1, h.2.warm hW⟩
theorem KX.calling {D : va_G} {tys : List (ClassId × FieldType)} {U : State} {g : JFrame} {mk : MethodId} {a : Array Value} (h : KX D tys U) : KX D tys (U.calling g mk a) := ⟨va_K.moved (u := U) (U := U.calling g mk a) (Vm.Alike.refl U.vm) h.1, NW.same (u := U) (U := U.calling g mk a) rfl h.2⟩
abbrev VK := Program × Launch × Env × Room × State × MethodId × Array Value × List Frame × Method × Code × Nat × va_G × (Nat → Prop) × (State → Prop)
/-- from here, over every heap that holds the world w, the machine comes to the end that it owes -/
def V (κ : VK) (cl sl : Nat) (w : va_W) (pc : Nat) (L : List (Option Value)) (st : List Value) : Prop :=
  match κ with
  | (p, l, e, R, s, m, args, below, meth, c, nL, D, A, Q) => ∀ (H : Heap) (locs : List Loc) (ls : Array Slot), va_P D vwCl w H → va_D A w → va_S A s.heap H locs → lv_has ls nL (prs 0 L) → W p l e R s m args below meth c H locs cl sl Q (F0 m pc ls st)
/-- the method that is walked: its code, class, words, room; what the tables know -/
def Cx (κ : VK) (l0 : Launch) (D : va_G) (cc : ByteArray) (own : String) (Ts : List Cond) (nL : Nat) (ret : Option FieldType) (tys : List (ClassId × FieldType)) (rm : Room) (nm : String) : Prop :=
  match κ with
  | (p, l, _, R, s, m, args, _, meth, c, nL0, D0, A, _) => p.tables.exec = Jvm.exec ∧ c.code = cc ∧ c.maxLocals = nL ∧ nL0 = nL ∧ (∀ w ∈ Ts, w.before args s = true) ∧ s.vm.findClass own = some m.cls ∧ KX D tys s ∧ (∀ q : Nat, s.heap.size ≤ q → A q) ∧ R = rm ∧ meth.sig.returnType = ret ∧ meth.locks = false ∧ l = l0 ∧ D0 = D ∧ meth.name = nm
/-- a method's end, in the words of its contract -/
def Qx (D : va_G) (post : Option Value → va_W → Prop) (A : Nat → Prop) : Array Value → State → Outcome → State → Prop := fun _ st oc t => (∃ (rv : Option Value) (w' : va_W), oc = .returned rv ∧ post rv w' ∧ va_P D vwCl w' t.heap ∧ va_D A w') ∧ va_F A st t
/-- CONTRACT: from the world w, with the arguments av, the method y returns, and post holds of its answer and the world behind it -/
def Ct (l : Launch) (D : va_G) (tys : List (ClassId × FieldType)) (y : MethodName) (ws : List Cond) (rm : Room) (w : va_W) (av : List Value) (post : Option Value → va_W → Prop) : Prop :=
  ∀ sz : Nat, Met l y ws rm (va_Pc av (fun U => U.heap.size = sz ∧ va_P D vwCl w U.heap ∧ KX D tys U ∧ va_D (fun _ => True) w)) (Qx D post (va_A w sz)) rm.cells rm.slots (va_A w sz)
/-- a contract whose answer and world are told -/
abbrev Cd (l : Launch) (D : va_G) (tys : List (ClassId × FieldType)) (y : MethodName) (ws : List Cond) (rm : Room) (w : va_W) (av : List Value) (rv : Option Value) (w' : va_W) : Prop :=
  Ct l D tys y ws rm w av (fun r x => r = rv ∧ x = w')
/-- the return instructions -/
def RetOk (cc : ByteArray) (pc : Nat) (ret : Option FieldType) (st : List Value) (rv : Option Value) : Prop :=
  (decode cc pc = .ok (.return_, 1) ∧ ret = none ∧ st = [] ∧ rv = none) ∨
  (∃ (v : Int32) (ty : FieldType), decode cc pc = .ok (.ireturn, 1) ∧ ret = some ty ∧ narrow ty (.int v) = .int v ∧ st = [.int v] ∧ rv = some (.int v)) ∨
  (∃ v : Int64, decode cc pc = .ok (.lreturn, 1) ∧ ret = some .long ∧ st = [.long v] ∧ rv = some (.long v))
def Rt (κ : VK) (cc : ByteArray) (ret : Option FieldType) (mc ms : Nat) (post : Option Value → va_W → Prop) : Prop :=
  ∀ (w' : va_W) (pc : Nat) (L : List (Option Value)) (st : List Value) (rv : Option Value), RetOk cc pc ret st rv → post rv w' → V κ mc ms w' pc L st
theorem Ct.of {l : Launch} {D : va_G} {tys : List (ClassId × FieldType)} {y : MethodName} {ws ws' : List Cond} {rm : Room} {w : va_W} {av : List Value} {post : Option Value → va_W → Prop} {cc : ByteArray} {maxL : Nat} {ret : Option FieldType} {own : String} (L : List (Option Value)) (hy : plainName y.cls = true) (hw : ws = Cond.code y cc maxL ret :: ws') (hcls : y.cls = own) (hn : (lg_sl av).length ≤ maxL) (hL : prs 0 L = lv_args 0 av)
    (body : ∀ κ : VK, Cx κ l D cc own ws maxL ret tys rm y.name → Rt κ cc ret rm.cells rm.slots post → V κ 0 0 w 0 L []) : Ct l D tys y ws rm w av post := by
  intro sz
  refine Met.ofW (cc := cc) (maxL := maxL) (ret := ret) hy hw ?_
  intro p e s m args below meth c s₁ B hml hv
  obtain ⟨rfl, hsz, hP, hK, hD0⟩ := hv
  have hx := B.exec
  have hb := B.bytes
  have hr := B.returns
  have hts := atoms_spec (ws := ws) B.pre
  have hown : s.vm.findClass own = some m.cls := by rw [← hcls]; exact findClass_of_methodNamed B.named
  have hlocks := B.notSynchronized
  subst hsz
  have hD := hD0.self (sz := s.heap.size)
  have hA : ∀ q : Nat, s.heap.size ≤ q → va_A w s.heap.size q := fun q h => Or.inr h
  have hl := lv_entry av (n := maxL) hn
  rw [lg_entry_eq]
  rw [← hL] at hl
  refine body (p, l, e, rm, s, m, av.toArray, below, meth, c, maxL, D, va_A w s.heap.size, MQ below (Qx D post (va_A w s.heap.size)) av.toArray s rm.cells rm.slots (va_A w s.heap.size)) ⟨hx, hb, hml, rfl, hts, hown, hK, hA, rfl, hr, hlocks, rfl, rfl, (name_of_methodNamed B.named B.method).1⟩ ?_ s.heap [] _ hP hD va_S.rf hl
  intro w' pc L st rv hret hpost H locs ls hP1 hD1 hS1 hl1
  rcases hret with ⟨hdg, rfl, rfl, rfl⟩ | ⟨v, ty, hdg, rfl, hnar, rfl, rfl⟩ | ⟨v, hdg, rfl, rfl, rfl⟩
  · exact W.vret hx hb hr (fun t ht hW => ⟨⟨none, w', rfl, hpost, by rw [ht]; exact hP1, hD1⟩, hS1.F ht⟩) hS1.2.2 hdg
  · exact W.zret hx hb hr hnar (fun t ht hW => ⟨⟨some (.int v), w', rfl, hpost, by rw [ht]; exact hP1, hD1⟩, hS1.F ht⟩) hS1.2.2 hdg
  · exact W.lret hx hb hr (fun t ht hW => ⟨⟨some (.long v), w', rfl, hpost, by rw [ht]; exact hP1, hD1⟩, hS1.F ht⟩) hS1.2.2 hdg
/-- behind a call with a frame: the callee's world, and the caller's other cells -/
theorem join_app {A : Nat → Prop} {D : va_G} {cl : List vw_C} {w0 w1 X : va_W} {H H1 : Heap} (hP : va_P D cl (w0 ++ X) H) (hD : va_D A (w0 ++ X)) (hk : ∀ q : Nat, q < H.size → ¬ va_A w0 H.size q → H1[q]? = H[q]?) (hF : ∀ q, va_A w0 H.size q → A q) (hP1 : va_P D cl w1 H1) (hD1 : va_D (va_A w0 H.size) w1) : va_P D cl (w1 ++ X) H1 ∧ va_D A (w1 ++ X) := by
  have hX : ∀ (k : Nat) (q : Nat × va_E), X[k]? = some q → (w0 ++ X)[w0.length + k]? = some q := fun k q h => by
    rw [List.getElem?_append_right (by omega)]
    simpa using h
  have apart : ∀ (k : Nat) (q : Nat × va_E), X[k]? = some q → q.1 < H.size ∧ ¬ va_A w0 H.size q.1 := by
    intro k q h
    have hl := (hP _ q (hX k q h)).lt
    refine ⟨hl, ?_⟩
    rintro (⟨j, e, hj⟩ | hj)
    · have hjl := (List.getElem?_eq_some_iff.mp hj).1
      have := hD.1 (w0.length + k) j q (q.1, e) (hX k q h) (by rw [List.getElem?_append_left hjl]; exact hj) rfl
      omega
    · omega
  have hPX : va_P D cl X H1 := fun k q h => (hP _ q (hX k q h)).kept (hk q.1 (apart k q h).1 (apart k q h).2)
  have hDX : va_D A X := ⟨fun i j p q hi hj hpq => by
    have := hD.1 _ _ p q (hX i p hi) (hX j q hj) hpq
    omega, fun k q h => hD.2 _ q (hX k q h)⟩
  refine ⟨hP1.app hPX, va_D.app (hD1.weaken (fun k q _ h => hF q.1 h)) hDX (fun i j p q hi hj hpq => ?_)⟩
  exact (apart j q hj).2 (by rw [← hpq]; exact hD1.2 i p hi)
theorem sub_left {A : Nat → Prop} {D : va_G} {cl : List vw_C} {w0 X : va_W} {H : Heap} (hP : va_P D cl (w0 ++ X) H) (hD : va_D A (w0 ++ X)) : va_P D cl w0 H ∧ va_D A w0 := by
  have h0 : ∀ (k : Nat) (q : Nat × va_E), w0[k]? = some q → (w0 ++ X)[k]? = some q := fun k q h => by
    rw [List.getElem?_append_left ((List.getElem?_eq_some_iff.mp h).1)]
    exact h
  exact ⟨fun k q h => hP k q (h0 k q h), fun i j p q hi hj hpq => hD.1 i j p q (h0 i p hi) (h0 j q hj) hpq, fun k q h => hD.2 k q (h0 k q h)⟩
end VVA
section VVB
variable {κ : VK} {l0 : Launch} {D : va_G} {cc : ByteArray} {own : String} {Ts : List Cond} {nL : Nat} {ret : Option FieldType} {tys : List (ClassId × FieldType)} {rm : Room} {nm : String} {cl sl pc : Nat} {w : va_W} {L : List (Option Value)} {st : List Value}
theorem V.sub {M : List (Option Value)} (hs : lsub M L) (kk : V κ cl sl w pc M st) : V κ cl sl w pc L st := by
  obtain ⟨p, l, e, R, s, m, args, below, meth, c, nL0, D0, A, Q⟩ := κ
  intro H locs ls hP hD hS hl
  exact kk H locs ls hP hD hS (prs_sub hl hs)
theorem V.topi {x y : Int32} (h : x = y) (kk : V κ cl sl w pc L (.int y :: st)) : V κ cl sl w pc L (.int x :: st) := h ▸ kk
theorem V.topl {x y : Int64} (h : x = y) (kk : V κ cl sl w pc L (.long y :: st)) : V κ cl sl w pc L (.long x :: st) := h ▸ kk
theorem V.world {w' : va_W} (h : w = w') (kk : V κ cl sl w' pc L st) : V κ cl sl w pc L st := h ▸ kk
theorem V.widen {k n : Nat} (h1 : cl ≤ k) (h2 : sl ≤ n) (kk : V κ k n w pc L st) : V κ cl sl w pc L st := by
  obtain ⟨p, l, e, R, s, m, args, below, meth, c, nL0, D0, A, Q⟩ := κ
  intro H locs ls hP hD hS hl
  exact W.widen h1 h2 (kk H locs ls hP hD hS hl)
/-- a loop of N turns: what holds at its head; I: what is known there -/
theorem V.loopI (N : Nat) (I : Nat → Prop) (wf : Nat → va_W) (Lf : Nat → List (Option Value)) (step : ∀ k, k < N → I k → (I (k + 1) → V κ cl sl (wf (k + 1)) pc (Lf (k + 1)) st) → V κ cl sl (wf k) pc (Lf k) st) (last : I N → V κ cl sl (wf N) pc (Lf N) st) (h0 : I 0) (hw : w = wf 0) (hL : lsub (Lf 0) L) : V κ cl sl w pc L st := by
  have h : ∀ j, j ≤ N → I (N - j) → V κ cl sl (wf (N - j)) pc (Lf (N - j)) st := by
    intro j
    induction j with
    | zero => intro _ hI; exact last hI
    | succ j ih =>
      intro hj hI
      refine step (N - (j + 1)) (by omega) hI ?_
      rw [show N - (j + 1) + 1 = N - j by omega]
      exact ih (by omega)
  have h1 := h N (Nat.le_refl N)
  rw [Nat.sub_self] at h1
  rw [hw]
  exact V.sub hL (h1 h0)
/-- a loop of N turns: what holds at its head -/
theorem V.loop (N : Nat) (wf : Nat → va_W) (Lf : Nat → List (Option Value)) (step : ∀ k, k < N → V κ cl sl (wf (k + 1)) pc (Lf (k + 1)) st → V κ cl sl (wf k) pc (Lf k) st) (last : V κ cl sl (wf N) pc (Lf N) st) (hw : w = wf 0) (hL : lsub (Lf 0) L) : V κ cl sl w pc L st := by
  have h : ∀ j, j ≤ N → V κ cl sl (wf (N - j)) pc (Lf (N - j)) st := by
    intro j
    induction j with
    | zero => intro _; exact last
    | succ j ih =>
      intro hj
      refine step (N - (j + 1)) (by omega) ?_
      rw [show N - (j + 1) + 1 = N - j by omega]
      exact ih (by omega)
  have h0 := h N (Nat.le_refl N)
  rw [Nat.sub_self] at h0
  rw [hw]
  exact V.sub hL h0
theorem V.iload_n (C : Cx κ l0 D cc own Ts nL ret tys rm nm) {k : Fin 4} {x : Int32} (hdg : decode cc pc = .ok (.iload_n k, 1)) (hl0 : L[(k : Nat)]? = some (some (.int x))) (kk : V κ cl sl w (pc + 1) L (.int x :: st)) : V κ cl sl w pc L (st) := by
  obtain ⟨p, l, e, R, s, m, args, below, meth, c, nL0, D0, A, Q⟩ := κ
  obtain ⟨hx, hb, hml, hnl, hts, hown, hK, hA, hR, hret, hlo, hl0, hD0, hnm⟩ := C
  subst hnl
  intro H locs ls hP hD hS hl
  exact lv_iload_n hx hb hdg rfl (prs_at hl (by assumption)) (kk H locs ls hP hD hS hl)
theorem V.iload (C : Cx κ l0 D cc own Ts nL ret tys rm nm) {i : Nat} {x : Int32} (hdg : decode cc pc = .ok (.iload i, 2)) (hl0 : L[i]? = some (some (.int x))) (kk : V κ cl sl w (pc + 2) L (.int x :: st)) : V κ cl sl w pc L (st) := by
  obtain ⟨p, l, e, R, s, m, args, below, meth, c, nL0, D0, A, Q⟩ := κ
  obtain ⟨hx, hb, hml, hnl, hts, hown, hK, hA, hR, hret, hlo, hl0, hD0, hnm⟩ := C
  subst hnl
  intro H locs ls hP hD hS hl
  exact lv_iload hx hb hdg (prs_at hl (by assumption)) (kk H locs ls hP hD hS hl)
theorem V.aload_n (C : Cx κ l0 D cc own Ts nL ret tys rm nm) {k : Fin 4} {x : Nat} (hdg : decode cc pc = .ok (.aload_n k, 1)) (hl0 : L[(k : Nat)]? = some (some (.ref x))) (kk : V κ cl sl w (pc + 1) L (.ref x :: st)) : V κ cl sl w pc L (st) := by
  obtain ⟨p, l, e, R, s, m, args, below, meth, c, nL0, D0, A, Q⟩ := κ
  obtain ⟨hx, hb, hml, hnl, hts, hown, hK, hA, hR, hret, hlo, hl0, hD0, hnm⟩ := C
  subst hnl
  intro H locs ls hP hD hS hl
  exact lv_aload_n hx hb hdg rfl (prs_at hl (by assumption)) (kk H locs ls hP hD hS hl)
theorem V.aload (C : Cx κ l0 D cc own Ts nL ret tys rm nm) {i : Nat} {x : Nat} (hdg : decode cc pc = .ok (.aload i, 2)) (hl0 : L[i]? = some (some (.ref x))) (kk : V κ cl sl w (pc + 2) L (.ref x :: st)) : V κ cl sl w pc L (st) := by
  obtain ⟨p, l, e, R, s, m, args, below, meth, c, nL0, D0, A, Q⟩ := κ
  obtain ⟨hx, hb, hml, hnl, hts, hown, hK, hA, hR, hret, hlo, hl0, hD0, hnm⟩ := C
  subst hnl
  intro H locs ls hP hD hS hl
  exact lv_aload hx hb hdg (prs_at hl (by assumption)) (kk H locs ls hP hD hS hl)
theorem V.lload_n (C : Cx κ l0 D cc own Ts nL ret tys rm nm) {k : Fin 4} {x : Int64} (hdg : decode cc pc = .ok (.lload_n k, 1)) (hl0 : L[(k : Nat)]? = some (some (.long x))) (kk : V κ cl sl w (pc + 1) L (.long x :: st)) : V κ cl sl w pc L (st) := by
  obtain ⟨p, l, e, R, s, m, args, below, meth, c, nL0, D0, A, Q⟩ := κ
  obtain ⟨hx, hb, hml, hnl, hts, hown, hK, hA, hR, hret, hlo, hl0, hD0, hnm⟩ := C
  subst hnl
  intro H locs ls hP hD hS hl
  exact lv_lload_n hx hb hdg rfl (prs_at hl (by assumption)) (kk H locs ls hP hD hS hl)
theorem V.lload (C : Cx κ l0 D cc own Ts nL ret tys rm nm) {i : Nat} {x : Int64} (hdg : decode cc pc = .ok (.lload i, 2)) (hl0 : L[i]? = some (some (.long x))) (kk : V κ cl sl w (pc + 2) L (.long x :: st)) : V κ cl sl w pc L (st) := by
  obtain ⟨p, l, e, R, s, m, args, below, meth, c, nL0, D0, A, Q⟩ := κ
  obtain ⟨hx, hb, hml, hnl, hts, hown, hK, hA, hR, hret, hlo, hl0, hD0, hnm⟩ := C
  subst hnl
  intro H locs ls hP hD hS hl
  exact lv_lload hx hb hdg (prs_at hl (by assumption)) (kk H locs ls hP hD hS hl)
theorem V.iconst (C : Cx κ l0 D cc own Ts nL ret tys rm nm) {n : Int} {v : Int32} (hdg : decode cc pc = .ok (.iconst n, 1)) (hv : Int32.ofInt n = v) (kk : V κ cl sl w (pc + 1) L (.int v :: st)) : V κ cl sl w pc L (st) := by
  obtain ⟨p, l, e, R, s, m, args, below, meth, c, nL0, D0, A, Q⟩ := κ
  obtain ⟨hx, hb, hml, hnl, hts, hown, hK, hA, hR, hret, hlo, hl0, hD0, hnm⟩ := C
  subst hnl
  intro H locs ls hP hD hS hl
  exact lv_iconst hx hb hdg hv (kk H locs ls hP hD hS hl)
theorem V.bipush (C : Cx κ l0 D cc own Ts nL ret tys rm nm) {n : Int} {v : Int32} (hdg : decode cc pc = .ok (.bipush n, 2)) (hv : (Int8.ofInt n).toInt32 = v) (kk : V κ cl sl w (pc + 2) L (.int v :: st)) : V κ cl sl w pc L (st) := by
  obtain ⟨p, l, e, R, s, m, args, below, meth, c, nL0, D0, A, Q⟩ := κ
  obtain ⟨hx, hb, hml, hnl, hts, hown, hK, hA, hR, hret, hlo, hl0, hD0, hnm⟩ := C
  subst hnl
  intro H locs ls hP hD hS hl
  exact lv_bipush hx hb hdg hv (kk H locs ls hP hD hS hl)
theorem V.sipush (C : Cx κ l0 D cc own Ts nL ret tys rm nm) {n : Int} {v : Int32} (hdg : decode cc pc = .ok (.sipush n, 3)) (hv : (Int16.ofInt n).toInt32 = v) (kk : V κ cl sl w (pc + 3) L (.int v :: st)) : V κ cl sl w pc L (st) := by
  obtain ⟨p, l, e, R, s, m, args, below, meth, c, nL0, D0, A, Q⟩ := κ
  obtain ⟨hx, hb, hml, hnl, hts, hown, hK, hA, hR, hret, hlo, hl0, hD0, hnm⟩ := C
  subst hnl
  intro H locs ls hP hD hS hl
  exact lv_sipush hx hb hdg hv (kk H locs ls hP hD hS hl)
theorem V.lconst (C : Cx κ l0 D cc own Ts nL ret tys rm nm) {n : Fin 2} {v : Int64} (hdg : decode cc pc = .ok (.lconst n, 1)) (hv : Int64.ofNat (n : Nat) = v) (kk : V κ cl sl w (pc + 1) L (.long v :: st)) : V κ cl sl w pc L (st) := by
  obtain ⟨p, l, e, R, s, m, args, below, meth, c, nL0, D0, A, Q⟩ := κ
  obtain ⟨hx, hb, hml, hnl, hts, hown, hK, hA, hR, hret, hlo, hl0, hD0, hnm⟩ := C
  subst hnl
  intro H locs ls hP hD hS hl
  exact lv_lconst hx hb hdg hv (kk H locs ls hP hD hS hl)
theorem V.ldc (C : Cx κ l0 D cc own Ts nL ret tys rm nm) {i : Nat} {v : Int32} (hc : Jvm.Cond.constant own i v ∈ Ts) (hdg : decode cc pc = .ok (.ldc i, 2)) (kk : V κ cl sl w (pc + 2) L (.int v :: st)) : V κ cl sl w pc L (st) := by
  obtain ⟨p, l, e, R, s, m, args, below, meth, c, nL0, D0, A, Q⟩ := κ
  obtain ⟨hx, hb, hml, hnl, hts, hown, hK, hA, hR, hret, hlo, hl0, hD0, hnm⟩ := C
  subst hnl
  intro H locs ls hP hD hS hl
  exact lv_ldc hx hb hown (hts _ hc) hdg (kk H locs ls hP hD hS hl)
theorem V.ldc_w (C : Cx κ l0 D cc own Ts nL ret tys rm nm) {i : Nat} {v : Int32} (hc : Jvm.Cond.constant own i v ∈ Ts) (hdg : decode cc pc = .ok (.ldc_w i, 3)) (kk : V κ cl sl w (pc + 3) L (.int v :: st)) : V κ cl sl w pc L (st) := by
  obtain ⟨p, l, e, R, s, m, args, below, meth, c, nL0, D0, A, Q⟩ := κ
  obtain ⟨hx, hb, hml, hnl, hts, hown, hK, hA, hR, hret, hlo, hl0, hD0, hnm⟩ := C
  subst hnl
  intro H locs ls hP hD hS hl
  exact lv_ldcw hx hb hown (hts _ hc) hdg (kk H locs ls hP hD hS hl)
theorem V.ldc2_w (C : Cx κ l0 D cc own Ts nL ret tys rm nm) {i : Nat} {v : Int64} (hc : Jvm.Cond.constantLong own i v ∈ Ts) (hdg : decode cc pc = .ok (.ldc2_w i, 3)) (kk : V κ cl sl w (pc + 3) L (.long v :: st)) : V κ cl sl w pc L (st) := by
  obtain ⟨p, l, e, R, s, m, args, below, meth, c, nL0, D0, A, Q⟩ := κ
  obtain ⟨hx, hb, hml, hnl, hts, hown, hK, hA, hR, hret, hlo, hl0, hD0, hnm⟩ := C
  subst hnl
  intro H locs ls hP hD hS hl
  exact lv_ldc2 hx hb hown (hts _ hc) hdg (kk H locs ls hP hD hS hl)
theorem V.iadd (C : Cx κ l0 D cc own Ts nL ret tys rm nm) {x y : Int32} (hdg : decode cc pc = .ok (.iadd, 1)) (kk : V κ cl sl w (pc + 1) L (.int (x + y) :: st)) : V κ cl sl w pc L (.int y :: .int x :: st) := by
  obtain ⟨p, l, e, R, s, m, args, below, meth, c, nL0, D0, A, Q⟩ := κ
  obtain ⟨hx, hb, hml, hnl, hts, hown, hK, hA, hR, hret, hlo, hl0, hD0, hnm⟩ := C
  subst hnl
  intro H locs ls hP hD hS hl
  exact lv_iadd hx hb hdg (kk H locs ls hP hD hS hl)
theorem V.isub (C : Cx κ l0 D cc own Ts nL ret tys rm nm) {x y : Int32} (hdg : decode cc pc = .ok (.isub, 1)) (kk : V κ cl sl w (pc + 1) L (.int (x - y) :: st)) : V κ cl sl w pc L (.int y :: .int x :: st) := by
  obtain ⟨p, l, e, R, s, m, args, below, meth, c, nL0, D0, A, Q⟩ := κ
  obtain ⟨hx, hb, hml, hnl, hts, hown, hK, hA, hR, hret, hlo, hl0, hD0, hnm⟩ := C
  subst hnl
  intro H locs ls hP hD hS hl
  exact lv_isub hx hb hdg (kk H locs ls hP hD hS hl)
theorem V.imul (C : Cx κ l0 D cc own Ts nL ret tys rm nm) {x y : Int32} (hdg : decode cc pc = .ok (.imul, 1)) (kk : V κ cl sl w (pc + 1) L (.int (x * y) :: st)) : V κ cl sl w pc L (.int y :: .int x :: st) := by
  obtain ⟨p, l, e, R, s, m, args, below, meth, c, nL0, D0, A, Q⟩ := κ
  obtain ⟨hx, hb, hml, hnl, hts, hown, hK, hA, hR, hret, hlo, hl0, hD0, hnm⟩ := C
  subst hnl
  intro H locs ls hP hD hS hl
  exact lv_imul hx hb hdg (kk H locs ls hP hD hS hl)
theorem V.iand (C : Cx κ l0 D cc own Ts nL ret tys rm nm) {x y : Int32} (hdg : decode cc pc = .ok (.iand, 1)) (kk : V κ cl sl w (pc + 1) L (.int (x &&& y) :: st)) : V κ cl sl w pc L (.int y :: .int x :: st) := by
  obtain ⟨p, l, e, R, s, m, args, below, meth, c, nL0, D0, A, Q⟩ := κ
  obtain ⟨hx, hb, hml, hnl, hts, hown, hK, hA, hR, hret, hlo, hl0, hD0, hnm⟩ := C
  subst hnl
  intro H locs ls hP hD hS hl
  exact lv_iand hx hb hdg (kk H locs ls hP hD hS hl)
theorem V.idiv (C : Cx κ l0 D cc own Ts nL ret tys rm nm) {x y : Int32} (hdg : decode cc pc = .ok (.idiv, 1)) (hne : ¬ y = 0) (kk : V κ cl sl w (pc + 1) L (.int (x / y) :: st)) : V κ cl sl w pc L (.int y :: .int x :: st) := by
  obtain ⟨p, l, e, R, s, m, args, below, meth, c, nL0, D0, A, Q⟩ := κ
  obtain ⟨hx, hb, hml, hnl, hts, hown, hK, hA, hR, hret, hlo, hl0, hD0, hnm⟩ := C
  subst hnl
  intro H locs ls hP hD hS hl
  exact lv_idiv hx hb hdg hne (kk H locs ls hP hD hS hl)
theorem V.irem (C : Cx κ l0 D cc own Ts nL ret tys rm nm) {x y : Int32} (hdg : decode cc pc = .ok (.irem, 1)) (hne : ¬ y = 0) (kk : V κ cl sl w (pc + 1) L (.int (x - x / y * y) :: st)) : V κ cl sl w pc L (.int y :: .int x :: st) := by
  obtain ⟨p, l, e, R, s, m, args, below, meth, c, nL0, D0, A, Q⟩ := κ
  obtain ⟨hx, hb, hml, hnl, hts, hown, hK, hA, hR, hret, hlo, hl0, hD0, hnm⟩ := C
  subst hnl
  intro H locs ls hP hD hS hl
  exact lv_irem hx hb hdg hne (kk H locs ls hP hD hS hl)
theorem V.ladd (C : Cx κ l0 D cc own Ts nL ret tys rm nm) {x y : Int64} (hdg : decode cc pc = .ok (.ladd, 1)) (kk : V κ cl sl w (pc + 1) L (.long (x + y) :: st)) : V κ cl sl w pc L (.long y :: .long x :: st) := by
  obtain ⟨p, l, e, R, s, m, args, below, meth, c, nL0, D0, A, Q⟩ := κ
  obtain ⟨hx, hb, hml, hnl, hts, hown, hK, hA, hR, hret, hlo, hl0, hD0, hnm⟩ := C
  subst hnl
  intro H locs ls hP hD hS hl
  exact lv_ladd hx hb hdg (kk H locs ls hP hD hS hl)
theorem V.lmul (C : Cx κ l0 D cc own Ts nL ret tys rm nm) {x y : Int64} (hdg : decode cc pc = .ok (.lmul, 1)) (kk : V κ cl sl w (pc + 1) L (.long (x * y) :: st)) : V κ cl sl w pc L (.long y :: .long x :: st) := by
  obtain ⟨p, l, e, R, s, m, args, below, meth, c, nL0, D0, A, Q⟩ := κ
  obtain ⟨hx, hb, hml, hnl, hts, hown, hK, hA, hR, hret, hlo, hl0, hD0, hnm⟩ := C
  subst hnl
  intro H locs ls hP hD hS hl
  exact lv_lmul hx hb hdg (kk H locs ls hP hD hS hl)
theorem V.i2l (C : Cx κ l0 D cc own Ts nL ret tys rm nm) {x : Int32} (hdg : decode cc pc = .ok (.i2l, 1)) (kk : V κ cl sl w (pc + 1) L (.long x.toInt64 :: st)) : V κ cl sl w pc L (.int x :: st) := by
  obtain ⟨p, l, e, R, s, m, args, below, meth, c, nL0, D0, A, Q⟩ := κ
  obtain ⟨hx, hb, hml, hnl, hts, hown, hK, hA, hR, hret, hlo, hl0, hD0, hnm⟩ := C
  subst hnl
  intro H locs ls hP hD hS hl
  exact lv_i2l hx hb hdg rfl (kk H locs ls hP hD hS hl)
theorem V.dup (C : Cx κ l0 D cc own Ts nL ret tys rm nm) {v : Value} (hdg : decode cc pc = .ok (.dup, 1)) (hv : v.category = 1) (kk : V κ cl sl w (pc + 1) L (v :: v :: st)) : V κ cl sl w pc L (v :: st) := by
  obtain ⟨p, l, e, R, s, m, args, below, meth, c, nL0, D0, A, Q⟩ := κ
  obtain ⟨hx, hb, hml, hnl, hts, hown, hK, hA, hR, hret, hlo, hl0, hD0, hnm⟩ := C
  subst hnl
  intro H locs ls hP hD hS hl
  exact lv_dup hx hb hdg hv (kk H locs ls hP hD hS hl)
theorem V.dup2 (C : Cx κ l0 D cc own Ts nL ret tys rm nm) {v u : Value} (hdg : decode cc pc = .ok (.dup2, 1)) (hv : v.category = 1) (hu : u.category = 1) (kk : V κ cl sl w (pc + 1) L (v :: u :: v :: u :: st)) : V κ cl sl w pc L (v :: u :: st) := by
  obtain ⟨p, l, e, R, s, m, args, below, meth, c, nL0, D0, A, Q⟩ := κ
  obtain ⟨hx, hb, hml, hnl, hts, hown, hK, hA, hR, hret, hlo, hl0, hD0, hnm⟩ := C
  subst hnl
  intro H locs ls hP hD hS hl
  exact lv_dup2_11 hx hb hdg hv hu (kk H locs ls hP hD hS hl)
theorem V.pop (C : Cx κ l0 D cc own Ts nL ret tys rm nm) {v : Value} (hdg : decode cc pc = .ok (.pop, 1)) (hv : v.category = 1) (kk : V κ cl sl w (pc + 1) L (st)) : V κ cl sl w pc L (v :: st) := by
  obtain ⟨p, l, e, R, s, m, args, below, meth, c, nL0, D0, A, Q⟩ := κ
  obtain ⟨hx, hb, hml, hnl, hts, hown, hK, hA, hR, hret, hlo, hl0, hD0, hnm⟩ := C
  subst hnl
  intro H locs ls hP hD hS hl
  exact lv_pop hx hb hdg hv (kk H locs ls hP hD hS hl)
theorem V.istore_n (C : Cx κ l0 D cc own Ts nL ret tys rm nm) {k : Fin 4} {x : Int32} (hdg : decode cc pc = .ok (.istore_n k, 1)) (hi : (k : Nat) < nL) (hc : lcat L (k : Nat) = true) (kk : V κ cl sl w (pc + 1) (L.set (k : Nat) (some (.int x))) st) : V κ cl sl w pc L (.int x :: st) := by
  obtain ⟨p, l, e, R, s, m, args, below, meth, c, nL0, D0, A, Q⟩ := κ
  obtain ⟨hx, hb, hml, hnl, hts, hown, hK, hA, hR, hret, hlo, hl0, hD0, hnm⟩ := C
  subst hnl
  intro H locs ls hP hD hS hl
  exact lv_istore_n hx hb hdg rfl hl hi rfl (fun ls1 hl1 => kk H locs ls1 hP hD hS (prs_store hl1 hc))
theorem V.istore (C : Cx κ l0 D cc own Ts nL ret tys rm nm) {i : Nat} {x : Int32} (hdg : decode cc pc = .ok (.istore i, 2)) (hi : i < nL) (hc : lcat L i = true) (kk : V κ cl sl w (pc + 2) (L.set i (some (.int x))) st) : V κ cl sl w pc L (.int x :: st) := by
  obtain ⟨p, l, e, R, s, m, args, below, meth, c, nL0, D0, A, Q⟩ := κ
  obtain ⟨hx, hb, hml, hnl, hts, hown, hK, hA, hR, hret, hlo, hl0, hD0, hnm⟩ := C
  subst hnl
  intro H locs ls hP hD hS hl
  exact lv_istore hx hb hdg hl hi rfl (fun ls1 hl1 => kk H locs ls1 hP hD hS (prs_store hl1 hc))
theorem V.astore_n (C : Cx κ l0 D cc own Ts nL ret tys rm nm) {k : Fin 4} {x : Nat} (hdg : decode cc pc = .ok (.astore_n k, 1)) (hi : (k : Nat) < nL) (hc : lcat L (k : Nat) = true) (kk : V κ cl sl w (pc + 1) (L.set (k : Nat) (some (.ref x))) st) : V κ cl sl w pc L (.ref x :: st) := by
  obtain ⟨p, l, e, R, s, m, args, below, meth, c, nL0, D0, A, Q⟩ := κ
  obtain ⟨hx, hb, hml, hnl, hts, hown, hK, hA, hR, hret, hlo, hl0, hD0, hnm⟩ := C
  subst hnl
  intro H locs ls hP hD hS hl
  exact lv_astore_n hx hb hdg rfl hl hi rfl (fun ls1 hl1 => kk H locs ls1 hP hD hS (prs_store hl1 hc))
theorem V.astore (C : Cx κ l0 D cc own Ts nL ret tys rm nm) {i : Nat} {x : Nat} (hdg : decode cc pc = .ok (.astore i, 2)) (hi : i < nL) (hc : lcat L i = true) (kk : V κ cl sl w (pc + 2) (L.set i (some (.ref x))) st) : V κ cl sl w pc L (.ref x :: st) := by
  obtain ⟨p, l, e, R, s, m, args, below, meth, c, nL0, D0, A, Q⟩ := κ
  obtain ⟨hx, hb, hml, hnl, hts, hown, hK, hA, hR, hret, hlo, hl0, hD0, hnm⟩ := C
  subst hnl
  intro H locs ls hP hD hS hl
  exact lv_astore hx hb hdg hl hi rfl (fun ls1 hl1 => kk H locs ls1 hP hD hS (prs_store hl1 hc))
theorem V.lstore_n (C : Cx κ l0 D cc own Ts nL ret tys rm nm) {k : Fin 4} {x : Int64} (hdg : decode cc pc = .ok (.lstore_n k, 1)) (hi : (k : Nat) + 1 < nL) (hc : lcat L (k : Nat) = true) (kk : V κ cl sl w (pc + 1) ((L.set (k : Nat) (some (.long x))).set ((k : Nat) + 1) none) st) : V κ cl sl w pc L (.long x :: st) := by
  obtain ⟨p, l, e, R, s, m, args, below, meth, c, nL0, D0, A, Q⟩ := κ
  obtain ⟨hx, hb, hml, hnl, hts, hown, hK, hA, hR, hret, hlo, hl0, hD0, hnm⟩ := C
  subst hnl
  intro H locs ls hP hD hS hl
  exact lv_lstore_n hx hb hdg rfl hl hi rfl (fun ls1 hl1 => kk H locs ls1 hP hD hS (prs_store2 hl1 hc))
theorem V.lstore (C : Cx κ l0 D cc own Ts nL ret tys rm nm) {i : Nat} {x : Int64} (hdg : decode cc pc = .ok (.lstore i, 2)) (hi : i + 1 < nL) (hc : lcat L i = true) (kk : V κ cl sl w (pc + 2) ((L.set i (some (.long x))).set (i + 1) none) st) : V κ cl sl w pc L (.long x :: st) := by
  obtain ⟨p, l, e, R, s, m, args, below, meth, c, nL0, D0, A, Q⟩ := κ
  obtain ⟨hx, hb, hml, hnl, hts, hown, hK, hA, hR, hret, hlo, hl0, hD0, hnm⟩ := C
  subst hnl
  intro H locs ls hP hD hS hl
  exact lv_lstore hx hb hdg hl hi rfl (fun ls1 hl1 => kk H locs ls1 hP hD hS (prs_store2 hl1 hc))
theorem V.iinc (C : Cx κ l0 D cc own Ts nL ret tys rm nm) {i : Nat} {n : Int} {x v : Int32} (hdg : decode cc pc = .ok (.iinc i n, 3)) (h0 : L[i]? = some (some (.int x))) (hv : x + Int32.ofInt n = v) (hi : i < nL) (hc : lcat L i = true) (kk : V κ cl sl w (pc + 3) (L.set i (some (.int v))) st) : V κ cl sl w pc L st := by
  obtain ⟨p, l, e, R, s, m, args, below, meth, c, nL0, D0, A, Q⟩ := κ
  obtain ⟨hx, hb, hml, hnl, hts, hown, hK, hA, hR, hret, hlo, hl0, hD0, hnm⟩ := C
  subst hnl
  intro H locs ls hP hD hS hl
  obtain ⟨k, hk⟩ := List.getElem?_of_mem ((prs_mem L 0 i (.int x)).mpr ⟨Nat.zero_le _, h0⟩)
  exact lv_iinc hx hb hdg hl hk hv hi rfl (fun ls1 hl1 => kk H locs ls1 hP hD hS (prs_store hl1 hc))
theorem V.icmp_eq (C : Cx κ l0 D cc own Ts nL ret tys rm nm) {x y : Int32} {off : Int} {tgt : Nat} (hdg : decode cc pc = .ok (.if_icmp .eq off, 3)) (ht : (pc : Int) + off = (tgt : Int)) (kt : x = y → V κ cl sl w tgt L st) (kf : ¬ x = y → V κ cl sl w (pc + 3) L st) : V κ cl sl w pc L (.int y :: .int x :: st) := by
  obtain ⟨p, l, e, R, s, m, args, below, meth, c, nL0, D0, A, Q⟩ := κ
  obtain ⟨hx, hb, hml, hnl, hts, hown, hK, hA, hR, hret, hlo, hl0, hD0, hnm⟩ := C
  subst hnl
  intro H locs ls hP hD hS hl
  exact lv_icmp_eq hx hb hdg ht (fun h => kt h H locs ls hP hD hS hl) (fun h => kf h H locs ls hP hD hS hl)
theorem V.if_eq (C : Cx κ l0 D cc own Ts nL ret tys rm nm) {x : Int32} {off : Int} {tgt : Nat} (hdg : decode cc pc = .ok (.ifCond .eq off, 3)) (ht : (pc : Int) + off = (tgt : Int)) (kt : x = 0 → V κ cl sl w tgt L st) (kf : ¬ x = 0 → V κ cl sl w (pc + 3) L st) : V κ cl sl w pc L (.int x :: st) := by
  obtain ⟨p, l, e, R, s, m, args, below, meth, c, nL0, D0, A, Q⟩ := κ
  obtain ⟨hx, hb, hml, hnl, hts, hown, hK, hA, hR, hret, hlo, hl0, hD0, hnm⟩ := C
  subst hnl
  intro H locs ls hP hD hS hl
  exact lv_if_eq hx hb hdg ht (fun h => kt h H locs ls hP hD hS hl) (fun h => kf h H locs ls hP hD hS hl)
theorem V.icmp_ne (C : Cx κ l0 D cc own Ts nL ret tys rm nm) {x y : Int32} {off : Int} {tgt : Nat} (hdg : decode cc pc = .ok (.if_icmp .ne off, 3)) (ht : (pc : Int) + off = (tgt : Int)) (kt : ¬ x = y → V κ cl sl w tgt L st) (kf : x = y → V κ cl sl w (pc + 3) L st) : V κ cl sl w pc L (.int y :: .int x :: st) := by
  obtain ⟨p, l, e, R, s, m, args, below, meth, c, nL0, D0, A, Q⟩ := κ
  obtain ⟨hx, hb, hml, hnl, hts, hown, hK, hA, hR, hret, hlo, hl0, hD0, hnm⟩ := C
  subst hnl
  intro H locs ls hP hD hS hl
  exact lv_icmp_ne hx hb hdg ht (fun h => kt h H locs ls hP hD hS hl) (fun h => kf h H locs ls hP hD hS hl)
theorem V.if_ne (C : Cx κ l0 D cc own Ts nL ret tys rm nm) {x : Int32} {off : Int} {tgt : Nat} (hdg : decode cc pc = .ok (.ifCond .ne off, 3)) (ht : (pc : Int) + off = (tgt : Int)) (kt : ¬ x = 0 → V κ cl sl w tgt L st) (kf : x = 0 → V κ cl sl w (pc + 3) L st) : V κ cl sl w pc L (.int x :: st) := by
  obtain ⟨p, l, e, R, s, m, args, below, meth, c, nL0, D0, A, Q⟩ := κ
  obtain ⟨hx, hb, hml, hnl, hts, hown, hK, hA, hR, hret, hlo, hl0, hD0, hnm⟩ := C
  subst hnl
  intro H locs ls hP hD hS hl
  exact lv_if_ne hx hb hdg ht (fun h => kt h H locs ls hP hD hS hl) (fun h => kf h H locs ls hP hD hS hl)
theorem V.icmp_lt (C : Cx κ l0 D cc own Ts nL ret tys rm nm) {x y : Int32} {off : Int} {tgt : Nat} (hdg : decode cc pc = .ok (.if_icmp .lt off, 3)) (ht : (pc : Int) + off = (tgt : Int)) (kt : x < y → V κ cl sl w tgt L st) (kf : ¬ x < y → V κ cl sl w (pc + 3) L st) : V κ cl sl w pc L (.int y :: .int x :: st) := by
  obtain ⟨p, l, e, R, s, m, args, below, meth, c, nL0, D0, A, Q⟩ := κ
  obtain ⟨hx, hb, hml, hnl, hts, hown, hK, hA, hR, hret, hlo, hl0, hD0, hnm⟩ := C
  subst hnl
  intro H locs ls hP hD hS hl
  exact lv_icmp_lt hx hb hdg ht (fun h => kt h H locs ls hP hD hS hl) (fun h => kf h H locs ls hP hD hS hl)
theorem V.if_lt (C : Cx κ l0 D cc own Ts nL ret tys rm nm) {x : Int32} {off : Int} {tgt : Nat} (hdg : decode cc pc = .ok (.ifCond .lt off, 3)) (ht : (pc : Int) + off = (tgt : Int)) (kt : x < 0 → V κ cl sl w tgt L st) (kf : ¬ x < 0 → V κ cl sl w (pc + 3) L st) : V κ cl sl w pc L (.int x :: st) := by
  obtain ⟨p, l, e, R, s, m, args, below, meth, c, nL0, D0, A, Q⟩ := κ
  obtain ⟨hx, hb, hml, hnl, hts, hown, hK, hA, hR, hret, hlo, hl0, hD0, hnm⟩ := C
  subst hnl
  intro H locs ls hP hD hS hl
  exact lv_if_lt hx hb hdg ht (fun h => kt h H locs ls hP hD hS hl) (fun h => kf h H locs ls hP hD hS hl)
theorem V.icmp_ge (C : Cx κ l0 D cc own Ts nL ret tys rm nm) {x y : Int32} {off : Int} {tgt : Nat} (hdg : decode cc pc = .ok (.if_icmp .ge off, 3)) (ht : (pc : Int) + off = (tgt : Int)) (kt : ¬ x < y → V κ cl sl w tgt L st) (kf : x < y → V κ cl sl w (pc + 3) L st) : V κ cl sl w pc L (.int y :: .int x :: st) := by
  obtain ⟨p, l, e, R, s, m, args, below, meth, c, nL0, D0, A, Q⟩ := κ
  obtain ⟨hx, hb, hml, hnl, hts, hown, hK, hA, hR, hret, hlo, hl0, hD0, hnm⟩ := C
  subst hnl
  intro H locs ls hP hD hS hl
  exact lv_icmp_ge hx hb hdg ht (fun h => kt (Int32.not_lt.mpr h) H locs ls hP hD hS hl) (fun h => kf (Int32.not_le.mp h) H locs ls hP hD hS hl)
theorem V.if_ge (C : Cx κ l0 D cc own Ts nL ret tys rm nm) {x : Int32} {off : Int} {tgt : Nat} (hdg : decode cc pc = .ok (.ifCond .ge off, 3)) (ht : (pc : Int) + off = (tgt : Int)) (kt : ¬ x < 0 → V κ cl sl w tgt L st) (kf : x < 0 → V κ cl sl w (pc + 3) L st) : V κ cl sl w pc L (.int x :: st) := by
  obtain ⟨p, l, e, R, s, m, args, below, meth, c, nL0, D0, A, Q⟩ := κ
  obtain ⟨hx, hb, hml, hnl, hts, hown, hK, hA, hR, hret, hlo, hl0, hD0, hnm⟩ := C
  subst hnl
  intro H locs ls hP hD hS hl
  exact lv_if_ge hx hb hdg ht (fun h => kt (Int32.not_lt.mpr h) H locs ls hP hD hS hl) (fun h => kf (Int32.not_le.mp h) H locs ls hP hD hS hl)
theorem V.icmp_gt (C : Cx κ l0 D cc own Ts nL ret tys rm nm) {x y : Int32} {off : Int} {tgt : Nat} (hdg : decode cc pc = .ok (.if_icmp .gt off, 3)) (ht : (pc : Int) + off = (tgt : Int)) (kt : y < x → V κ cl sl w tgt L st) (kf : ¬ y < x → V κ cl sl w (pc + 3) L st) : V κ cl sl w pc L (.int y :: .int x :: st) := by
  obtain ⟨p, l, e, R, s, m, args, below, meth, c, nL0, D0, A, Q⟩ := κ
  obtain ⟨hx, hb, hml, hnl, hts, hown, hK, hA, hR, hret, hlo, hl0, hD0, hnm⟩ := C
  subst hnl
  intro H locs ls hP hD hS hl
  exact lv_icmp_gt hx hb hdg ht (fun h => kt h H locs ls hP hD hS hl) (fun h => kf h H locs ls hP hD hS hl)
theorem V.if_gt (C : Cx κ l0 D cc own Ts nL ret tys rm nm) {x : Int32} {off : Int} {tgt : Nat} (hdg : decode cc pc = .ok (.ifCond .gt off, 3)) (ht : (pc : Int) + off = (tgt : Int)) (kt : 0 < x → V κ cl sl w tgt L st) (kf : ¬ 0 < x → V κ cl sl w (pc + 3) L st) : V κ cl sl w pc L (.int x :: st) := by
  obtain ⟨p, l, e, R, s, m, args, below, meth, c, nL0, D0, A, Q⟩ := κ
  obtain ⟨hx, hb, hml, hnl, hts, hown, hK, hA, hR, hret, hlo, hl0, hD0, hnm⟩ := C
  subst hnl
  intro H locs ls hP hD hS hl
  exact lv_if_gt hx hb hdg ht (fun h => kt h H locs ls hP hD hS hl) (fun h => kf h H locs ls hP hD hS hl)
theorem V.icmp_le (C : Cx κ l0 D cc own Ts nL ret tys rm nm) {x y : Int32} {off : Int} {tgt : Nat} (hdg : decode cc pc = .ok (.if_icmp .le off, 3)) (ht : (pc : Int) + off = (tgt : Int)) (kt : ¬ y < x → V κ cl sl w tgt L st) (kf : y < x → V κ cl sl w (pc + 3) L st) : V κ cl sl w pc L (.int y :: .int x :: st) := by
  obtain ⟨p, l, e, R, s, m, args, below, meth, c, nL0, D0, A, Q⟩ := κ
  obtain ⟨hx, hb, hml, hnl, hts, hown, hK, hA, hR, hret, hlo, hl0, hD0, hnm⟩ := C
  subst hnl
  intro H locs ls hP hD hS hl
  exact lv_icmp_le hx hb hdg ht (fun h => kt (Int32.not_lt.mpr h) H locs ls hP hD hS hl) (fun h => kf (Int32.not_le.mp h) H locs ls hP hD hS hl)
theorem V.if_le (C : Cx κ l0 D cc own Ts nL ret tys rm nm) {x : Int32} {off : Int} {tgt : Nat} (hdg : decode cc pc = .ok (.ifCond .le off, 3)) (ht : (pc : Int) + off = (tgt : Int)) (kt : ¬ 0 < x → V κ cl sl w tgt L st) (kf : 0 < x → V κ cl sl w (pc + 3) L st) : V κ cl sl w pc L (.int x :: st) := by
  obtain ⟨p, l, e, R, s, m, args, below, meth, c, nL0, D0, A, Q⟩ := κ
  obtain ⟨hx, hb, hml, hnl, hts, hown, hK, hA, hR, hret, hlo, hl0, hD0, hnm⟩ := C
  subst hnl
  intro H locs ls hP hD hS hl
  exact lv_if_le hx hb hdg ht (fun h => kt (Int32.not_lt.mpr h) H locs ls hP hD hS hl) (fun h => kf (Int32.not_le.mp h) H locs ls hP hD hS hl)
theorem V.goto (C : Cx κ l0 D cc own Ts nL ret tys rm nm) {off : Int} {tgt : Nat} (hdg : decode cc pc = .ok (.goto off, 3)) (ht : (pc : Int) + off = (tgt : Int)) (kk : V κ cl sl w tgt L st) : V κ cl sl w pc L st := by
  obtain ⟨p, l, e, R, s, m, args, below, meth, c, nL0, D0, A, Q⟩ := κ
  obtain ⟨hx, hb, hml, hnl, hts, hown, hK, hA, hR, hret, hlo, hl0, hD0, hnm⟩ := C
  subst hnl
  intro H locs ls hP hD hS hl
  exact lv_goto hx hb hdg ht (kk H locs ls hP hD hS hl)
theorem V.tableOut (C : Cx κ l0 D cc own Ts nL ret tys rm nm) {dflt lo hi : Int} {offs : Array Int} {len : Nat} {x : Int32} {tgt : Nat} (hdg : decode cc pc = .ok (.tableswitch dflt lo hi offs, len)) (h : x.toInt < lo ∨ hi < x.toInt) (ht : (pc : Int) + dflt = (tgt : Int)) (kk : V κ cl sl w tgt L st) : V κ cl sl w pc L (.int x :: st) := by
  obtain ⟨p, l, e, R, s, m, args, below, meth, c, nL0, D0, A, Q⟩ := κ
  obtain ⟨hx, hb, hml, hnl, hts, hown, hK, hA, hR, hret, hlo, hl0, hD0, hnm⟩ := C
  subst hnl
  intro H locs ls hP hD hS hl
  exact lv_tableOut hx hb hdg h ht (kk H locs ls hP hD hS hl)
theorem V.tableIn (C : Cx κ l0 D cc own Ts nL ret tys rm nm) {dflt lo hi : Int} {offs : Array Int} {len : Nat} {x : Int32} {off : Int} {tgt : Nat} (hdg : decode cc pc = .ok (.tableswitch dflt lo hi offs, len)) (h1 : ¬ x.toInt < lo) (h2 : ¬ hi < x.toInt) (ho : offs[(x.toInt - lo).toNat]? = some off) (ht : (pc : Int) + off = (tgt : Int)) (kk : V κ cl sl w tgt L st) : V κ cl sl w pc L (.int x :: st) := by
  obtain ⟨p, l, e, R, s, m, args, below, meth, c, nL0, D0, A, Q⟩ := κ
  obtain ⟨hx, hb, hml, hnl, hts, hown, hK, hA, hR, hret, hlo, hl0, hD0, hnm⟩ := C
  subst hnl
  intro H locs ls hP hD hS hl
  exact lv_tableIn hx hb hdg h1 h2 ho ht (kk H locs ls hP hD hS hl)
theorem V.get (C : Cx κ l0 D cc own Ts nL ret tys rm nm) {q0 ci k N index a : Nat} {C0 ref : String} {T : u_T} {fs : List Value} {v : Value} (he : w[q0]? = some (a, .inr (ci, fs))) (hc : vwCl[ci]? = some (C0, T, N)) (hk : k < N) (hin : ∀ z ∈ u_ws C0 T N, z ∈ Ts) (hlk : Cond.fieldLink own index ref (T k).2.1 (T k).2.2.1 ∈ Ts) (href : ref = (T k).1) (hv : fs[k]? = some v) (hdg : decode cc pc = .ok (.getfield index, 3)) (kk : V κ cl sl w (pc + 3) L (v :: st)) : V κ cl sl w pc L (.ref a :: st) := by
  obtain ⟨p, l, e, R, s, m, args, below, meth, c, nL0, D0, A, Q⟩ := κ
  obtain ⟨hx, hb, hml, hnl, hts, hown, hK, hA, hR, hret, hlo, hl0, hD0, hnm⟩ := C
  subst hnl
  intro H locs ls hP hD hS hl
  subst hD0
  subst href
  exact va_get hx hb hts hin hown hK.1 hP q0 he hc k hk (hts _ hlk) (fun _ h => h) hv hdg (kk H locs ls hP hD hS hl)
theorem V.put (C : Cx κ l0 D cc own Ts nL ret tys rm nm) {q0 ci k N index a : Nat} {C0 ref : String} {T : u_T} {fs : List Value} {v : Value} {ty : FieldType} {w' : va_W} (he : w[q0]? = some (a, .inr (ci, fs))) (hc : vwCl[ci]? = some (C0, T, N)) (hk : k < N) (hin : ∀ z ∈ u_ws C0 T N, z ∈ Ts) (hlk : Cond.fieldLink own index ref (T k).2.1 (T k).2.2.1 ∈ Ts) (href : ref = (T k).1) (ty0 : Nat → FieldType) (hty : ∀ k, k < N → parseFieldDescriptor (T k).2.2.1 = some (ty0 k)) (hnmf : ∀ a, a < N → ∀ b, b < N → a ≠ b → (T a).2.1 ≠ (T b).2.1) (hfin : (T k).2.2.2 = false) (hd : ty0 k = ty) (hn : narrow ty v = v) (hfit : fits ty v = true) (hlen : k < fs.length) (hw' : w.set q0 (a, .inr (ci, fs.set k v)) = w') (hdg : decode cc pc = .ok (.putfield index, 3)) (kk : V κ cl sl w' (pc + 3) L st) : V κ cl sl w pc L (v :: .ref a :: st) := by
  obtain ⟨p, l, e, R, s, m, args, below, meth, c, nL0, D0, A, Q⟩ := κ
  obtain ⟨hx, hb, hml, hnl, hts, hown, hK, hA, hR, hret, hlo, hl0, hD0, hnm⟩ := C
  subst hnl
  intro H locs ls hP hD hS hl
  subst hD0
  subst href
  subst hw'
  subst hd
  exact va_put hx hb hts hin ty0 hty hnmf hown hK.1 hP hD hS q0 he hc k hk (hts _ hlk) (fun _ h => h) hfin (hty k hk) hn hfit hlen hdg (fun H1 locs1 hP1 hD1 hS1 => kk H1 locs1 ls hP1 hD1 hS1 hl)
theorem V.iald (C : Cx κ l0 D cc own Ts nL ret tys rm nm) {q0 t0 a n j : Nat} {cA : ClassId} {f : Nat → Int32} {i : Int32} (he : w[q0]? = some (a, .inl (cA, n, .inl f))) (ht : tys[t0]? = some (cA, .int)) (hi : i = nI j) (hj : j < n) (hn : n < 2 ^ 31) (hdg : decode cc pc = .ok (.iaload, 1)) (kk : V κ cl sl w (pc + 1) L (.int (f j) :: st)) : V κ cl sl w pc L (.int i :: .ref a :: st) := by
  subst hi
  obtain ⟨p, l, e, R, s, m, args, below, meth, c, nL0, D0, A, Q⟩ := κ
  obtain ⟨hx, hb, hml, hnl, hts, hown, hK, hA, hR, hret, hlo, hl0, hD0, hnm⟩ := C
  subst hnl
  intro H locs ls hP hD hS hl
  subst hD0
  refine va_iald hx hb hK.1 hP q0 t0 he ht (vp_in_nI hj hn) hdg ?_
  rw [nI_clamp (by omega)]
  exact kk H locs ls hP hD hS hl
theorem V.iast (C : Cx κ l0 D cc own Ts nL ret tys rm nm) {q0 t0 a n j : Nat} {cA : ClassId} {f : Nat → Int32} {i x : Int32} {w' : va_W} (he : w[q0]? = some (a, .inl (cA, n, .inl f))) (ht : tys[t0]? = some (cA, .int)) (hi : i = nI j) (hj : j < n) (hn : n < 2 ^ 31) (hw' : w.set q0 (a, .inl (cA, n, .inl (upd f j x))) = w') (hdg : decode cc pc = .ok (.iastore, 1)) (kk : V κ cl sl w' (pc + 1) L st) : V κ cl sl w pc L (.int x :: .int i :: .ref a :: st) := by
  subst hi
  obtain ⟨p, l, e, R, s, m, args, below, meth, c, nL0, D0, A, Q⟩ := κ
  obtain ⟨hx, hb, hml, hnl, hts, hown, hK, hA, hR, hret, hlo, hl0, hD0, hnm⟩ := C
  subst hnl
  intro H locs ls hP hD hS hl
  subst hD0
  subst hw'
  refine va_iast hx hb hK.1 hP hD hS q0 t0 he ht (vp_in_nI hj hn) hdg (fun H1 locs1 hP1 hD1 hS1 => ?_)
  rw [nI_clamp (by omega)] at hP1 hD1
  exact kk H1 locs1 ls hP1 hD1 hS1 hl
theorem V.alen (C : Cx κ l0 D cc own Ts nL ret tys rm nm) {q0 t0 a : Nat} {cA : ClassId} {x : vp_A} {ty : FieldType} (he : w[q0]? = some (a, .inl (cA, x))) (ht : tys[t0]? = some (cA, ty)) (hdg : decode cc pc = .ok (.arraylength, 1)) (kk : V κ cl sl w (pc + 1) L (.int (nI x.1) :: st)) : V κ cl sl w pc L (.ref a :: st) := by
  obtain ⟨p, l, e, R, s, m, args, below, meth, c, nL0, D0, A, Q⟩ := κ
  obtain ⟨hx, hb, hml, hnl, hts, hown, hK, hA, hR, hret, hlo, hl0, hD0, hnm⟩ := C
  subst hnl
  intro H locs ls hP hD hS hl
  subst hD0
  exact va_alen hx hb hK.1 hP q0 t0 he ht (v := nI x.1) rfl hdg (kk H locs ls hP hD hS hl)
end VVB
section VVC
variable {κ : VK} {l0 : Launch} {D : va_G} {cc : ByteArray} {own : String} {Ts : List Cond} {nL : Nat} {ret : Option FieldType} {tys : List (ClassId × FieldType)} {rm : Room} {nm : String} {cl sl pc : Nat} {w : va_W} {L : List (Option Value)} {st : List Value}
/-- behind the run of a call, with a frame -/
theorem V.behind {p : Program} {l : Launch} {e : Env} {R : Room} {s : State} {m : MethodId} {args : Array Value} {below : List Frame} {meth : Method} {c : Code} {A : Nat → Prop} {Q : State → Prop} {mc ms : Nat} {H : Heap} {locs : List Loc} {ls : Array Slot} {st0 rest : List Value} {a : Array Value} {w0 X : va_W} {post : Option Value → va_W → Prop}
    (hr : va_Run p l e R s m args below meth c H locs cl sl mc ms (F0 m pc ls st0) rest (Qx D post (va_A w0 H.size) a) (va_A w0 H.size)) (hP : va_P D vwCl (w0 ++ X) H) (hD : va_D A (w0 ++ X)) (hS : va_S A s.heap H locs) (hA : ∀ q : Nat, s.heap.size ≤ q → A q) (hl : lv_has ls nL (prs 0 L))
    (kk : ∀ (rv : Option Value) (w1 : va_W), post rv w1 → V (p, l, e, R, s, m, args, below, meth, c, nL, D, A, Q) (cl + mc) (sl + ms) (w1 ++ X) (pc + 3) L (rv.toList ++ rest)) : W p l e R s m args below meth c H locs cl sl Q (F0 m pc ls st0) := by
  have hD0 := (sub_left hP hD).2
  have hF : ∀ q, va_A w0 H.size q → A q := by
    rintro q (⟨k, e9, h⟩ | h)
    · exact hD0.2 k (q, e9) h
    · exact hA q (Nat.le_trans hS.1 h)
  intro T hT Xs
  obtain ⟨v, st₀, t, T', Ls, h0, X', hL, e1, e2, ⟨⟨rv, w1, hv, hp, hP1, hD1⟩, hz, hk⟩, stp⟩ := hr T hT Xs
  cases hv
  rw [h0] at hz hk
  obtain ⟨hP2, hD2⟩ := join_app (H1 := T'.heap) hP hD (fun q h1 h2 => by rw [e1]; exact hk q h1 h2) hF (by rw [e1]; exact hP1) hD1
  obtain ⟨t2, a1, b1⟩ := kk v w1 hp T'.heap (locs ++ Ls) ls hP2 hD2 ⟨Nat.le_trans hS.1 (by rw [e1]; exact hz), fun q h1 h2 => by
      rw [e1, hk q (Nat.lt_of_lt_of_le h1 hS.1) (fun z => h2 (hF q z))]
      exact hS.2.1 q h1 h2, fun q hq => by
      rcases List.mem_append.mp hq with h | h
      · exact hS.2.2 q h
      · exact hF _ (hL q h)⟩ hl T' rfl X'
  exact ⟨t2, stp t2 a1, b1⟩
theorem V.callV (C : Cx κ l0 D cc own Ts nL ret tys rm nm) {y : MethodName} {ws ws' : List Cond} {rm1 : Room} {w0 X : va_W} {As rest : List Value} {post : Option Value → va_W → Prop} {index maxL n : Nat} {bytes : ByteArray} {ret1 : Option FieldType} {C0 : String} {b q0 ci : Nat} {T0 : u_T} {N0 : Nat} {fs : List Value}  (ct : Ct l0 D tys y ws rm1 w0 (.ref b :: As) post) (hw : w = w0 ++ X) (hG : GoodIn Ts (wsV own index C0 y ws)) (hd : y.cls = C0 ∧ y.cls ≠ "java/lang/invoke/MethodHandle" ∧ y.cls ≠ "java/lang/invoke/VarHandle" ∧ (parseMethodDescriptor y.desc).map (fun d => d.parameters.length) = some n) (hn : As.length = n) (hq : w0[q0]? = some (b, .inr (ci, fs))) (hc : vwCl[ci]? = some (C0, T0, N0)) (hws : ws = Cond.code y bytes maxL ret1 :: ws') (hRm : rm1.frames + 1 ≤ rm.frames ∧ 8 + (maxL + 11) + rm1.locals ≤ rm.locals) (hf : cl + rm1.cells ≤ rm.cells ∧ sl + rm1.slots ≤ rm.slots) (h8 : (rest.map fun v => v.category).sum ≤ 8) (hst : st = As.reverse ++ .ref b :: rest) (hdg : decode cc pc = .ok (.invokevirtual index, 3)) (kk : ∀ (rv : Option Value) (w1 : va_W), post rv w1 → V κ (cl + rm1.cells) (sl + rm1.slots) (w1 ++ X) (pc + 3) L (rv.toList ++ rest)) : V κ cl sl w pc L st := by
  subst hw
  subst hst
  obtain ⟨p, l, e, R, s, m, args, below, meth, c, nL0, D0, A, Q⟩ := κ
  obtain ⟨hx, hb, hml, hnl, hts, hown, hK, hA, hR, hret, hlo, hl0, hD0, hnm⟩ := C
  subst hnl
  intro H locs ls hP hD hS hl
  subst hD0
  subst hl0
  subst hR
  obtain ⟨hPc, hDc⟩ := sub_left hP hD
  refine V.behind (va_runV (As := As) (rest := rest) ⟨hx, hb, hml, hown, hts⟩ (ct H.size) (cwV n hts hG hws rfl rfl hd hRm) ⟨fun a U g mk q => by obtain ⟨q0, q1, qP, qK, qD⟩ := q; exact ⟨q0, q1, qP, qK.calling, qD⟩, va_recv hK.1 hPc hc hq, fun U hU hW => ⟨rfl, by rw [hU], by rw [hU]; exact hPc, hK.warm hW, hDc.weaken (fun _ _ _ _ => trivial)⟩⟩ rfl hn hl.1 rfl (lv_room h8) hdg hf) hP hD hS hA hl kk
theorem V.callS (C : Cx κ l0 D cc own Ts nL ret tys rm nm) {y : MethodName} {ws ws' : List Cond} {rm1 : Room} {w0 X : va_W} {As rest : List Value} {post : Option Value → va_W → Prop} {index maxL n : Nat} {bytes : ByteArray} {ret1 : Option FieldType}   (ct : Ct l0 D tys y ws rm1 w0 (As) post) (hw : w = w0 ++ X) (hG : GoodIn Ts (wsS own index y ws)) (hd : y.cls = own ∧ y.cls ≠ "java/lang/invoke/MethodHandle" ∧ y.cls ≠ "java/lang/invoke/VarHandle" ∧ (parseMethodDescriptor y.desc).map (fun d => d.parameters.length) = some n) (hn : As.length = n) (hws : ws = Cond.code y bytes maxL ret1 :: ws') (hRm : rm1.frames + 1 ≤ rm.frames ∧ 8 + (maxL + 11) + rm1.locals ≤ rm.locals) (hf : cl + rm1.cells ≤ rm.cells ∧ sl + rm1.slots ≤ rm.slots) (h8 : (rest.map fun v => v.category).sum ≤ 8) (hst : st = As.reverse ++ rest) (hdg : decode cc pc = .ok (.invokestatic index, 3)) (kk : ∀ (rv : Option Value) (w1 : va_W), post rv w1 → V κ (cl + rm1.cells) (sl + rm1.slots) (w1 ++ X) (pc + 3) L (rv.toList ++ rest)) : V κ cl sl w pc L st := by
  subst hw
  subst hst
  obtain ⟨p, l, e, R, s, m, args, below, meth, c, nL0, D0, A, Q⟩ := κ
  obtain ⟨hx, hb, hml, hnl, hts, hown, hK, hA, hR, hret, hlo, hl0, hD0, hnm⟩ := C
  subst hnl
  intro H locs ls hP hD hS hl
  subst hD0
  subst hl0
  subst hR
  obtain ⟨hPc, hDc⟩ := sub_left hP hD
  refine V.behind (va_runS (As := As) (rest := rest) ⟨hx, hb, hml, hown, hts⟩ (ct H.size) (cwS n hts hG hws rfl rfl hd hRm) ⟨fun a U g mk q => by obtain ⟨q0, q1, qP, qK, qD⟩ := q; exact ⟨q0, q1, qP, qK.calling, qD⟩, fun U hU hW => ⟨rfl, by rw [hU], by rw [hU]; exact hPc, hK.warm hW, hDc.weaken (fun _ _ _ _ => trivial)⟩⟩ rfl hn hl.1 rfl (lv_room h8) hdg hf) hP hD hS hA hl kk
theorem V.callSN (C : Cx κ l0 D cc own Ts nL ret tys rm nm) {y : MethodName} {ws ws' : List Cond} {rm1 : Room} {w0 X : va_W} {As rest : List Value} {post : Option Value → va_W → Prop} {index maxL n : Nat} {bytes : ByteArray} {ret1 : Option FieldType} {host : String}  (ct : Ct l0 D tys y ws rm1 w0 (As) post) (hw : w = w0 ++ X) (hG : GoodIn Ts ws) (hnw : ∀ U : State, NW U → va_Nw (.methodLinkNest own index y host) U) (hini : Cond.initialized y.cls ∈ Ts) (hsta : Cond.static y ∈ Ts) (hd : y.cls ≠ "java/lang/invoke/MethodHandle" ∧ y.cls ≠ "java/lang/invoke/VarHandle" ∧ (parseMethodDescriptor y.desc).map (fun d => d.parameters.length) = some n) (hn : As.length = n) (hws : ws = Cond.code y bytes maxL ret1 :: ws') (hRm : rm1.frames + 1 ≤ rm.frames ∧ 8 + (maxL + 11) + rm1.locals ≤ rm.locals) (hf : cl + rm1.cells ≤ rm.cells ∧ sl + rm1.slots ≤ rm.slots) (h8 : (rest.map fun v => v.category).sum ≤ 8) (hst : st = As.reverse ++ rest) (hdg : decode cc pc = .ok (.invokestatic index, 3)) (kk : ∀ (rv : Option Value) (w1 : va_W), post rv w1 → V κ (cl + rm1.cells) (sl + rm1.slots) (w1 ++ X) (pc + 3) L (rv.toList ++ rest)) : V κ cl sl w pc L st := by
  subst hw
  subst hst
  obtain ⟨p, l, e, R, s, m, args, below, meth, c, nL0, D0, A, Q⟩ := κ
  obtain ⟨hx, hb, hml, hnl, hts, hown, hK, hA, hR, hret, hlo, hl0, hD0, hnm⟩ := C
  subst hnl
  intro H locs ls hP hD hS hl
  subst hD0
  subst hl0
  subst hR
  obtain ⟨hPc, hDc⟩ := sub_left hP hD
  refine V.behind (va_runSN (As := As) (rest := rest) ⟨hx, hb, hml, hown, hts⟩ (ct H.size) ⟨va_cnB n hts hG hws rfl rfl (hnw _ hK.2) (hts _ hini) hd hRm, hts _ hsta, trivial⟩ ⟨fun a U g mk q => by obtain ⟨q0, q1, qP, qK, qD⟩ := q; exact ⟨q0, q1, qP, qK.calling, qD⟩, fun U hU hW => ⟨rfl, by rw [hU], by rw [hU]; exact hPc, hK.warm hW, hDc.weaken (fun _ _ _ _ => trivial)⟩⟩ rfl hn hl.1 rfl (lv_room h8) hdg hf) hP hD hS hA hl kk
theorem V.callVi (C : Cx κ l0 D cc own Ts nL ret tys rm nm) {y : MethodName} {ws ws' : List Cond} {rm1 : Room} {As rest : List Value} {index maxL n : Nat} {bytes : ByteArray} {ret1 : Option FieldType} {w1 : va_W} {v : Value} {C0 : String} {b q0 ci : Nat} {T0 : u_T} {N0 : Nat} {fs : List Value} (ct : Cd l0 D tys y ws rm1 w (.ref b :: As) (some v) w1) (hG : GoodIn Ts (wsV own index C0 y ws)) (hd : y.cls = C0 ∧ y.cls ≠ "java/lang/invoke/MethodHandle" ∧ y.cls ≠ "java/lang/invoke/VarHandle" ∧ (parseMethodDescriptor y.desc).map (fun d => d.parameters.length) = some n) (hn : As.length = n) (hq : w[q0]? = some (b, .inr (ci, fs))) (hc : vwCl[ci]? = some (C0, T0, N0)) (hws : ws = Cond.code y bytes maxL ret1 :: ws') (hst : st = As.reverse ++ .ref b :: rest) (hRm : rm1.frames + 1 ≤ rm.frames ∧ 8 + (maxL + 11) + rm1.locals ≤ rm.locals) (h00 : rm1.cells = 0 ∧ rm1.slots = 0 ∧ cl ≤ rm.cells ∧ sl ≤ rm.slots) (h8 : (rest.map fun v => v.category).sum ≤ 8) (hdg : decode cc pc = .ok (.invokevirtual index, 3)) (kk : V κ cl sl w1 (pc + 3) L (v :: rest)) : V κ cl sl w pc L st := by
  refine V.callV (X := []) (w0 := w) C ct (List.append_nil w).symm hG hd hn hq hc hws hRm ⟨by rw [h00.1]; exact h00.2.2.1, by rw [h00.2.1]; exact h00.2.2.2⟩ h8 hst hdg (fun rv w2 hp => ?_)
  obtain ⟨rfl, rfl⟩ := hp
  rw [List.append_nil, h00.1, h00.2.1]
  exact kk
theorem V.callVv (C : Cx κ l0 D cc own Ts nL ret tys rm nm) {y : MethodName} {ws ws' : List Cond} {rm1 : Room} {As rest : List Value} {index maxL n : Nat} {bytes : ByteArray} {ret1 : Option FieldType} {w1 : va_W} {C0 : String} {b q0 ci : Nat} {T0 : u_T} {N0 : Nat} {fs : List Value} (ct : Cd l0 D tys y ws rm1 w (.ref b :: As) (none) w1) (hG : GoodIn Ts (wsV own index C0 y ws)) (hd : y.cls = C0 ∧ y.cls ≠ "java/lang/invoke/MethodHandle" ∧ y.cls ≠ "java/lang/invoke/VarHandle" ∧ (parseMethodDescriptor y.desc).map (fun d => d.parameters.length) = some n) (hn : As.length = n) (hq : w[q0]? = some (b, .inr (ci, fs))) (hc : vwCl[ci]? = some (C0, T0, N0)) (hws : ws = Cond.code y bytes maxL ret1 :: ws') (hst : st = As.reverse ++ .ref b :: rest) (hRm : rm1.frames + 1 ≤ rm.frames ∧ 8 + (maxL + 11) + rm1.locals ≤ rm.locals) (h00 : rm1.cells = 0 ∧ rm1.slots = 0 ∧ cl ≤ rm.cells ∧ sl ≤ rm.slots) (h8 : (rest.map fun v => v.category).sum ≤ 8) (hdg : decode cc pc = .ok (.invokevirtual index, 3)) (kk : V κ cl sl w1 (pc + 3) L (rest)) : V κ cl sl w pc L st := by
  refine V.callV (X := []) (w0 := w) C ct (List.append_nil w).symm hG hd hn hq hc hws hRm ⟨by rw [h00.1]; exact h00.2.2.1, by rw [h00.2.1]; exact h00.2.2.2⟩ h8 hst hdg (fun rv w2 hp => ?_)
  obtain ⟨rfl, rfl⟩ := hp
  rw [List.append_nil, h00.1, h00.2.1]
  exact kk
theorem V.callSi (C : Cx κ l0 D cc own Ts nL ret tys rm nm) {y : MethodName} {ws ws' : List Cond} {rm1 : Room} {As rest : List Value} {index maxL n : Nat} {bytes : ByteArray} {ret1 : Option FieldType} {w1 : va_W} {v : Value}  (ct : Cd l0 D tys y ws rm1 w (As) (some v) w1) (hG : GoodIn Ts (wsS own index y ws)) (hd : y.cls = own ∧ y.cls ≠ "java/lang/invoke/MethodHandle" ∧ y.cls ≠ "java/lang/invoke/VarHandle" ∧ (parseMethodDescriptor y.desc).map (fun d => d.parameters.length) = some n) (hn : As.length = n) (hws : ws = Cond.code y bytes maxL ret1 :: ws') (hst : st = As.reverse ++ rest) (hRm : rm1.frames + 1 ≤ rm.frames ∧ 8 + (maxL + 11) + rm1.locals ≤ rm.locals) (h00 : rm1.cells = 0 ∧ rm1.slots = 0 ∧ cl ≤ rm.cells ∧ sl ≤ rm.slots) (h8 : (rest.map fun v => v.category).sum ≤ 8) (hdg : decode cc pc = .ok (.invokestatic index, 3)) (kk : V κ cl sl w1 (pc + 3) L (v :: rest)) : V κ cl sl w pc L st := by
  refine V.callS (X := []) (w0 := w) C ct (List.append_nil w).symm hG hd hn hws hRm ⟨by rw [h00.1]; exact h00.2.2.1, by rw [h00.2.1]; exact h00.2.2.2⟩ h8 hst hdg (fun rv w2 hp => ?_)
  obtain ⟨rfl, rfl⟩ := hp
  rw [List.append_nil, h00.1, h00.2.1]
  exact kk
theorem V.callSv (C : Cx κ l0 D cc own Ts nL ret tys rm nm) {y : MethodName} {ws ws' : List Cond} {rm1 : Room} {As rest : List Value} {index maxL n : Nat} {bytes : ByteArray} {ret1 : Option FieldType} {w1 : va_W}  (ct : Cd l0 D tys y ws rm1 w (As) (none) w1) (hG : GoodIn Ts (wsS own index y ws)) (hd : y.cls = own ∧ y.cls ≠ "java/lang/invoke/MethodHandle" ∧ y.cls ≠ "java/lang/invoke/VarHandle" ∧ (parseMethodDescriptor y.desc).map (fun d => d.parameters.length) = some n) (hn : As.length = n) (hws : ws = Cond.code y bytes maxL ret1 :: ws') (hst : st = As.reverse ++ rest) (hRm : rm1.frames + 1 ≤ rm.frames ∧ 8 + (maxL + 11) + rm1.locals ≤ rm.locals) (h00 : rm1.cells = 0 ∧ rm1.slots = 0 ∧ cl ≤ rm.cells ∧ sl ≤ rm.slots) (h8 : (rest.map fun v => v.category).sum ≤ 8) (hdg : decode cc pc = .ok (.invokestatic index, 3)) (kk : V κ cl sl w1 (pc + 3) L (rest)) : V κ cl sl w pc L st := by
  refine V.callS (X := []) (w0 := w) C ct (List.append_nil w).symm hG hd hn hws hRm ⟨by rw [h00.1]; exact h00.2.2.1, by rw [h00.2.1]; exact h00.2.2.2⟩ h8 hst hdg (fun rv w2 hp => ?_)
  obtain ⟨rfl, rfl⟩ := hp
  rw [List.append_nil, h00.1, h00.2.1]
  exact kk
theorem V.callSNi (C : Cx κ l0 D cc own Ts nL ret tys rm nm) {y : MethodName} {ws ws' : List Cond} {rm1 : Room} {As rest : List Value} {index maxL n : Nat} {bytes : ByteArray} {ret1 : Option FieldType} {w1 : va_W} {v : Value} {host : String} (ct : Cd l0 D tys y ws rm1 w (As) (some v) w1) (hG : GoodIn Ts ws) (hnw : ∀ U : State, NW U → va_Nw (.methodLinkNest own index y host) U) (hini : Cond.initialized y.cls ∈ Ts) (hsta : Cond.static y ∈ Ts) (hd : y.cls ≠ "java/lang/invoke/MethodHandle" ∧ y.cls ≠ "java/lang/invoke/VarHandle" ∧ (parseMethodDescriptor y.desc).map (fun d => d.parameters.length) = some n) (hn : As.length = n) (hws : ws = Cond.code y bytes maxL ret1 :: ws') (hst : st = As.reverse ++ rest) (hRm : rm1.frames + 1 ≤ rm.frames ∧ 8 + (maxL + 11) + rm1.locals ≤ rm.locals) (h00 : rm1.cells = 0 ∧ rm1.slots = 0 ∧ cl ≤ rm.cells ∧ sl ≤ rm.slots) (h8 : (rest.map fun v => v.category).sum ≤ 8) (hdg : decode cc pc = .ok (.invokestatic index, 3)) (kk : V κ cl sl w1 (pc + 3) L (v :: rest)) : V κ cl sl w pc L st := by
  refine V.callSN (X := []) (w0 := w) C ct (List.append_nil w).symm hG hnw hini hsta hd hn hws hRm ⟨by rw [h00.1]; exact h00.2.2.1, by rw [h00.2.1]; exact h00.2.2.2⟩ h8 hst hdg (fun rv w2 hp => ?_)
  obtain ⟨rfl, rfl⟩ := hp
  rw [List.append_nil, h00.1, h00.2.1]
  exact kk
theorem V.callSNv (C : Cx κ l0 D cc own Ts nL ret tys rm nm) {y : MethodName} {ws ws' : List Cond} {rm1 : Room} {As rest : List Value} {index maxL n : Nat} {bytes : ByteArray} {ret1 : Option FieldType} {w1 : va_W} {host : String} (ct : Cd l0 D tys y ws rm1 w (As) (none) w1) (hG : GoodIn Ts ws) (hnw : ∀ U : State, NW U → va_Nw (.methodLinkNest own index y host) U) (hini : Cond.initialized y.cls ∈ Ts) (hsta : Cond.static y ∈ Ts) (hd : y.cls ≠ "java/lang/invoke/MethodHandle" ∧ y.cls ≠ "java/lang/invoke/VarHandle" ∧ (parseMethodDescriptor y.desc).map (fun d => d.parameters.length) = some n) (hn : As.length = n) (hws : ws = Cond.code y bytes maxL ret1 :: ws') (hst : st = As.reverse ++ rest) (hRm : rm1.frames + 1 ≤ rm.frames ∧ 8 + (maxL + 11) + rm1.locals ≤ rm.locals) (h00 : rm1.cells = 0 ∧ rm1.slots = 0 ∧ cl ≤ rm.cells ∧ sl ≤ rm.slots) (h8 : (rest.map fun v => v.category).sum ≤ 8) (hdg : decode cc pc = .ok (.invokestatic index, 3)) (kk : V κ cl sl w1 (pc + 3) L (rest)) : V κ cl sl w pc L st := by
  refine V.callSN (X := []) (w0 := w) C ct (List.append_nil w).symm hG hnw hini hsta hd hn hws hRm ⟨by rw [h00.1]; exact h00.2.2.1, by rw [h00.2.1]; exact h00.2.2.2⟩ h8 hst hdg (fun rv w2 hp => ?_)
  obtain ⟨rfl, rfl⟩ := hp
  rw [List.append_nil, h00.1, h00.2.1]
  exact kk
theorem V.mmax (C : Cx κ l0 D cc own Ts nL ret tys rm nm) {x y : Int32} {index : Nat} (hlk : Cond.methodLink own index Lib.Math.max.name ∈ Ts) (hsta : Cond.static Lib.Math.max.name ∈ Ts) (hini : Cond.initialized "java/lang/Math" ∈ Ts) (hco : Cond.code Lib.Math.max.name Lib.Math.max.code 2 (some .int) ∈ Ts) (hfr : 1 ≤ rm.frames) (hlo1 : (st.map fun v => v.category).sum + 13 ≤ rm.locals) (hcl : cl ≤ rm.cells) (hsl : sl ≤ rm.slots) (hdg : decode cc pc = .ok (.invokestatic index, 3)) (kk : V κ cl sl w (pc + 3) L (.int (if x < y then y else x) :: st)) : V κ cl sl w pc L (.int y :: .int x :: st) := by
  obtain ⟨p, l, e, R, s, m, args, below, meth, c, nL0, D0, A, Q⟩ := κ
  obtain ⟨hx, hb, hml, hnl, hts, hown, hK, hA, hR, hret, hlo, hl0, hD0, hnm⟩ := C
  subst hnl
  intro H locs ls hP hD hS hl
  subst hR
  exact va_mmax hx hb (hml.trans hl.1.symm) hown (hts _ hlk) (hts _ hsta) (hts _ hini) (hts _ hco) hfr hlo1 hcl hsl hdg (kk H locs ls hP hD hS hl)
theorem V.mmin (C : Cx κ l0 D cc own Ts nL ret tys rm nm) {x y : Int32} {index : Nat} (hlk : Cond.methodLink own index Lib.Math.min.name ∈ Ts) (hsta : Cond.static Lib.Math.min.name ∈ Ts) (hini : Cond.initialized "java/lang/Math" ∈ Ts) (hco : Cond.code Lib.Math.min.name Lib.Math.min.code 2 (some .int) ∈ Ts) (hfr : 1 ≤ rm.frames) (hlo1 : (st.map fun v => v.category).sum + 13 ≤ rm.locals) (hcl : cl ≤ rm.cells) (hsl : sl ≤ rm.slots) (hdg : decode cc pc = .ok (.invokestatic index, 3)) (kk : V κ cl sl w (pc + 3) L (.int (if y < x then y else x) :: st)) : V κ cl sl w pc L (.int y :: .int x :: st) := by
  obtain ⟨p, l, e, R, s, m, args, below, meth, c, nL0, D0, A, Q⟩ := κ
  obtain ⟨hx, hb, hml, hnl, hts, hown, hK, hA, hR, hret, hlo, hl0, hD0, hnm⟩ := C
  subst hnl
  intro H locs ls hP hD hS hl
  subst hR
  exact va_mmin hx hb (hml.trans hl.1.symm) hown (hts _ hlk) (hts _ hsta) (hts _ hini) (hts _ hco) hfr hlo1 hcl hsl hdg (kk H locs ls hP hD hS hl)
theorem V.mabs (C : Cx κ l0 D cc own Ts nL ret tys rm nm) {x : Int32} {index : Nat} (hlk : Cond.methodLink own index Lib.Math.abs.name ∈ Ts) (hsta : Cond.static Lib.Math.abs.name ∈ Ts) (hini : Cond.initialized "java/lang/Math" ∈ Ts) (hco : Cond.code Lib.Math.abs.name Lib.Math.abs.code 1 (some .int) ∈ Ts) (hfr : 1 ≤ rm.frames) (hlo1 : (st.map fun v => v.category).sum + 13 ≤ rm.locals) (hcl : cl ≤ rm.cells) (hsl : sl ≤ rm.slots) (hdg : decode cc pc = .ok (.invokestatic index, 3)) (kk : V κ cl sl w (pc + 3) L (.int (if 0 ≤ x then x else 0 - x) :: st)) : V κ cl sl w pc L (.int x :: st) := by
  obtain ⟨p, l, e, R, s, m, args, below, meth, c, nL0, D0, A, Q⟩ := κ
  obtain ⟨hx, hb, hml, hnl, hts, hown, hK, hA, hR, hret, hlo, hl0, hD0, hnm⟩ := C
  subst hnl
  intro H locs ls hP hD hS hl
  subst hR
  exact va_mabs hx hb (hml.trans hl.1.symm) hown (hts _ hlk) (hts _ hsta) (hts _ hini) (hts _ hco) hfr hlo1 hcl hsl hdg (kk H locs ls hP hD hS hl)
def bI (b : Bool) : Int32 := if b then 1 else 0
theorem nar_bI (b : Bool) : narrow .boolean (.int (bI b)) = .int (bI b) := by cases b <;> rfl
theorem bI_t : bI true = 1 := rfl
theorem bI_t2 : bI true = nI 1 := rfl
theorem bI_f2 : bI false = nI 0 := rfl
theorem ne_pos {x : Int32} (h : 0 < x) : ¬ x = 0 := fun e => by rw [e] at h; exact absurd h (by decide)
theorem bI_f : bI false = 0 := rfl
theorem bI_0 {b : Bool} : bI b = 0 ↔ b = false := by cases b <;> decide
/-- one number of the state anew -/
def sW (σ : Nat → Nat → Int32) (k i : Nat) (x : Int32) : Nat → Nat → Int32 := fun a => if a = k then upd (σ k) i x else σ a
theorem sW_at (σ : Nat → Nat → Int32) (k i : Nat) (x : Int32) : sW σ k i x k i = x := by simp [sW, upd]
theorem sW_nk (σ : Nat → Nat → Int32) {k a : Nat} (i : Nat) (x : Int32) (h : a ≠ k) : sW σ k i x a = σ a := by simp [sW, h]
theorem sW_ni (σ : Nat → Nat → Int32) (k : Nat) {i j : Nat} (x : Int32) (h : j ≠ i) : sW σ k i x k j = σ k j := by simp [sW, upd, h]
theorem nI_one : nI 1 = 1 := by decide +kernel
theorem nI_inc (k : Nat) : nI k + Int32.ofInt 1 = nI (k + 1) := by rw [show Int32.ofInt 1 = 1 by decide +kernel]; exact nI_1 k
theorem nI_mul (a b : Nat) : nI a * nI b = nI (a * b) := (Int32.ofNat_mul a b).symm
theorem nI_sub {a b : Nat} (h : b ≤ a) : nI a - nI b = nI (a - b) := by
  have e : a = (a - b) + b := by omega
  rw [e, ← nI_add, Int32.add_sub_cancel, ← e]
end VVC
section VVD
variable {κ : VK} {l0 : Launch} {D : va_G} {cc : ByteArray} {own : String} {Ts : List Cond} {nL : Nat} {ret : Option FieldType} {tys : List (ClassId × FieldType)} {rm : Room} {nm : String} {cl sl pc : Nat} {w : va_W} {L : List (Option Value)} {st : List Value}
/-- the world in another order, or less of it -/
theorem V.reord (is : List Nat) {w' : va_W} (h1 : is.filterMap (fun i => w[i]?) = w') (h2 : va_nd is = true) (h3 : is.map (fun i => w[i]?) = w'.map some) (kk : V κ cl sl w' pc L st) : V κ cl sl w pc L st := by
  obtain ⟨p, l, e, R, s, m, args, below, meth, c, nL0, D0, A, Q⟩ := κ
  intro H locs ls hP hD hS hl
  exact kk H locs ls (hP.sub is h1) (hD.sub is h2 h3) hS hl
theorem V.swapw {w1 w2 : va_W} (kk : V κ cl sl (w2 ++ w1) pc L st) : V κ cl sl (w1 ++ w2) pc L st := by
  obtain ⟨p, l, e, R, s, m, args, below, meth, c, nL0, D0, A, Q⟩ := κ
  intro H locs ls hP hD hS hl
  have hP2 : va_P D0 vwCl (([] ++ w2) ++ w1) H := va_P.swap (a := []) (b := w1) (c := w2) (by simpa using hP)
  have hD2 : va_D A (([] ++ w2) ++ w1) := va_D.swap (a := []) (b := w1) (c := w2) (by simpa using hD)
  exact kk H locs ls (by simpa using hP2) (by simpa using hD2) hS hl
theorem cls_one {D : va_G} {cl : List vw_C} {tys : List (ClassId × FieldType)} {s : State} {cI cA : ClassId} {t0 : Nat} {ty : FieldType} (hp : ∀ C, ty ≠ .object C) (hK : va_K D cl tys s) (ht : tys[t0]? = some (cI, ty)) (hK2 : va_K D cl (tys ++ [(cA, ty)]) s) : cA = cI := by
  have h1 := (hK.2 t0 _ ht).2
  have h2 := (hK2.2 tys.length (cA, ty) (by simp)).2
  cases ty with
  | object C => exact absurd rfl (hp C)
  | _ => exact Option.some.inj (h2.symm.trans h1)
theorem V.newarrayI (C : Cx κ l0 D cc own Ts nL ret tys rm nm) {t0 N : Nat} {cI : ClassId} {n : Int32} (ht : tys[t0]? = some (cI, .int)) (hn : n = nI N) (hN : N < 2 ^ 20) (harr : Cond.arrayClass .int ∈ Ts) (hcells : cl + 1 ≤ rm.cells) (hslots : sl + N ≤ rm.slots) (hdg : decode cc pc = .ok (.newarray .int, 2)) (kk : ∀ q : Nat, V κ (cl + 1) (sl + N) (w ++ [(q, .inl (cI, (N, .inl (fun _ => (0 : Int32)))))]) (pc + 2) L (.ref q :: st)) : V κ cl sl w pc L (.int n :: st) := by
  subst hn
  obtain ⟨p, l, e, R, s, m, args, below, meth, c, nL0, D0, A, Q⟩ := κ
  obtain ⟨hx, hb, hml, hnl, hts, hown, hK, hA, hR, hret, hlo, hl0, hD0, hnm⟩ := C
  subst hnl
  intro H locs ls hP hD hS hl
  subst hD0
  subst hR
  refine va_newa (atype := .int) (ty := .int) (a0 := (N, .inl (fun _ => (0 : Int32)))) hx hb (hts _ harr) rfl hK.1 hP hD hS hA (fun cA => rfl) (nI_pos (by omega)) (nI_clamp (by omega)) (by rw [show componentBytes .int = 4 by decide]; omega) hcells hslots hdg (fun q cA H1 hK2 hP2 hD2 hS2 => ?_)
  obtain rfl := cls_one (fun C h => by cases h) hK.1 ht hK2
  exact kk q H1 locs ls hP2 hD2 hS2 hl
theorem V.newarrayL (C : Cx κ l0 D cc own Ts nL ret tys rm nm) {t0 N : Nat} {cI : ClassId} {n : Int32} (ht : tys[t0]? = some (cI, .long)) (hn : n = nI N) (hN : N < 2 ^ 20) (harr : Cond.arrayClass .long ∈ Ts) (hcells : cl + 1 ≤ rm.cells) (hslots : sl + N ≤ rm.slots) (hdg : decode cc pc = .ok (.newarray .long, 2)) (kk : ∀ q : Nat, V κ (cl + 1) (sl + N) (w ++ [(q, .inl (cI, (N, .inr (.inl (fun _ => (0 : Int64))))))]) (pc + 2) L (.ref q :: st)) : V κ cl sl w pc L (.int n :: st) := by
  subst hn
  obtain ⟨p, l, e, R, s, m, args, below, meth, c, nL0, D0, A, Q⟩ := κ
  obtain ⟨hx, hb, hml, hnl, hts, hown, hK, hA, hR, hret, hlo, hl0, hD0, hnm⟩ := C
  subst hnl
  intro H locs ls hP hD hS hl
  subst hD0
  subst hR
  refine va_newa (atype := .long) (ty := .long) (a0 := (N, .inr (.inl (fun _ => (0 : Int64))))) hx hb (hts _ harr) rfl hK.1 hP hD hS hA (fun cA => rfl) (nI_pos (by omega)) (nI_clamp (by omega)) (by rw [show componentBytes .long = 8 by decide]; omega) hcells hslots hdg (fun q cA H1 hK2 hP2 hD2 hS2 => ?_)
  obtain rfl := cls_one (fun C h => by cases h) hK.1 ht hK2
  exact kk q H1 locs ls hP2 hD2 hS2 hl
theorem V.new (C : Cx κ l0 D cc own Ts nL ret tys rm nm) {ci N index : Nat} {C0 : String} {T : u_T} {fs : List Value} (hin : ∀ z ∈ u_ws C0 T N, z ∈ Ts) (ty : Nat → FieldType) (hty : ∀ k, k < N → parseFieldDescriptor (T k).2.2.1 = some (ty k)) (hcl : Cond.classLink own index C0 ∈ Ts) (hinst : Cond.instantiable C0 N ∈ Ts) (hini : Cond.initialized C0 ∈ Ts) (hc : vwCl[ci]? = some (C0, T, N)) (hfs : ∀ j, j < N → defaultValue (ty j) = vp_V fs j) (hcells : cl + 1 ≤ rm.cells) (hslots : sl + N ≤ rm.slots) (hdg : decode cc pc = .ok (.new index, 3)) (kk : ∀ q : Nat, V κ (cl + 1) (sl + N) (w ++ [(q, .inr (ci, fs))]) (pc + 3) L (.ref q :: st)) : V κ cl sl w pc L st := by
  obtain ⟨p, l, e, R, s, m, args, below, meth, c, nL0, D0, A, Q⟩ := κ
  obtain ⟨hx, hb, hml, hnl, hts, hown, hK, hA, hR, hret, hlo, hl0, hD0, hnm⟩ := C
  subst hnl
  intro H locs ls hP hD hS hl
  subst hD0
  subst hR
  exact va_new hx hb hts hin ty hty hown (hts _ hcl) (hts _ hinst) (hts _ hini) hK.1 hP hD hS hA hc hfs hcells hslots hdg (fun q H1 hP2 hD2 hS2 => kk q H1 locs ls hP2 hD2 hS2 hl)
theorem V.objInit (C : Cx κ l0 D cc own Ts nL ret tys rm nm) {idx a : Nat} (hlk : Cond.methodLink own idx Lib.objectInit ∈ Ts) (hins : Cond.instanceMethod Lib.objectInit ∈ Ts) (hco : Cond.code Lib.objectInit ⟨#[0xb1]⟩ 1 none ∈ Ts) (hfr : 1 ≤ rm.frames) (hlo1 : (st.map fun v => v.category).sum + 12 ≤ rm.locals) (hdg : decode cc pc = .ok (.invokespecial idx, 3)) (kk : V κ cl sl w (pc + 3) L st) : V κ cl sl w pc L (.ref a :: st) := by
  obtain ⟨p, l, e, R, s, m, args, below, meth, c, nL0, D0, A, Q⟩ := κ
  obtain ⟨hx, hb, hml, hnl, hts, hown, hK, hA, hR, hret, hlo, hl0, hD0, hnm⟩ := C
  subst hnl
  intro H locs ls hP hD hS hl
  subst hR
  refine W.objInit hx hb hown (hts _ hlk) (hts _ hins) (hts _ hco) rfl (by rw [hml]; exact hl.1) rfl hdg hfr (by show 2 * 0 + _ + 12 ≤ _; omega) ?_
  exact kk H locs ls hP hD hS hl
theorem V.putF (C : Cx κ l0 D cc own Ts nL ret tys rm nm) {q0 ci k N index a : Nat} {C0 ref : String} {T : u_T} {fs : List Value} {v : Value} {ty : FieldType} {w' : va_W} (he : w[q0]? = some (a, .inr (ci, fs))) (hc : vwCl[ci]? = some (C0, T, N)) (hk : k < N) (hin : ∀ z ∈ u_ws C0 T N, z ∈ Ts) (hlk : Cond.fieldLink own index ref (T k).2.1 (T k).2.2.1 ∈ Ts) (href : ref = (T k).1) (ty0 : Nat → FieldType) (hty : ∀ k, k < N → parseFieldDescriptor (T k).2.2.1 = some (ty0 k)) (hnmf : ∀ a, a < N → ∀ b, b < N → a ≠ b → (T a).2.1 ≠ (T b).2.1) (hfin : (T k).2.2.2 = true) (hini : nm = "<init>") (hdecl : (T k).1 = own) (hd : ty0 k = ty) (hn : narrow ty v = v) (hfit : fits ty v = true) (hlen : k < fs.length) (hw' : w.set q0 (a, .inr (ci, fs.set k v)) = w') (hdg : decode cc pc = .ok (.putfield index, 3)) (kk : V κ cl sl w' (pc + 3) L st) : V κ cl sl w pc L (v :: .ref a :: st) := by
  obtain ⟨p, l, e, R, s, m, args, below, meth, c, nL0, D0, A, Q⟩ := κ
  obtain ⟨hx, hb, hml, hnl, hts, hown, hK, hA, hR, hret, hlo, hl0, hD0, hnm⟩ := C
  subst hnl
  intro H locs ls hP hD hS hl
  subst hD0
  subst href
  subst hw'
  subst hd
  exact va_putF hx hb hts hin ty0 hty hnmf hown hK.1 hP hD hS q0 he hc k hk (hts _ hlk) (fun _ h => h) hfin (hnm.trans hini) hdecl (hty k hk) hn hfit hlen hdg (fun H1 locs1 hP1 hD1 hS1 => kk H1 locs1 ls hP1 hD1 hS1 hl)

theorem V.callSX (C : Cx κ l0 D cc own Ts nL ret tys rm nm) {y : MethodName} {ws ws' : List Cond} {rm1 : Room} {w0 X : va_W} {As rest : List Value} {post : Option Value → va_W → Prop} {index maxL n : Nat} {bytes : ByteArray} {ret1 : Option FieldType}   (ct : Ct l0 D tys y ws rm1 w0 (As) post) (hw : w = w0 ++ X) (hG : GoodIn Ts (va_wsS own index y ws)) (hd : y.cls ≠ "java/lang/invoke/MethodHandle" ∧ y.cls ≠ "java/lang/invoke/VarHandle" ∧ (parseMethodDescriptor y.desc).map (fun d => d.parameters.length) = some n) (hn : As.length = n) (hws : ws = Cond.code y bytes maxL ret1 :: ws') (hRm : rm1.frames + 1 ≤ rm.frames ∧ 8 + (maxL + 11) + rm1.locals ≤ rm.locals) (hf : cl + rm1.cells ≤ rm.cells ∧ sl + rm1.slots ≤ rm.slots) (h8 : (rest.map fun v => v.category).sum ≤ 8) (hst : st = As.reverse ++ rest) (hdg : decode cc pc = .ok (.invokestatic index, 3)) (kk : ∀ (rv : Option Value) (w1 : va_W), post rv w1 → V κ (cl + rm1.cells) (sl + rm1.slots) (w1 ++ X) (pc + 3) L (rv.toList ++ rest)) : V κ cl sl w pc L st := by
  subst hw
  subst hst
  obtain ⟨p, l, e, R, s, m, args, below, meth, c, nL0, D0, A, Q⟩ := κ
  obtain ⟨hx, hb, hml, hnl, hts, hown, hK, hA, hR, hret, hlo, hl0, hD0, hnm⟩ := C
  subst hnl
  intro H locs ls hP hD hS hl
  subst hD0
  subst hl0
  subst hR
  obtain ⟨hPc, hDc⟩ := sub_left hP hD
  refine V.behind (va_runS (As := As) (rest := rest) ⟨hx, hb, hml, hown, hts⟩ (ct H.size) (va_cwS n hts hG hws rfl rfl hd hRm) ⟨fun a U g mk q => by obtain ⟨q0, q1, qP, qK, qD⟩ := q; exact ⟨q0, q1, qP, qK.calling, qD⟩, fun U hU hW => ⟨rfl, by rw [hU], by rw [hU]; exact hPc, hK.warm hW, hDc.weaken (fun _ _ _ _ => trivial)⟩⟩ rfl hn hl.1 rfl (lv_room h8) hdg hf) hP hD hS hA hl kk
theorem V.callI (C : Cx κ l0 D cc own Ts nL ret tys rm nm) {y : MethodName} {ws ws' : List Cond} {rm1 : Room} {w0 X : va_W} {As rest : List Value} {post : Option Value → va_W → Prop} {index maxL n : Nat} {bytes : ByteArray}  {b : Nat} (ct : Ct l0 D tys y ws rm1 w0 (.ref b :: As) post) (hw : w = w0 ++ X) (hG : GoodIn Ts ws) (hini : Cond.initialized y.cls ∈ Ts) (hlk : Cond.methodLink own index y ∈ Ts) (hins : Cond.instanceMethod y ∈ Ts) (hy1 : y.name = "<init>") (hd : y.cls ≠ "java/lang/invoke/MethodHandle" ∧ y.cls ≠ "java/lang/invoke/VarHandle" ∧ (parseMethodDescriptor y.desc).map (fun d => d.parameters.length) = some n) (hn : As.length = n) (hws : ws = Cond.code y bytes maxL none :: ws') (hRm : rm1.frames + 1 ≤ rm.frames ∧ 8 + (maxL + 11) + rm1.locals ≤ rm.locals) (hf : cl + rm1.cells ≤ rm.cells ∧ sl + rm1.slots ≤ rm.slots) (h8 : (rest.map fun v => v.category).sum ≤ 8) (hst : st = As.reverse ++ .ref b :: rest) (hdg : decode cc pc = .ok (.invokespecial index, 3)) (kk : ∀ (rv : Option Value) (w1 : va_W), post rv w1 → V κ (cl + rm1.cells) (sl + rm1.slots) (w1 ++ X) (pc + 3) L (rv.toList ++ rest)) : V κ cl sl w pc L st := by
  subst hw
  subst hst
  obtain ⟨p, l, e, R, s, m, args, below, meth, c, nL0, D0, A, Q⟩ := κ
  obtain ⟨hx, hb, hml, hnl, hts, hown, hK, hA, hR, hret, hlo, hl0, hD0, hnm⟩ := C
  subst hnl
  intro H locs ls hP hD hS hl
  subst hD0
  subst hl0
  subst hR
  obtain ⟨hPc, hDc⟩ := sub_left hP hD
  refine V.behind (va_runI (As := As) (rest := rest) ⟨hx, hb, hml, hown, hts⟩ (ct H.size) (cwI n hts hG hws rfl rfl (hts _ hini) (hts _ hlk) (hts _ hins) hy1 hd hRm) ⟨fun a U g mk q => by obtain ⟨q0, q1, qP, qK, qD⟩ := q; exact ⟨q0, q1, qP, qK.calling, qD⟩, fun U hU hW => ⟨rfl, by rw [hU], by rw [hU]; exact hPc, hK.warm hW, hDc.weaken (fun _ _ _ _ => trivial)⟩⟩ rfl hn hl.1 rfl (lv_room h8) hdg hf) hP hD hS hA hl kk
theorem V.callIN (C : Cx κ l0 D cc own Ts nL ret tys rm nm) {y : MethodName} {ws ws' : List Cond} {rm1 : Room} {w0 X : va_W} {As rest : List Value} {post : Option Value → va_W → Prop} {index maxL n : Nat} {bytes : ByteArray}  {b : Nat} {host : String} (ct : Ct l0 D tys y ws rm1 w0 (.ref b :: As) post) (hw : w = w0 ++ X) (hG : GoodIn Ts ws) (hnw : ∀ U : State, NW U → va_Nw (.methodLinkNest own index y host) U) (hini : Cond.initialized y.cls ∈ Ts) (hins : Cond.instanceMethod y ∈ Ts) (hy1 : y.name = "<init>") (hd : y.cls ≠ "java/lang/invoke/MethodHandle" ∧ y.cls ≠ "java/lang/invoke/VarHandle" ∧ (parseMethodDescriptor y.desc).map (fun d => d.parameters.length) = some n) (hn : As.length = n) (hws : ws = Cond.code y bytes maxL none :: ws') (hRm : rm1.frames + 1 ≤ rm.frames ∧ 8 + (maxL + 11) + rm1.locals ≤ rm.locals) (hf : cl + rm1.cells ≤ rm.cells ∧ sl + rm1.slots ≤ rm.slots) (h8 : (rest.map fun v => v.category).sum ≤ 8) (hst : st = As.reverse ++ .ref b :: rest) (hdg : decode cc pc = .ok (.invokespecial index, 3)) (kk : ∀ (rv : Option Value) (w1 : va_W), post rv w1 → V κ (cl + rm1.cells) (sl + rm1.slots) (w1 ++ X) (pc + 3) L (rv.toList ++ rest)) : V κ cl sl w pc L st := by
  subst hw
  subst hst
  obtain ⟨p, l, e, R, s, m, args, below, meth, c, nL0, D0, A, Q⟩ := κ
  obtain ⟨hx, hb, hml, hnl, hts, hown, hK, hA, hR, hret, hlo, hl0, hD0, hnm⟩ := C
  subst hnl
  intro H locs ls hP hD hS hl
  subst hD0
  subst hl0
  subst hR
  obtain ⟨hPc, hDc⟩ := sub_left hP hD
  refine V.behind (va_runIN (As := As) (rest := rest) ⟨hx, hb, hml, hown, hts⟩ (ct H.size) ⟨va_cnB n hts hG hws rfl rfl (hnw _ hK.2) (hts _ hini) hd hRm, hy1, hts _ hins⟩ ⟨fun a U g mk q => by obtain ⟨q0, q1, qP, qK, qD⟩ := q; exact ⟨q0, q1, qP, qK.calling, qD⟩, fun U hU hW => ⟨rfl, by rw [hU], by rw [hU]; exact hPc, hK.warm hW, hDc.weaken (fun _ _ _ _ => trivial)⟩⟩ rfl hn hl.1 rfl (lv_room h8) hdg hf) hP hD hS hA hl kk
/-- the first k of a row filled -/
def jFl (f : Nat → Int32) (v : Int32) (k : Nat) : Nat → Int32 := fun j => if j < k then v else f j
theorem jFl_s (f : Nat → Int32) (v : Int32) (k : Nat) : upd (jFl f v k) k v = jFl f v (k + 1) := by
  funext j
  unfold upd jFl
  by_cases h : j = k
  · subst h
    simp
  · by_cases h2 : j < k
    · simp [h, h2, show j < k + 1 by omega]
    · simp [h, h2, show ¬ j < k + 1 by omega]
theorem jFl_0 (f : Nat → Int32) (v : Int32) : f = jFl f v 0 := by
  funext j
  simp [jFl]
end VVD
