section VVM
variable {κ : VK} {l0 : Launch} {D : va_G} {cc : ByteArray} {own : String} {Ts : List Cond} {nL : Nat} {ret : Option FieldType} {tys : List (ClassId × FieldType)} {rm : Room} {nm : String} {cl sl pc : Nat} {w : va_W} {L : List (Option Value)} {st : List Value} {e0 : Nat}
def AOA (U : State) : Prop := (Cond.arrayOver (.array .int)).before #[] U = true
theorem AOA.moved {u U : State} (hvm : u.vm.Alike U.vm) (h : AOA u) : AOA U := by
  obtain ⟨comp, c, k, h1, h2, h3, h4, h5⟩ := arrayOverA_spec h
  obtain ⟨k', hk', he⟩ := hvm.2.2 _ _ h3
  have hi : (U.vm.classes.findIdx? fun (x : Class) => match x.kind with | .array component _ => component == comp | _ => false) = some c := by
    rw [hvm.findIdx?_eqK _ (fun _ => rfl)]
    exact h2
  have hkind : k'.kind = .array comp (.array .int) := by rw [he]; exact h4
  have f1 : U.vm.findClass (FieldType.array .int).toString = some comp := by rw [hvm.findClass]; exact h1
  have f2 : U.vm.findClass ("[" ++ (FieldType.array .int).toString) = some c := by rw [hvm.findClass]; exact h5
  unfold AOA Cond.before Cond.holds
  simp only [Cond.value]
  rw [f1, Option.bind_some]
  refine (congrArg (fun o : Option Nat => (o.bind (fun c => (U.vm.classes[c]?).map fun (k : Class) => match k.kind with | .array _ ty => decide (ty = FieldType.array .int) && decide (U.vm.findClass ("[" ++ (FieldType.array .int).toString) = some c) | _ => false) == some true)) hi).trans ?_
  simp [hk', hkind, f2]
def yHN : MethodName := ⟨"java/util/Iterator", "hasNext", "()Z"⟩
def OCs : List String := [RX9, RX8, "[[I"]
/-- what the reference reads of the world around: the empty row of all lists, where it lies, classes that go into rows of objects -/
def ZM (e0 : Nat) (A : Nat → Prop) (U : State) (H : Heap) : Prop := va_Fw RJx35411 yHN yJx35411_hasNext_aae02 U ∧ AOA U ∧ va_AO "java/lang/Object" U ∧ va_Z RJx4a65c "DEFAULTCAPACITY_EMPTY_ELEMENTDATA" "[Ljava/lang/Object;" (.ref e0) A U H ∧ va_T (.object "java/lang/Object") e0 0 (fun _ => .null) A U H ∧ (∀ C ∈ OCs, va_Nw (.castable C "java/lang/Object") U) ∧ va_Nw (.fieldLinkNest RJx35411 28 RJx4a65c "size" "I" RJx4a65c) U
theorem ZM.warm {A B : Nat → Prop} {s U : State} {H : Heap} {locs : List Loc} (hW : s.WarmedH U.vm) (hU : U.heap = H) (h : ZM e0 A s s.heap) (hS : va_S A s.heap H locs) (hAB : ∀ q, B q → A q) : ZM e0 B U U.heap := by
  obtain ⟨h1, h2, h3, h4, h5, h6, h7⟩ := h
  subst hU
  exact ⟨h1.moved (by decide) hW.alike, h2.moved hW.alike, h3.moved hW.alike, ((h4.kept (fun a ha hn => hS.2.1 a ha hn)).moved hW.alike).narrow hAB, ((h5.kept (fun a ha hn => hS.2.1 a ha hn)).moved hW.alike).narrow hAB, fun C hC => va_Nw.warmC hW (h6 C hC), va_Nw.warmF hW h7⟩
theorem ZM.calling {A : Nat → Prop} {U : State} {g : JFrame} {mk : MethodId} {a : Array Value} {H : Heap} (h : ZM e0 A U H) : ZM e0 A (U.calling g mk a) H := by
  obtain ⟨h1, h2, h3, h4, h5, h6, h7⟩ := h
  exact ⟨h1.moved (u := U) (U := U.calling g mk a) (by decide) (Vm.Alike.refl U.vm), h2.moved (u := U) (U := U.calling g mk a) (Vm.Alike.refl U.vm), h3.moved (u := U) (U := U.calling g mk a) (Vm.Alike.refl U.vm), h4.moved (u := U) (U := U.calling g mk a) (Vm.Alike.refl U.vm), h5.moved (u := U) (U := U.calling g mk a) (Vm.Alike.refl U.vm), fun C hC => va_Nw.same rfl (u := U) rfl (h6 C hC), va_Nw.same rfl (u := U) rfl h7⟩
def EZ (κ : VK) (e0 : Nat) : Prop :=
  match κ with
  | (_, _, _, _, s, _, _, _, _, _, _, _, A, _) => ZM e0 A s s.heap
/-- CONTRACT of a method of the reference: as Ct, and the world around is at hand -/
def CtZ (l : Launch) (D : va_G) (tys : List (ClassId × FieldType)) (e0 : Nat) (y : MethodName) (ws : List Cond) (rm : Room) (w : va_W) (av : List Value) (post : Option Value → va_W → Prop) : Prop :=
  ∀ sz : Nat, Met l y ws rm (va_Pc av (fun U => U.heap.size = sz ∧ va_P D vwCl w U.heap ∧ KX D tys U ∧ va_D (fun _ => True) w ∧ ZM e0 (va_A w sz) U U.heap)) (Qx D post (va_A w sz)) rm.cells rm.slots (va_A w sz)
/-- the return instructions, references and doubles too -/
def RetZ (cc : ByteArray) (pc : Nat) (ret : Option FieldType) (st : List Value) (rv : Option Value) : Prop :=
  (decode cc pc = .ok (.return_, 1) ∧ ret = none ∧ st = [] ∧ rv = none) ∨
  (∃ (v : Int32) (ty : FieldType), decode cc pc = .ok (.ireturn, 1) ∧ ret = some ty ∧ narrow ty (.int v) = .int v ∧ st = [.int v] ∧ rv = some (.int v)) ∨
  (∃ v : Int64, decode cc pc = .ok (.lreturn, 1) ∧ ret = some .long ∧ st = [.long v] ∧ rv = some (.long v)) ∨
  (∃ (q : Nat) (ty : FieldType), decode cc pc = .ok (.areturn, 1) ∧ ret = some ty ∧ ((∃ n, ty = .object n) ∨ ∃ t, ty = .array t) ∧ st = [.ref q] ∧ rv = some (.ref q)) ∨
  (∃ v : UInt64, decode cc pc = .ok (.dreturn, 1) ∧ ret = some .double ∧ st = [.double v] ∧ rv = some (.double v))
def RtZ (κ : VK) (cc : ByteArray) (ret : Option FieldType) (mc ms : Nat) (post : Option Value → va_W → Prop) : Prop :=
  ∀ (w' : va_W) (pc : Nat) (L : List (Option Value)) (st : List Value) (rv : Option Value), RetZ cc pc ret st rv → post rv w' → V κ mc ms w' pc L st
theorem CtZ.of {l : Launch} {y : MethodName} {ws ws' : List Cond} {w : va_W} {av : List Value} {post : Option Value → va_W → Prop} {maxL : Nat} (L : List (Option Value)) (hy : plainName y.cls = true) (hw : ws = Cond.code y cc maxL ret :: ws') (hcls : y.cls = own) (hn : (lg_sl av).length ≤ maxL) (hL : prs 0 L = lv_args 0 av)
    (body : ∀ κ : VK, Cx κ l D cc own ws maxL ret tys rm y.name → EZ κ e0 → RtZ κ cc ret rm.cells rm.slots post → V κ 0 0 w 0 L []) : CtZ l D tys e0 y ws rm w av post := by
  intro sz
  refine Met.ofW (cc := cc) (maxL := maxL) (ret := ret) hy hw ?_
  intro p e s m args below meth c s₁ B hml hv
  obtain ⟨rfl, hsz, hP, hK, hD0, hZ⟩ := hv
  have hx := B.exec
  have hb := B.bytes
  have hr := B.returns
  have hts := atoms_spec (ws := ws) B.pre
  have hown : s.vm.findClass own = some m.cls := by rw [← hcls]; exact findClass_of_methodNamed B.named
  have hlocks := B.notSynchronized
  subst hsz
  have hD := hD0.self (sz := s.heap.size)
  have hA : ∀ q : Nat, s.heap.size ≤ q → va_A w s.heap.size q := fun q h => Or.inr h
  have hl := lv_entry av (n := maxL) hn
  rw [lg_entry_eq]
  rw [← hL] at hl
  refine body (p, l, e, rm, s, m, av.toArray, below, meth, c, maxL, D, va_A w s.heap.size, MQ below (Qx D post (va_A w s.heap.size)) av.toArray s rm.cells rm.slots (va_A w s.heap.size)) ⟨hx, hb, hml, rfl, hts, hown, hK, hA, rfl, hr, hlocks, rfl, rfl, (name_of_methodNamed B.named B.method).1⟩ hZ ?_ s.heap [] _ hP hD va_S.rf hl
  intro w' pc L st rv hret hpost H locs ls hP1 hD1 hS1 hl1
  rcases hret with ⟨hdg, rfl, rfl, rfl⟩ | ⟨v, ty, hdg, rfl, hnar, rfl, rfl⟩ | ⟨v, hdg, rfl, rfl, rfl⟩ | ⟨q, ty, hdg, rfl, hty, rfl, rfl⟩ | ⟨v, hdg, rfl, rfl, rfl⟩
  · exact W.vret hx hb hr (fun t ht hW => ⟨⟨none, w', rfl, hpost, by rw [ht]; exact hP1, hD1⟩, hS1.F ht⟩) hS1.2.2 hdg
  · exact W.zret hx hb hr hnar (fun t ht hW => ⟨⟨some (.int v), w', rfl, hpost, by rw [ht]; exact hP1, hD1⟩, hS1.F ht⟩) hS1.2.2 hdg
  · exact W.lret hx hb hr (fun t ht hW => ⟨⟨some (.long v), w', rfl, hpost, by rw [ht]; exact hP1, hD1⟩, hS1.F ht⟩) hS1.2.2 hdg
  · exact W.aret hx hb hr hty (Or.inr ⟨q, rfl⟩) (fun t ht hW => ⟨⟨some (.ref q), w', rfl, hpost, by rw [ht]; exact hP1, hD1⟩, hS1.F ht⟩) hS1.2.2 hdg
  · exact W.dret hx hb hr (fun t ht hW => ⟨⟨some (.double v), w', rfl, hpost, by rw [ht]; exact hP1, hD1⟩, hS1.F ht⟩) hS1.2.2 hdg
theorem V.l2i (C : Cx κ l0 D cc own Ts nL ret tys rm nm) {x : Int64} (hdg : decode cc pc = .ok (.l2i, 1)) (kk : V κ cl sl w (pc + 1) L (.int x.toInt32 :: st)) : V κ cl sl w pc L (.long x :: st) := by
  obtain ⟨p, l, e, R, s, m, args, below, meth, c, nL0, D0, A, Q⟩ := κ
  obtain ⟨hx, hb, hml, hnl, hts, hown, hK, hA, hR, hret, hlo, hl0, hD0, hnm⟩ := C
  subst hnl
  intro H locs ls hP hD hS hl
  exact lv_l2i hx hb hdg rfl (kk H locs ls hP hD hS hl)
theorem V.dup_x1 (C : Cx κ l0 D cc own Ts nL ret tys rm nm) {v u : Value} (hdg : decode cc pc = .ok (.dup_x1, 1)) (hv : v.category = 1) (hu : u.category = 1) (kk : V κ cl sl w (pc + 1) L (v :: u :: v :: st)) : V κ cl sl w pc L (v :: u :: st) := by
  obtain ⟨p, l, e, R, s, m, args, below, meth, c, nL0, D0, A, Q⟩ := κ
  obtain ⟨hx, hb, hml, hnl, hts, hown, hK, hA, hR, hret, hlo, hl0, hD0, hnm⟩ := C
  subst hnl
  intro H locs ls hP hD hS hl
  exact lv_dup_x1 hx hb hdg hv hu (kk H locs ls hP hD hS hl)
theorem V.dconst0 (C : Cx κ l0 D cc own Ts nL ret tys rm nm) (hdg : decode cc pc = .ok (.dconst 0, 1)) (kk : V κ cl sl w (pc + 1) L (.double FP.dconst0 :: st)) : V κ cl sl w pc L (st) := by
  obtain ⟨p, l, e, R, s, m, args, below, meth, c, nL0, D0, A, Q⟩ := κ
  obtain ⟨hx, hb, hml, hnl, hts, hown, hK, hA, hR, hret, hlo, hl0, hD0, hnm⟩ := C
  subst hnl
  intro H locs ls hP hD hS hl
  exact lv_dconst0 hx hb hdg (kk H locs ls hP hD hS hl)
theorem V.dload_n (C : Cx κ l0 D cc own Ts nL ret tys rm nm) {k : Fin 4} {x : UInt64} (hdg : decode cc pc = .ok (.dload_n k, 1)) (hl0 : L[(k : Nat)]? = some (some (.double x))) (kk : V κ cl sl w (pc + 1) L (.double x :: st)) : V κ cl sl w pc L (st) := by
  obtain ⟨p, l, e, R, s, m, args, below, meth, c, nL0, D0, A, Q⟩ := κ
  obtain ⟨hx, hb, hml, hnl, hts, hown, hK, hA, hR, hret, hlo, hl0, hD0, hnm⟩ := C
  subst hnl
  intro H locs ls hP hD hS hl
  exact lv_dload_n hx hb hdg rfl (prs_at hl (by assumption)) (kk H locs ls hP hD hS hl)
theorem V.dstore_n (C : Cx κ l0 D cc own Ts nL ret tys rm nm) {k : Fin 4} {x : UInt64} (hdg : decode cc pc = .ok (.dstore_n k, 1)) (hi : (k : Nat) + 1 < nL) (hc : lcat L (k : Nat) = true) (kk : V κ cl sl w (pc + 1) ((L.set (k : Nat) (some (.double x))).set ((k : Nat) + 1) none) st) : V κ cl sl w pc L (.double x :: st) := by
  obtain ⟨p, l, e, R, s, m, args, below, meth, c, nL0, D0, A, Q⟩ := κ
  obtain ⟨hx, hb, hml, hnl, hts, hown, hK, hA, hR, hret, hlo, hl0, hD0, hnm⟩ := C
  subst hnl
  intro H locs ls hP hD hS hl
  exact lv_dstore_n hx hb hdg rfl hl hi rfl (fun ls1 hl1 => kk H locs ls1 hP hD hS (prs_store2 hl1 hc))
theorem V.dload (C : Cx κ l0 D cc own Ts nL ret tys rm nm) {i : Nat} {x : UInt64} (hdg : decode cc pc = .ok (.dload i, 2)) (hl0 : L[i]? = some (some (.double x))) (kk : V κ cl sl w (pc + 2) L (.double x :: st)) : V κ cl sl w pc L (st) := by
  obtain ⟨p, l, e, R, s, m, args, below, meth, c, nL0, D0, A, Q⟩ := κ
  obtain ⟨hx, hb, hml, hnl, hts, hown, hK, hA, hR, hret, hlo, hl0, hD0, hnm⟩ := C
  subst hnl
  intro H locs ls hP hD hS hl
  exact lv_dload hx hb hdg (prs_at hl (by assumption)) (kk H locs ls hP hD hS hl)
theorem V.dstore (C : Cx κ l0 D cc own Ts nL ret tys rm nm) {i : Nat} {x : UInt64} (hdg : decode cc pc = .ok (.dstore i, 2)) (hi : i + 1 < nL) (hc : lcat L i = true) (kk : V κ cl sl w (pc + 2) ((L.set i (some (.double x))).set (i + 1) none) st) : V κ cl sl w pc L (.double x :: st) := by
  obtain ⟨p, l, e, R, s, m, args, below, meth, c, nL0, D0, A, Q⟩ := κ
  obtain ⟨hx, hb, hml, hnl, hts, hown, hK, hA, hR, hret, hlo, hl0, hD0, hnm⟩ := C
  subst hnl
  intro H locs ls hP hD hS hl
  exact lv_dstore hx hb hdg hl hi rfl (fun ls1 hl1 => kk H locs ls1 hP hD hS (prs_store2 hl1 hc))
theorem V.dcmp (C : Cx κ l0 D cc own Ts nL ret tys rm nm) {x y : UInt64} {op : CmpOp} (hdg : decode cc pc = .ok (.dcmp op, 1)) (kk : V κ cl sl w (pc + 1) L (.int (Op.cmpValue (FP.dcmp x y) op) :: st)) : V κ cl sl w pc L (.double y :: .double x :: st) := by
  obtain ⟨p, l, e, R, s, m, args, below, meth, c, nL0, D0, A, Q⟩ := κ
  obtain ⟨hx, hb, hml, hnl, hts, hown, hK, hA, hR, hret, hlo, hl0, hD0, hnm⟩ := C
  subst hnl
  intro H locs ls hP hD hS hl
  exact lv_dcmp hx hb hdg (kk H locs ls hP hD hS hl)
theorem V.acmp_same (C : Cx κ l0 D cc own Ts nL ret tys rm nm) {a : Nat} {off : Int} {tgt : Nat} (hdg : decode cc pc = .ok (.if_acmp .eq off, 3)) (ht : (pc : Int) + off = (tgt : Int)) (kk : V κ cl sl w tgt L st) : V κ cl sl w pc L (.ref a :: .ref a :: st) := by
  obtain ⟨p, l, e, R, s, m, args, below, meth, c, nL0, D0, A, Q⟩ := κ
  obtain ⟨hx, hb, hml, hnl, hts, hown, hK, hA, hR, hret, hlo, hl0, hD0, hnm⟩ := C
  subst hnl
  intro H locs ls hP hD hS hl
  exact lv_acmp_eq (rx := some a) (ry := some a) hx hb hdg ht (fun _ => kk H locs ls hP hD hS hl) (fun h => absurd rfl h)
theorem V.getE (C : Cx κ l0 D cc own Ts nL ret tys rm nm) (ZE : EZ κ e0) {index : Nat} (hlk : Cond.fieldLink own index RJx4a65c "DEFAULTCAPACITY_EMPTY_ELEMENTDATA" "[Ljava/lang/Object;" ∈ Ts) (hdg : decode cc pc = .ok (.getstatic index, 3)) (kk : V κ cl sl w (pc + 3) L (.ref e0 :: st)) : V κ cl sl w pc L st := by
  obtain ⟨p, l, e, R, s, m, args, below, meth, c, nL0, D0, A, Q⟩ := κ
  obtain ⟨hx, hb, hml, hnl, hts, hown, hK, hA, hR, hret, hlo, hl0, hD0, hnm⟩ := C
  subst hnl
  intro H locs ls hP hD hS hl
  exact va_gets hx hb ZE.2.2.2.1 hS hown (hts _ hlk) (fun _ h => h) hdg (kk H locs ls hP hD hS hl)
theorem V.alenE (C : Cx κ l0 D cc own Ts nL ret tys rm nm) (ZE : EZ κ e0) (hdg : decode cc pc = .ok (.arraylength, 1)) (kk : V κ cl sl w (pc + 1) L (.int (nI 0) :: st)) : V κ cl sl w pc L (.ref e0 :: st) := by
  obtain ⟨p, l, e, R, s, m, args, below, meth, c, nL0, D0, A, Q⟩ := κ
  obtain ⟨hx, hb, hml, hnl, hts, hown, hK, hA, hR, hret, hlo, hl0, hD0, hnm⟩ := C
  subst hnl
  intro H locs ls hP hD hS hl
  exact va_tlen hx hb ZE.2.2.2.2.1 hS (v := nI 0) rfl hdg (kk H locs ls hP hD hS hl)
theorem V.getU (C : Cx κ l0 D cc own Ts nL ret tys rm nm) {q0 ci k N index a : Nat} {C0 ref : String} {T : u_T} {fs : List Value} {v : Value} (he : w[q0]? = some (a, .inr (ci, fs))) (hc : vwCl[ci]? = some (C0, T, N)) (hk : k < N) (hin : ∀ z ∈ u_ws C0 T N, z ∈ Ts) (hlk : Cond.fieldLink own index ref (T k).2.1 (T k).2.2.1 ∈ Ts) (hsf : Cond.sameField ref (T k).1 (T k).2.1 (T k).2.2.1 ∈ Ts) (hv : fs[k]? = some v) (hdg : decode cc pc = .ok (.getfield index, 3)) (kk : V κ cl sl w (pc + 3) L (v :: st)) : V κ cl sl w pc L (.ref a :: st) := by
  obtain ⟨p, l, e, R, s, m, args, below, meth, c, nL0, D0, A, Q⟩ := κ
  obtain ⟨hx, hb, hml, hnl, hts, hown, hK, hA, hR, hret, hlo, hl0, hD0, hnm⟩ := C
  subst hnl
  intro H locs ls hP hD hS hl
  subst hD0
  exact va_get hx hb hts hin hown hK.1 hP q0 he hc k hk (hts _ hlk) (u_same (hts _ hsf)) hv hdg (kk H locs ls hP hD hS hl)
theorem V.putU (C : Cx κ l0 D cc own Ts nL ret tys rm nm) {q0 ci k N index a : Nat} {C0 ref : String} {T : u_T} {fs : List Value} {v : Value} {ty : FieldType} {w' : va_W} (he : w[q0]? = some (a, .inr (ci, fs))) (hc : vwCl[ci]? = some (C0, T, N)) (hk : k < N) (hin : ∀ z ∈ u_ws C0 T N, z ∈ Ts) (hlk : Cond.fieldLink own index ref (T k).2.1 (T k).2.2.1 ∈ Ts) (hsf : Cond.sameField ref (T k).1 (T k).2.1 (T k).2.2.1 ∈ Ts) (ty0 : Nat → FieldType) (hty : ∀ k, k < N → parseFieldDescriptor (T k).2.2.1 = some (ty0 k)) (hnmf : ∀ a, a < N → ∀ b, b < N → a ≠ b → (T a).2.1 ≠ (T b).2.1) (hfin : (T k).2.2.2 = false) (hd : ty0 k = ty) (hn : narrow ty v = v) (hfit : fits ty v = true) (hlen : k < fs.length) (hw' : w.set q0 (a, .inr (ci, fs.set k v)) = w') (hdg : decode cc pc = .ok (.putfield index, 3)) (kk : V κ cl sl w' (pc + 3) L st) : V κ cl sl w pc L (v :: .ref a :: st) := by
  obtain ⟨p, l, e, R, s, m, args, below, meth, c, nL0, D0, A, Q⟩ := κ
  obtain ⟨hx, hb, hml, hnl, hts, hown, hK, hA, hR, hret, hlo, hl0, hD0, hnm⟩ := C
  subst hnl
  intro H locs ls hP hD hS hl
  subst hD0
  subst hw'
  subst hd
  exact va_put hx hb hts hin ty0 hty hnmf hown hK.1 hP hD hS q0 he hc k hk (hts _ hlk) (u_same (hts _ hsf)) hfin (hty k hk) hn hfit hlen hdg (fun H1 locs1 hP1 hD1 hS1 => kk H1 locs1 ls hP1 hD1 hS1 hl)
theorem V.getZ (C : Cx κ l0 D cc own Ts nL ret tys rm nm) (ZE : EZ κ e0) (ho : own = RJx35411) {q0 a : Nat} {fs : List Value} {v : Value} (he : w[q0]? = some (a, .inr (1, fs))) (hin : ∀ z ∈ u_ws RJx4a65c TJx4a65c 3, z ∈ Ts) (hv : fs[2]? = some v) (hdg : decode cc pc = .ok (.getfield 28, 3)) (kk : V κ cl sl w (pc + 3) L (v :: st)) : V κ cl sl w pc L (.ref a :: st) := by
  subst ho
  obtain ⟨p, l, e, R, s, m, args, below, meth, c, nL0, D0, A, Q⟩ := κ
  obtain ⟨hx, hb, hml, hnl, hts, hown, hK, hA, hR, hret, hlo, hl0, hD0, hnm⟩ := C
  subst hnl
  intro H locs ls hP hD hS hl
  subst hD0
  exact va_getN hx hb hts hin hown hK.1 hP q0 he (C := RJx4a65c) (T := TJx4a65c) (N := 3) rfl 2 (by decide) (va_Nw.use rfl ZE.2.2.2.2.2.2) (fun _ h => h) hv hdg (kk H locs ls hP hD hS hl)
theorem V.aaldA (C : Cx κ l0 D cc own Ts nL ret tys rm nm) {q0 t0 a n j r : Nat} {cA : ClassId} {f : Nat → Option Nat} {i : Int32} (he : w[q0]? = some (a, .inl (cA, n, .inr (.inr (.inr (.inr f)))))) (ht : tys[t0]? = some (cA, .array .int)) (hi : i = nI j) (hj : j < n) (hn : n < 2 ^ 31) (hr : f j = some r) (hdg : decode cc pc = .ok (.aaload, 1)) (kk : V κ cl sl w (pc + 1) L (.ref r :: st)) : V κ cl sl w pc L (.int i :: .ref a :: st) := by
  subst hi
  obtain ⟨p, l, e, R, s, m, args, below, meth, c, nL0, D0, A, Q⟩ := κ
  obtain ⟨hx, hb, hml, hnl, hts, hown, hK, hA, hR, hret, hlo, hl0, hD0, hnm⟩ := C
  subst hnl
  intro H locs ls hP hD hS hl
  subst hD0
  have hc9 : (nI j).toNatClampNeg = j := nI_clamp (by omega)
  exact W.aald (v := .ref r) (ty := .array .int) hx hb (hP q0 _ he) ((hK.1.2 t0 _ ht).1 n (fun j => va_rf (f j))) rfl (fun q => by cases q) (by show ¬ (nI j < 0 ∨ (arrV _ _ _).slots.size ≤ _); rw [arrV_size]; exact vp_in_nI hj hn) (by show (arrV _ _ _).slots[_]? = _; rw [hc9, arrV_read _ _ hj]; show some (va_rf (f j)) = _; rw [hr]; rfl) rfl rfl hdg (kk H locs ls hP hD hS hl)
theorem arrV_mnO (c : ClassId) (h : Nat) : mnO c h 3 = vp_cell c (3, .inr (.inr (.inr (.inr (fun i => if i < 3 then some (h + 1 + i) else none))))) := by
  rw [vp_cell_q]
  rfl
theorem arrV_mnI (c : ClassId) : mnI c = vp_cell c (2, .inl (fun _ => (0 : Int32))) := by
  rfl
theorem V.mna (C : Cx κ l0 D cc own Ts nL ret tys rm nm) (ZE : EZ κ e0) {index tI tT : Nat} {cI cII : ClassId} (hI : tys[tI]? = some (cI, .int)) (hT : tys[tT]? = some (cII, .array .int)) (hclink : Cond.classLink own index "[[I" ∈ Ts) (harr : Cond.arrayClass .int ∈ Ts) (hcells : cl + 4 ≤ rm.cells) (hslots : sl + 9 ≤ rm.slots) (hdg : decode cc pc = .ok (.multianewarray index 2, 4))
    (kk : ∀ q : Nat, V κ (cl + 4) (sl + 9) (w ++ [(q, .inl (cII, 3, .inr (.inr (.inr (.inr (fun i => if i < 3 then some (q + 1 + i) else none)))))), (q + 1, .inl (cI, 2, .inl (fun _ => (0 : Int32)))), (q + 2, .inl (cI, 2, .inl (fun _ => (0 : Int32)))), (q + 3, .inl (cI, 2, .inl (fun _ => (0 : Int32))))]) (pc + 4) L (.ref q :: st)) : V κ cl sl w pc L (.int 2 :: .int 3 :: st) := by
  obtain ⟨p, l, e, R, s, m, args, below, meth, c, nL0, D0, A, Q⟩ := κ
  obtain ⟨hx, hb, hml, hnl, hts, hown, hK, hA, hR, hret, hlo, hl0, hD0, hnm⟩ := C
  subst hnl
  intro H locs ls hP hD hS hl
  subst hD0
  subst hR
  have hover : (Cond.arrayOver (.array .int)).before args s = true := ZE.2.1
  refine W.mna32 hx hb hown (hts _ hclink) hover (hts _ harr) hdg hcells hslots (fun cA comp H1 f1 f2 z1 o1 e1 r1 => ?_)
  have g1 : s.vm.findClass "[[I" = some cII := (hK.1.2 tT _ hT).2
  have g2 : s.vm.findClass "[I" = some cI := (hK.1.2 tI _ hI).2
  obtain rfl : cA = cII := Option.some.inj (f1.symm.trans g1)
  obtain rfl : comp = cI := Option.some.inj (f2.symm.trans g2)
  have hPk : va_P D0 vwCl w H1 := hP.kept (fun k x hx9 => o1 x.1 ((hP k x hx9).lt))
  have hnew : va_P D0 vwCl [(H.size, .inl (cA, 3, .inr (.inr (.inr (.inr (fun i => if i < 3 then some (H.size + 1 + i) else none)))))), (H.size + 1, .inl (comp, 2, .inl (fun _ => (0 : Int32)))), (H.size + 2, .inl (comp, 2, .inl (fun _ => (0 : Int32)))), (H.size + 3, .inl (comp, 2, .inl (fun _ => (0 : Int32))))] H1 := by
    intro k x hx9
    match k, hx9 with
    | 0, hx9 => cases hx9; exact e1.trans (congrArg some (arrV_mnO _ _))
    | 1, hx9 => cases hx9; exact (r1 0 (by decide)).trans (congrArg some (arrV_mnI _))
    | 2, hx9 => cases hx9; exact (r1 1 (by decide)).trans (congrArg some (arrV_mnI _))
    | 3, hx9 => cases hx9; exact (r1 2 (by decide)).trans (congrArg some (arrV_mnI _))
    | k + 4, hx9 => simp at hx9
  have hDn : va_D A (w ++ [(H.size, .inl (cA, 3, .inr (.inr (.inr (.inr (fun i => if i < 3 then some (H.size + 1 + i) else none)))))), (H.size + 1, .inl (comp, 2, .inl (fun _ => (0 : Int32)))), (H.size + 2, .inl (comp, 2, .inl (fun _ => (0 : Int32)))), (H.size + 3, .inl (comp, 2, .inl (fun _ => (0 : Int32))))]) := by
    have hb9 : ∀ (k : Nat) (x : Nat × va_E), ([(H.size, .inl (cA, 3, .inr (.inr (.inr (.inr (fun i => if i < 3 then some (H.size + 1 + i) else none)))))), (H.size + 1, .inl (comp, 2, .inl (fun _ => (0 : Int32)))), (H.size + 2, .inl (comp, 2, .inl (fun _ => (0 : Int32)))), (H.size + 3, .inl (comp, 2, .inl (fun _ => (0 : Int32))))] : va_W)[k]? = some x → x.1 = H.size + k := by
      intro k x hx9
      match k, hx9 with
      | 0, hx9 => cases hx9; rfl
      | 1, hx9 => cases hx9; rfl
      | 2, hx9 => cases hx9; rfl
      | 3, hx9 => cases hx9; rfl
      | k + 4, hx9 => simp at hx9
    refine va_D.app hD ⟨fun i j p q hi hj hpq => by have := hb9 i p hi; have := hb9 j q hj; omega, fun k q h => hA _ (by have := hb9 k q h; have := hS.1; omega)⟩ (fun i j p q hi hj hpq => ?_)
    have h1 := (hP i p hi).lt
    have h2 := hb9 j q hj
    omega
  exact kk H.size H1 locs ls (hPk.app hnew) hDn ⟨by rw [z1]; have := hS.1; omega, fun x h1 h2 => (o1 x (Nat.lt_of_lt_of_le h1 hS.1)).trans (hS.2.1 x h1 h2), hS.2.2⟩ hl
theorem V.anewO (C : Cx κ l0 D cc own Ts nL ret tys rm nm) (ZE : EZ κ e0) {index N t0 : Nat} {cO : ClassId} {n : Int32} (ht : tys[t0]? = some (cO, .object "java/lang/Object")) (hn : n = nI N) (hN : N < 2 ^ 20) (hclink : Cond.classLink own index "java/lang/Object" ∈ Ts) (hcells : cl + 1 ≤ rm.cells) (hslots : sl + N ≤ rm.slots) (hdg : decode cc pc = .ok (.anewarray index, 3)) (kk : ∀ q : Nat, V κ (cl + 1) (sl + N) (w ++ [(q, .inl (cO, N, .inr (.inr (.inr (.inr (fun _ => none))))))]) (pc + 3) L (.ref q :: st)) : V κ cl sl w pc L (.int n :: st) := by
  subst hn
  obtain ⟨p, l, e, R, s, m, args, below, meth, c, nL0, D0, A, Q⟩ := κ
  obtain ⟨hx, hb, hml, hnl, hts, hown, hK, hA, hR, hret, hlo, hl0, hD0, hnm⟩ := C
  subst hnl
  intro H locs ls hP hD hS hl
  subst hD0
  subst hR
  refine va_newq hx hb hown (hts _ hclink) ZE.2.2.1 hK.1 hP hD hS hA (nI_pos (by omega)) (nI_clamp (by omega)) (by omega) hcells hslots hdg (fun q cA H1 hK2 hP2 hD2 hS2 => ?_)
  obtain ⟨k1, comp1, a1, a2, a3, a4⟩ := (hK.1.2 t0 _ ht).2
  obtain ⟨k2, comp2, b1, b2, b3, b4⟩ := (hK2.2 tys.length (cA, .object "java/lang/Object") (by simp)).2
  obtain rfl : cA = cO := Option.some.inj (b4.symm.trans a4)
  exact kk q H1 locs ls hP2 hD2 hS2 hl
theorem V.anewA (C : Cx κ l0 D cc own Ts nL ret tys rm nm) (ZE : EZ κ e0) {index N t0 : Nat} {cII : ClassId} {n : Int32} (ht : tys[t0]? = some (cII, .array .int)) (hn : n = nI N) (hN : N < 2 ^ 20) (hclink : Cond.classLink own index "[I" ∈ Ts) (hcells : cl + 1 ≤ rm.cells) (hslots : sl + N ≤ rm.slots) (hdg : decode cc pc = .ok (.anewarray index, 3)) (kk : ∀ q : Nat, V κ (cl + 1) (sl + N) (w ++ [(q, .inl (cII, N, .inr (.inr (.inr (.inr (fun _ => none))))))]) (pc + 3) L (.ref q :: st)) : V κ cl sl w pc L (.int n :: st) := by
  subst hn
  obtain ⟨p, l, e, R, s, m, args, below, meth, c, nL0, D0, A, Q⟩ := κ
  obtain ⟨hx, hb, hml, hnl, hts, hown, hK, hA, hR, hret, hlo, hl0, hD0, hnm⟩ := C
  subst hnl
  intro H locs ls hP hD hS hl
  subst hD0
  subst hR
  have hover : (Cond.arrayOver (.array .int)).before args s = true := ZE.2.1
  have hcn : (nI N).toNatClampNeg = N := nI_clamp (by omega)
  refine W.anewA hx hb hown (hts _ hclink) hover rfl hdg rfl (nI_pos (by omega)) (by rw [hcn]; omega) hcells (by rw [hcn]; exact hslots) (fun cA kA comp f1 f2 f3 f4 => ?_)
  have a4 : s.vm.findClass "[[I" = some cII := (hK.1.2 t0 _ ht).2
  obtain rfl : cA = cII := Option.some.inj (f1.symm.trans a4)
  rw [hcn]
  generalize hH1 : H.push ({ cls := cA, slots := Array.replicate N .null, vm := .none } : Cell) = H1
  have z1 : H1.size = H.size + 1 := by rw [← hH1, Array.size_push]
  have e1 : H1[H.size]? = some (arrV cA N (fun _ => .null)) := by rw [← hH1, Array.getElem?_push_size, ← arrV_new]
  have o1 : ∀ q : Nat, q < H.size → H1[q]? = H[q]? := fun q hq => by rw [← hH1, Array.getElem?_push, if_neg (Nat.ne_of_lt hq)]
  have hk : ∀ (k : Nat) (x : Nat × va_E), w[k]? = some x → H1[x.1]? = H[x.1]? := fun k x hx9 => o1 x.1 ((hP k x hx9).lt)
  refine kk H.size H1 locs ls ((hP.kept hk).app (fun k x hx9 => ?_)) (hD.push hP rfl (hA _ hS.1)) ⟨Nat.le_trans hS.1 (by omega), fun x h1 h2 => (o1 x (Nat.lt_of_lt_of_le h1 hS.1)).trans (hS.2.1 x h1 h2), hS.2.2⟩ hl
  have hz : k < 1 := (List.getElem?_eq_some_iff.mp hx9).1
  rw [show k = 0 by omega] at hx9
  cases hx9
  show H1[H.size]? = some (vp_cell _ _)
  rw [vp_cell_q]
  exact e1
theorem V.astO (C : Cx κ l0 D cc own Ts nL ret tys rm nm) (ZE : EZ κ e0) {q0 t0 qk a n j v : Nat} {cO : ClassId} {x : va_E} {E1 : String} {f : Nat → Option Nat} {i : Int32} (he : w[q0]? = some (a, .inl (cO, n, .inr (.inr (.inr (.inr f)))))) (ht : tys[t0]? = some (cO, .object "java/lang/Object")) (hv : w[qk]? = some (v, x)) (hE : E1 ∈ OCs) (hx1 : (∃ ci fs T N, x = .inr (ci, fs) ∧ vwCl[ci]? = some (E1, T, N)) ∨ ∃ (t1 : Nat) (cA : ClassId) (z : vp_A), x = .inl (cA, z) ∧ tys[t1]? = some (cA, FieldType.array .int) ∧ E1 = "[[I") (hi : i = nI j) (hj : j < n) (hn : n < 2 ^ 31) (hdg : decode cc pc = .ok (.aastore, 1)) (kk : V κ cl sl (w.set q0 (a, .inl (cO, n, .inr (.inr (.inr (.inr (va_up f j (some v)))))))) (pc + 1) L st) : V κ cl sl w pc L (.ref v :: .int i :: .ref a :: st) := by
  subst hi
  obtain ⟨p, l, e, R, s, m, args, below, meth, c, nL0, D0, A, Q⟩ := κ
  obtain ⟨hx, hb, hml, hnl, hts, hown, hK, hA, hR, hret, hlo, hl0, hD0, hnm⟩ := C
  subst hnl
  intro H locs ls hP hD hS hl
  subst hD0
  have hc9 : (nI j).toNatClampNeg = j := nI_clamp (by omega)
  have hcast := ZE.2.2.2.2.2.1 E1 hE
  have hAny : va_Any "java/lang/Object" s H v := by
    rcases hx1 with ⟨ci, fs, T, N, rfl, hc⟩ | ⟨t1, cA, z, rfl, hc, rfl⟩
    · exact va_rAny hK.1 hP hv hc (fun comp c0 h1 h2 => vb_asgC hcast comp c0 h1 h2)
    · have h9 : s.vm.findClass "[[I" = some cA := (hK.1.2 t1 _ hc).2
      obtain ⟨kC, hkC, -⟩ := Vm.findClass_spec h9
      obtain ⟨zn, zc⟩ := z
      have hcell := hP qk _ hv
      refine ⟨_, hcell, ?_, ⟨kC, ?_⟩, fun comp h1 => ?_⟩
      · rcases zc with z | z | z | z | z <;> rfl
      · rcases zc with z | z | z | z | z <;> exact hkC
      · have := vb_asgC hcast comp cA h1 h9
        rcases zc with z | z | z | z | z <;> exact this
  refine va_astqM hx hb hK.1 hP hD hS q0 t0 he ht hAny (vp_in_nI hj hn) hdg (fun H1 locs1 hP1 hD1 hS1 => ?_)
  rw [hc9] at hP1 hD1
  exact kk H1 locs1 ls hP1 hD1 hS1 hl
theorem V.zV (C : Cx κ l0 D cc own Ts nL ret tys rm nm) (ZE : EZ κ e0) {y : MethodName} {ws ws' : List Cond} {rm1 : Room} {w0 X : va_W} {As rest : List Value} {post : Option Value → va_W → Prop} {index maxL n : Nat} {bytes : ByteArray} {ret1 : Option FieldType} {C0 : String} {b q0 ci : Nat} {T0 : u_T} {N0 : Nat} {fs : List Value} (ct : CtZ l0 D tys e0 y ws rm1 w0 (.ref b :: As) post) (hw : w = w0 ++ X) (hG : GoodIn Ts (wsV own index C0 y ws)) (hd : y.cls = C0 ∧ y.cls ≠ "java/lang/invoke/MethodHandle" ∧ y.cls ≠ "java/lang/invoke/VarHandle" ∧ (parseMethodDescriptor y.desc).map (fun d => d.parameters.length) = some n) (hn : As.length = n) (hq : w0[q0]? = some (b, .inr (ci, fs))) (hc : vwCl[ci]? = some (C0, T0, N0)) (hws : ws = Cond.code y bytes maxL ret1 :: ws') (hRm : rm1.frames + 1 ≤ rm.frames ∧ 8 + (maxL + 11) + rm1.locals ≤ rm.locals) (hf : cl + rm1.cells ≤ rm.cells ∧ sl + rm1.slots ≤ rm.slots) (h8 : (rest.map fun v => v.category).sum ≤ 8) (hst : st = As.reverse ++ .ref b :: rest) (hdg : decode cc pc = .ok (.invokevirtual index, 3)) (kk : ∀ (rv : Option Value) (w1 : va_W), post rv w1 → V κ (cl + rm1.cells) (sl + rm1.slots) (w1 ++ X) (pc + 3) L (rv.toList ++ rest)) : V κ cl sl w pc L st := by
  subst hw
  subst hst
  obtain ⟨p, l, e, R, s, m, args, below, meth, c, nL0, D0, A, Q⟩ := κ
  obtain ⟨hx, hb, hml, hnl, hts, hown, hK, hA, hR, hret, hlo, hl0, hD0, hnm⟩ := C
  subst hnl
  intro H locs ls hP hD hS hl
  subst hD0
  subst hl0
  subst hR
  obtain ⟨hPc, hDc⟩ := sub_left hP hD
  have hF : ∀ q, va_A w0 H.size q → A q := by
    rintro q (⟨k, e9, h⟩ | h)
    · exact hDc.2 k (q, e9) h
    · exact hA q (Nat.le_trans hS.1 h)
  refine V.behind (va_runV (As := As) (rest := rest) ⟨hx, hb, hml, hown, hts⟩ (ct H.size) (cwV n hts hG hws rfl rfl hd hRm) ⟨fun a U g mk q => by obtain ⟨q0, q1, qP, qK, qD, qZ⟩ := q; exact ⟨q0, q1, qP, qK.calling, qD, qZ.calling⟩, va_recv hK.1 hPc hc hq, fun U hU hW => ⟨rfl, by rw [hU], by rw [hU]; exact hPc, hK.warm hW, hDc.weaken (fun _ _ _ _ => trivial), ZM.warm hW hU ZE hS hF⟩⟩ rfl hn hl.1 rfl (lv_room h8) hdg hf) hP hD hS hA hl kk
theorem V.zS (C : Cx κ l0 D cc own Ts nL ret tys rm nm) (ZE : EZ κ e0) {y : MethodName} {ws ws' : List Cond} {rm1 : Room} {w0 X : va_W} {As rest : List Value} {post : Option Value → va_W → Prop} {index maxL n : Nat} {bytes : ByteArray} {ret1 : Option FieldType} (ct : CtZ l0 D tys e0 y ws rm1 w0 (As) post) (hw : w = w0 ++ X) (hG : GoodIn Ts (va_wsS own index y ws)) (hd : y.cls ≠ "java/lang/invoke/MethodHandle" ∧ y.cls ≠ "java/lang/invoke/VarHandle" ∧ (parseMethodDescriptor y.desc).map (fun d => d.parameters.length) = some n) (hn : As.length = n) (hws : ws = Cond.code y bytes maxL ret1 :: ws') (hRm : rm1.frames + 1 ≤ rm.frames ∧ 8 + (maxL + 11) + rm1.locals ≤ rm.locals) (hf : cl + rm1.cells ≤ rm.cells ∧ sl + rm1.slots ≤ rm.slots) (h8 : (rest.map fun v => v.category).sum ≤ 8) (hst : st = As.reverse ++ rest) (hdg : decode cc pc = .ok (.invokestatic index, 3)) (kk : ∀ (rv : Option Value) (w1 : va_W), post rv w1 → V κ (cl + rm1.cells) (sl + rm1.slots) (w1 ++ X) (pc + 3) L (rv.toList ++ rest)) : V κ cl sl w pc L st := by
  subst hw
  subst hst
  obtain ⟨p, l, e, R, s, m, args, below, meth, c, nL0, D0, A, Q⟩ := κ
  obtain ⟨hx, hb, hml, hnl, hts, hown, hK, hA, hR, hret, hlo, hl0, hD0, hnm⟩ := C
  subst hnl
  intro H locs ls hP hD hS hl
  subst hD0
  subst hl0
  subst hR
  obtain ⟨hPc, hDc⟩ := sub_left hP hD
  have hF : ∀ q, va_A w0 H.size q → A q := by
    rintro q (⟨k, e9, h⟩ | h)
    · exact hDc.2 k (q, e9) h
    · exact hA q (Nat.le_trans hS.1 h)
  refine V.behind (va_runS (As := As) (rest := rest) ⟨hx, hb, hml, hown, hts⟩ (ct H.size) (va_cwS n hts hG hws rfl rfl hd hRm) ⟨fun a U g mk q => by obtain ⟨q0, q1, qP, qK, qD, qZ⟩ := q; exact ⟨q0, q1, qP, qK.calling, qD, qZ.calling⟩, fun U hU hW => ⟨rfl, by rw [hU], by rw [hU]; exact hPc, hK.warm hW, hDc.weaken (fun _ _ _ _ => trivial), ZM.warm hW hU ZE hS hF⟩⟩ rfl hn hl.1 rfl (lv_room h8) hdg hf) hP hD hS hA hl kk
theorem V.zI (C : Cx κ l0 D cc own Ts nL ret tys rm nm) (ZE : EZ κ e0) {y : MethodName} {ws ws' : List Cond} {rm1 : Room} {w0 X : va_W} {As rest : List Value} {post : Option Value → va_W → Prop} {index maxL n : Nat} {bytes : ByteArray} {b : Nat} (ct : CtZ l0 D tys e0 y ws rm1 w0 (.ref b :: As) post) (hw : w = w0 ++ X) (hG : GoodIn Ts ws) (hini : Cond.initialized y.cls ∈ Ts) (hlk : Cond.methodLink own index y ∈ Ts) (hins : Cond.instanceMethod y ∈ Ts) (hy1 : y.name = "<init>") (hd : y.cls ≠ "java/lang/invoke/MethodHandle" ∧ y.cls ≠ "java/lang/invoke/VarHandle" ∧ (parseMethodDescriptor y.desc).map (fun d => d.parameters.length) = some n) (hn : As.length = n) (hws : ws = Cond.code y bytes maxL none :: ws') (hRm : rm1.frames + 1 ≤ rm.frames ∧ 8 + (maxL + 11) + rm1.locals ≤ rm.locals) (hf : cl + rm1.cells ≤ rm.cells ∧ sl + rm1.slots ≤ rm.slots) (h8 : (rest.map fun v => v.category).sum ≤ 8) (hst : st = As.reverse ++ .ref b :: rest) (hdg : decode cc pc = .ok (.invokespecial index, 3)) (kk : ∀ (rv : Option Value) (w1 : va_W), post rv w1 → V κ (cl + rm1.cells) (sl + rm1.slots) (w1 ++ X) (pc + 3) L (rv.toList ++ rest)) : V κ cl sl w pc L st := by
  subst hw
  subst hst
  obtain ⟨p, l, e, R, s, m, args, below, meth, c, nL0, D0, A, Q⟩ := κ
  obtain ⟨hx, hb, hml, hnl, hts, hown, hK, hA, hR, hret, hlo, hl0, hD0, hnm⟩ := C
  subst hnl
  intro H locs ls hP hD hS hl
  subst hD0
  subst hl0
  subst hR
  obtain ⟨hPc, hDc⟩ := sub_left hP hD
  have hF : ∀ q, va_A w0 H.size q → A q := by
    rintro q (⟨k, e9, h⟩ | h)
    · exact hDc.2 k (q, e9) h
    · exact hA q (Nat.le_trans hS.1 h)
  refine V.behind (va_runI (As := As) (rest := rest) ⟨hx, hb, hml, hown, hts⟩ (ct H.size) (cwI n hts hG hws rfl rfl (hts _ hini) (hts _ hlk) (hts _ hins) hy1 hd hRm) ⟨fun a U g mk q => by obtain ⟨q0, q1, qP, qK, qD, qZ⟩ := q; exact ⟨q0, q1, qP, qK.calling, qD, qZ.calling⟩, fun U hU hW => ⟨rfl, by rw [hU], by rw [hU]; exact hPc, hK.warm hW, hDc.weaken (fun _ _ _ _ => trivial), ZM.warm hW hU ZE hS hF⟩⟩ rfl hn hl.1 rfl (lv_room h8) hdg hf) hP hD hS hA hl kk
theorem V.behind5 {p : Program} {l : Launch} {e : Env} {R : Room} {s : State} {m : MethodId} {args : Array Value} {below : List Frame} {meth : Method} {c : Code} {A : Nat → Prop} {Q : State → Prop} {mc ms : Nat} {H : Heap} {locs : List Loc} {ls : Array Slot} {st0 rest : List Value} {a : Array Value} {w0 X : va_W} {post : Option Value → va_W → Prop}
    (hr : va_Run5 p l e R s m args below meth c H locs cl sl mc ms (F0 m pc ls st0) rest (Qx D post (va_A w0 H.size) a) (va_A w0 H.size)) (hP : va_P D vwCl (w0 ++ X) H) (hD : va_D A (w0 ++ X)) (hS : va_S A s.heap H locs) (hA : ∀ q : Nat, s.heap.size ≤ q → A q) (hl : lv_has ls nL (prs 0 L))
    (kk : ∀ (rv : Option Value) (w1 : va_W), post rv w1 → V (p, l, e, R, s, m, args, below, meth, c, nL, D, A, Q) (cl + mc) (sl + ms) (w1 ++ X) (pc + 5) L (rv.toList ++ rest)) : W p l e R s m args below meth c H locs cl sl Q (F0 m pc ls st0) := by
  have hD0 := (sub_left hP hD).2
  have hF : ∀ q, va_A w0 H.size q → A q := by
    rintro q (⟨k, e9, h⟩ | h)
    · exact hD0.2 k (q, e9) h
    · exact hA q (Nat.le_trans hS.1 h)
  intro T hT Xs
  obtain ⟨v, st₀, t, T', Ls, h0, X', hL, e1, e2, ⟨⟨rv, w1, hv, hp, hP1, hD1⟩, hz, hk⟩, stp⟩ := hr T hT Xs
  cases hv
  rw [h0] at hz hk
  obtain ⟨hP2, hD2⟩ := join_app (H1 := T'.heap) hP hD (fun q h1 h2 => by rw [e1]; exact hk q h1 h2) hF (by rw [e1]; exact hP1) hD1
  obtain ⟨t2, a1, b1⟩ := kk v w1 hp T'.heap (locs ++ Ls) ls hP2 hD2 ⟨Nat.le_trans hS.1 (by rw [e1]; exact hz), fun q h1 h2 => by
      rw [e1, hk q (Nat.lt_of_lt_of_le h1 hS.1) (fun z => h2 (hF q z))]
      exact hS.2.1 q h1 h2, fun q hq => by
      rcases List.mem_append.mp hq with h | h
      · exact hS.2.2 q h
      · exact hF _ (hL q h)⟩ hl T' rfl X'
  exact ⟨t2, stp t2 a1, b1⟩
theorem V.zF (C : Cx κ l0 D cc own Ts nL ret tys rm nm) (ZE : EZ κ e0) {ws ws' : List Cond} {rm1 : Room} {w0 X : va_W} {rest : List Value} {post : Option Value → va_W → Prop} {index maxL : Nat} {bytes : ByteArray} {ret1 : Option FieldType} {b q0 count : Nat} {T0 : u_T} {N0 : Nat} {fs : List Value} (ct : CtZ l0 D tys e0 yJx35411_hasNext_aae02 ws rm1 w0 [.ref b] post) (hw : w = w0 ++ X) (hG : GoodIn Ts (va_wsF own index RJx35411 yHN yJx35411_hasNext_aae02 ws)) (hq : w0[q0]? = some (b, .inr (0, fs))) (hws : ws = Cond.code yJx35411_hasNext_aae02 bytes maxL ret1 :: ws') (hRm : rm1.frames + 1 ≤ rm.frames ∧ 8 + (maxL + 11) + rm1.locals ≤ rm.locals) (hf : cl + rm1.cells ≤ rm.cells ∧ sl + rm1.slots ≤ rm.slots) (h8 : (rest.map fun v => v.category).sum ≤ 8) (hst : st = .ref b :: rest) (hdg : decode cc pc = .ok (.invokeinterface index count, 5)) (kk : ∀ (rv : Option Value) (w1 : va_W), post rv w1 → V κ (cl + rm1.cells) (sl + rm1.slots) (w1 ++ X) (pc + 5) L (rv.toList ++ rest)) : V κ cl sl w pc L st := by
  subst hw
  subst hst
  obtain ⟨p, l, e, R, s, m, args, below, meth, c, nL0, D0, A, Q⟩ := κ
  obtain ⟨hx, hb, hml, hnl, hts, hown, hK, hA, hR, hret, hlo, hl0, hD0, hnm⟩ := C
  subst hnl
  intro H locs ls hP hD hS hl
  subst hD0
  subst hl0
  subst hR
  obtain ⟨hPc, hDc⟩ := sub_left hP hD
  have hF : ∀ q, va_A w0 H.size q → A q := by
    rintro q (⟨k, e9, h⟩ | h)
    · exact hDc.2 k (q, e9) h
    · exact hA q (Nat.le_trans hS.1 h)
  have hat : ClassAt s RJx35411 (D0.1 0) := (hK.1.1 0 (RJx35411, TJx35411, 4) rfl).2
  refine V.behind5 (va_runF (As := []) (rest := rest) hat ⟨hx, hb, hml, hown, hts⟩ (ct H.size) (va_cwF 0 hts hG hws rfl rfl ZE.1 ⟨by decide, by decide, by decide +kernel⟩ hRm) ⟨fun a U g mk q => by obtain ⟨q0, q1, qP, qK, qD, qZ⟩ := q; exact ⟨q0, q1, qP, qK.calling, qD, qZ.calling⟩, va_recv hK.1 hPc (q := (RJx35411, TJx35411, 4)) rfl hq, fun U hU hW => ⟨rfl, by rw [hU], by rw [hU]; exact hPc, hK.warm hW, hDc.weaken (fun _ _ _ _ => trivial), ZM.warm hW hU ZE hS hF⟩⟩ rfl rfl hl.1 rfl (lv_room h8) hdg hf) hP hD hS hA hl kk
end VVM
