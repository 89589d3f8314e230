section VXE
variable {κ : VK} {l0 : Launch} {D : va_G} {cc : ByteArray} {own : String} {Ts : List Cond} {nL : Nat} {ret : Option FieldType} {tys : List (ClassId × FieldType)} {rm : Room} {nm : String} {cl sl pc : Nat} {w : va_W} {L : List (Option Value)} {st : List Value} {tl : List (String × Nat × String)} {E0 : String}
def ES : List String := ["java/lang/IllegalArgumentException", "java/lang/IllegalStateException", "java/lang/IndexOutOfBoundsException"]
def BL (E : String) : List Cond := [.declares (Bundle.initS "java/lang/RuntimeException"), .declares (Bundle.initS "java/lang/Exception"), .declares (Bundle.initS "java/lang/Throwable"), .castable E E]
theorem BL_on {E : String} {z : Cond} (h : z ∈ BL E) : z.onTables = true := by
  simp only [BL, List.mem_cons, List.not_mem_nil, or_false] at h
  rcases h with rfl | rfl | rfl | rfl <;> rfl
theorem BL_warm {E : String} {s U : State} (hW : s.WarmedH U.vm) {z : Cond} (h : z ∈ BL E) (hz : va_Nw z s) : va_Nw z U := by
  simp only [BL, List.mem_cons, List.not_mem_nil, or_false] at h
  rcases h with rfl | rfl | rfl | rfl
  · exact va_Nw.warmD hW hz
  · exact va_Nw.warmD hW hz
  · exact va_Nw.warmD hW hz
  · exact va_Nw.warmC hW hz
/-- what a throw reads of the world around: two statics, the texts, that each class of it is its own -/
def ZX (tl : List (String × Nat × String)) (A : Nat → Prop) (U : State) (H : Heap) : Prop := vx_Zq Bundle.tN "UNASSIGNED_STACK" Bundle.steD A U H ∧ vx_Zq Bundle.tN "SUPPRESSED_SENTINEL" Bundle.listD A U H ∧ (∀ x ∈ tl, ∃ a, vk_R x.1 x.2.1 x.2.2 a U) ∧ (∀ E ∈ ES, ∀ z ∈ BL E, va_Nw z U) ∧ va_Nc "java/lang/IllegalArgumentException" "java/lang/IndexOutOfBoundsException" U
theorem ZX.warm {A B : Nat → Prop} {s U : State} {H : Heap} {locs : List Loc} (hW : s.WarmedH U.vm) (hU : U.heap = H) (h : ZX tl A s s.heap) (hS : va_S A s.heap H locs) (hAB : ∀ q, B q → A q) : ZX tl B U U.heap := by
  obtain ⟨h1, h2, h3, h4, h5⟩ := h
  subst hU
  exact ⟨((h1.kept (fun a ha hn => hS.2.1 a ha hn)).moved hW.alike).narrow hAB, ((h2.kept (fun a ha hn => hS.2.1 a ha hn)).moved hW.alike).narrow hAB, fun x hx => by obtain ⟨a, ha⟩ := h3 x hx; exact ⟨a, ha.warm hW⟩, fun E hE z hz => BL_warm hW hz (h4 E hE z hz), va_Nc.moved hW.alike h5⟩
theorem ZX.calling {A : Nat → Prop} {U : State} {g : JFrame} {mk : MethodId} {a : Array Value} {H : Heap} (h : ZX tl A U H) : ZX tl A (U.calling g mk a) H := by
  obtain ⟨h1, h2, h3, h4, h5⟩ := h
  exact ⟨vx_Zq.moved (u := U) (U := U.calling g mk a) (Vm.Alike.refl U.vm) h1, vx_Zq.moved (u := U) (U := U.calling g mk a) (Vm.Alike.refl U.vm) h2, fun x hx => by obtain ⟨b, hb⟩ := h3 x hx; exact ⟨b, vk_R.same (u := U) rfl hb⟩, fun E hE z hz => va_Nw.same (BL_on hz) (u := U) rfl (h4 E hE z hz), va_Nc.moved (u := U) (U := U.calling g mk a) (Vm.Alike.refl U.vm) h5⟩
/-- the end of a throw: the class by its name, the world as it was -/
def XE (D : va_G) (w : va_W) (E : String) (A : Nat → Prop) : String → State → State → Prop := vx_X (S := Unit) (fun _ => True) (fun E9 _ t => E9 = E ∧ va_P D vwCl w t.heap) A
/-- CONTRACT: from the world w, with the arguments av, the method y throws E, and the world is as it was -/
def CtX (l : Launch) (D : va_G) (tys : List (ClassId × FieldType)) (tl : List (String × Nat × String)) (y : MethodName) (ws : List Cond) (rm : Room) (w : va_W) (av : List Value) (E : String) : Prop :=
  ∀ sz : Nat, vx_Met l y ws rm (va_Pc av (fun U => U.heap.size = sz ∧ va_P D vwCl w U.heap ∧ KX D tys U ∧ va_D (fun _ => True) w ∧ ZX tl (va_A w sz) U U.heap)) (fun _ _ _ _ => False) (XE D w E (va_A w sz)) rm.cells rm.slots (va_A w sz)
/-- the body of a method that owes a throw of E with the world w -/
def EX (κ : VK) (tl : List (String × Nat × String)) (D : va_G) (w : va_W) (E : String) (rm : Room) : Prop :=
  match κ with
  | (_, l, _, _, s, _, args, below, _, c, _, _, A, Q) => l.stackTraces = false ∧ ZX tl A s s.heap ∧ (∀ x ∈ c.exceptionTable.toList, False) ∧ Q = vx_MQ below (fun _ _ _ _ => False) (XE D w E A) args s rm.cells rm.slots A
theorem CtX.of {l : Launch} {y : MethodName} {ws ws' : List Cond} {w : va_W} {av : List Value} {maxL : Nat} (hfl : l.stackTraces = false) (L : List (Option Value)) (hy : plainName y.cls = true) (hw : ws = Cond.code y cc maxL ret :: ws') (hcls : y.cls = own) (hn : (lg_sl av).length ≤ maxL) (hL : prs 0 L = lv_args 0 av)
    (body : ∀ κ : VK, Cx κ l D cc own ws maxL ret tys rm y.name → EX κ tl D w E0 rm → V κ 0 0 w 0 L []) : CtX l D tys tl y ws rm w av E0 := by
  intro sz
  refine vx_ofW (cc := cc) (maxL := maxL) (ret := ret) hy hw ?_
  intro p e s m args below meth c s₁ B hml htab hv
  obtain ⟨rfl, hsz, hP, hK, hD0, hZ⟩ := hv
  have hx := B.exec
  have hb := B.bytes
  have hr := B.returns
  have hts := atoms_spec (ws := ws) B.pre
  have hown : s.vm.findClass own = some m.cls := by rw [← hcls]; exact findClass_of_methodNamed B.named
  have hlocks := B.notSynchronized
  subst hsz
  have hD := hD0.self (sz := s.heap.size)
  have hA : ∀ q : Nat, s.heap.size ≤ q → va_A w s.heap.size q := fun q h => Or.inr h
  have hl := lv_entry av (n := maxL) hn
  rw [lg_entry_eq]
  rw [← hL] at hl
  exact body (p, l, e, rm, s, m, av.toArray, below, meth, c, maxL, D, va_A w s.heap.size, vx_MQ below (fun _ _ _ _ => False) (XE D w E0 (va_A w s.heap.size)) av.toArray s rm.cells rm.slots (va_A w s.heap.size)) ⟨hx, hb, hml, rfl, hts, hown, hK, hA, rfl, hr, hlocks, rfl, rfl, (name_of_methodNamed B.named B.method).1⟩ ⟨hfl, hZ, htab, rfl⟩ s.heap [] _ hP hD va_S.rf hl
theorem V.throwS (C : Cx κ l0 D cc own Ts nL ret tys rm nm) {ik ix ic : Nat} {text : String} (EE : EX κ tl D w E0 rm) (hE : E0 ∈ ES) (hcls : Bundle.fit E0 = true) (hk : Cond.classLink own ik E0 ∈ Ts) (hini : Cond.initialized E0 ∈ Ts) (htx : (own, ix, text) ∈ tl) (hat : ∀ z ∈ (vx_atS own ic E0 ["java/lang/RuntimeException", "java/lang/Exception"]).filter goodWord, z ∈ Ts) (hng : ∀ z ∈ (vx_atS own ic E0 ["java/lang/RuntimeException", "java/lang/Exception"]).filter (fun z => !goodWord z), z ∈ BL E0) (hot : (Cond.classLink own ik E0 :: Cond.initialized E0 :: vx_atS own ic E0 ["java/lang/RuntimeException", "java/lang/Exception"]).all vx_ot = true) (d0 : decode cc pc = .ok (.new ik, 3)) (d3 : decode cc (pc + 3) = .ok (.dup, 1)) (d4 : decode cc (pc + 4) = .ok (.ldc ix, 2)) (d6 : decode cc (pc + 6) = .ok (.invokespecial ic, 3)) (d9 : decode cc (pc + 9) = .ok (.athrow, 1)) (hfr : 6 ≤ rm.frames) (hlo1 : (st.map fun v => v.category).sum + 82 ≤ rm.locals) (hcl : cl + 1 ≤ rm.cells) (hsl : sl + 6 ≤ rm.slots) : V κ cl sl w pc L st := by
  obtain ⟨p, l, e, R, s, m, args, below, meth, c, nL0, D0, A, Q⟩ := κ
  obtain ⟨hx, hb, hml, hnl, hts, hown, hK, hA, hR, hret, hlo, hl0, hD0, hnm⟩ := C
  subst hnl
  intro H locs ls hP hD hS hl
  obtain ⟨hfl, hZ, htab, hQ⟩ := EE
  subst hD0
  subst hR
  subst hQ
  obtain ⟨h1, h2, h3, h4, h5⟩ := hZ
  obtain ⟨sa, hsa⟩ := h3 _ htx
  refine vx_throwS (names := ["java/lang/RuntimeException", "java/lang/Exception"]) (is := ix) (text := text) (sa := sa) (cls := E0) (ik := ik) (ic := ic) (A := A) hx hb hfl hown hcls (by decide) (hts _ hk) (hts _ hini) hsa ?_ (fun z hz => List.all_eq_true.mp hot z hz) h1 h2 hS (hl.1.trans hml.symm) d0 d3 d4 d6 d9 (fun x hx9 => (htab x hx9).elim) (by show 2 + 3 < _; omega) (by show _ + (13 * (2 + 1) + 43) ≤ _; omega) hcl hsl hlo (fun t hvm hz hk9 => ⟨(), trivial, ⟨rfl, ?_⟩, ?_⟩) (fun z hz => hS.2.2 z hz) hcl hsl
  · exact vx_hat (B := BL E0) (fun z hz => hts z (hat z hz)) hng (fun z hz => va_Nw.use (BL_on hz) (h4 E0 hE z hz))
  · exact hP.kept (fun k x hx9 => hk9 x.1 ((hP k x hx9).lt))
  · exact ⟨Nat.le_trans hS.1 hz, fun q a b => (hk9 q (Nat.lt_of_lt_of_le a hS.1)).trans (hS.2.1 q a b)⟩
theorem V.throwSW (C : Cx κ l0 D cc own Ts nL ret tys rm nm) {ik ix ic : Nat} {text : String} (EE : EX κ tl D w E0 rm) (hE : E0 ∈ ES) (hcls : Bundle.fit E0 = true) (hk : Cond.classLink own ik E0 ∈ Ts) (hini : Cond.initialized E0 ∈ Ts) (htx : (own, ix, text) ∈ tl) (hat : ∀ z ∈ (vx_atS own ic E0 ["java/lang/RuntimeException", "java/lang/Exception"]).filter goodWord, z ∈ Ts) (hng : ∀ z ∈ (vx_atS own ic E0 ["java/lang/RuntimeException", "java/lang/Exception"]).filter (fun z => !goodWord z), z ∈ BL E0) (hot : (Cond.classLink own ik E0 :: Cond.initialized E0 :: vx_atS own ic E0 ["java/lang/RuntimeException", "java/lang/Exception"]).all vx_ot = true) (d0 : decode cc pc = .ok (.new ik, 3)) (d3 : decode cc (pc + 3) = .ok (.dup, 1)) (d4 : decode cc (pc + 4) = .ok (.ldc_w ix, 3)) (d6 : decode cc (pc + 7) = .ok (.invokespecial ic, 3)) (d9 : decode cc (pc + 10) = .ok (.athrow, 1)) (hfr : 6 ≤ rm.frames) (hlo1 : (st.map fun v => v.category).sum + 82 ≤ rm.locals) (hcl : cl + 1 ≤ rm.cells) (hsl : sl + 6 ≤ rm.slots) : V κ cl sl w pc L st := by
  obtain ⟨p, l, e, R, s, m, args, below, meth, c, nL0, D0, A, Q⟩ := κ
  obtain ⟨hx, hb, hml, hnl, hts, hown, hK, hA, hR, hret, hlo, hl0, hD0, hnm⟩ := C
  subst hnl
  intro H locs ls hP hD hS hl
  obtain ⟨hfl, hZ, htab, hQ⟩ := EE
  subst hD0
  subst hR
  subst hQ
  obtain ⟨h1, h2, h3, h4, h5⟩ := hZ
  obtain ⟨sa, hsa⟩ := h3 _ htx
  refine vx_throwSW (names := ["java/lang/RuntimeException", "java/lang/Exception"]) (is := ix) (text := text) (sa := sa) (cls := E0) (ik := ik) (ic := ic) (A := A) hx hb hfl hown hcls (by decide) (hts _ hk) (hts _ hini) hsa ?_ (fun z hz => List.all_eq_true.mp hot z hz) h1 h2 hS (hl.1.trans hml.symm) d0 d3 d4 d6 d9 (fun x hx9 => (htab x hx9).elim) (by show 2 + 3 < _; omega) (by show _ + (13 * (2 + 1) + 43) ≤ _; omega) hcl hsl hlo (fun t hvm hz hk9 => ⟨(), trivial, ⟨rfl, ?_⟩, ?_⟩) (fun z hz => hS.2.2 z hz) hcl hsl
  · exact vx_hat (B := BL E0) (fun z hz => hts z (hat z hz)) hng (fun z hz => va_Nw.use (BL_on hz) (h4 E0 hE z hz))
  · exact hP.kept (fun k x hx9 => hk9 x.1 ((hP k x hx9).lt))
  · exact ⟨Nat.le_trans hS.1 hz, fun q a b => (hk9 q (Nat.lt_of_lt_of_le a hS.1)).trans (hS.2.1 q a b)⟩
theorem V.outV (C : Cx κ l0 D cc own Ts nL ret tys rm nm) {y : MethodName} {ws ws' : List Cond} {rm1 : Room} {As rest : List Value} {index maxL n : Nat} {bytes : ByteArray} {ret1 : Option FieldType} {C0 : String} {b q0 ci : Nat} {T0 : u_T} {N0 : Nat} {fs : List Value} (EE : EX κ tl D w E0 rm) (ct : CtX l0 D tys tl y ws rm1 w (.ref b :: As) E0) (hG : GoodIn Ts (wsV own index C0 y ws)) (hd : y.cls = C0 ∧ y.cls ≠ "java/lang/invoke/MethodHandle" ∧ y.cls ≠ "java/lang/invoke/VarHandle" ∧ (parseMethodDescriptor y.desc).map (fun d => d.parameters.length) = some n) (hn : As.length = n) (hq : w[q0]? = some (b, .inr (ci, fs))) (hc : vwCl[ci]? = some (C0, T0, N0)) (hws : ws = Cond.code y bytes maxL ret1 :: ws') (hRm : rm1.frames + 1 ≤ rm.frames ∧ 8 + (maxL + 11) + rm1.locals ≤ rm.locals) (hf : cl + rm1.cells ≤ rm.cells ∧ sl + rm1.slots ≤ rm.slots) (h8 : (rest.map fun v => v.category).sum ≤ 8) (hst : st = As.reverse ++ .ref b :: rest) (hdg : decode cc pc = .ok (.invokevirtual index, 3)) : V κ cl sl w pc L st := by
  subst hst
  obtain ⟨p, l, e, R, s, m, args, below, meth, c, nL0, D0, A, Q⟩ := κ
  obtain ⟨hx, hb, hml, hnl, hts, hown, hK, hA, hR, hret, hlo, hl0, hD0, hnm⟩ := C
  subst hnl
  intro H locs ls hP hD hS hl
  obtain ⟨hfl, hZ, htab, hQ⟩ := EE
  subst hD0
  subst hl0
  subst hR
  subst hQ
  have hF : ∀ q, va_A w H.size q → A q := by
    rintro q (⟨k, e9, h⟩ | h)
    · exact hD.2 k (q, e9) h
    · exact hA q (Nat.le_trans hS.1 h)
  have hrun := vx_runV (e := e) (below := below) (meth := meth) (locs := locs) (g := F0 m pc ls (As.reverse ++ .ref b :: rest)) (As := As) (rest := rest) ⟨hx, hb, hml, hown, hts⟩ (ct H.size) (cwV n hts hG hws rfl rfl hd hRm) ⟨fun a U g mk q => by obtain ⟨q0, q1, qP, qK, qD, qZ⟩ := q; exact ⟨q0, q1, qP, qK.calling, qD, qZ.calling⟩, va_recv hK.1 hP hc hq, fun U hU hW => ⟨rfl, by rw [hU], by rw [hU]; exact hP, hK.warm hW, hD.weaken (fun _ _ _ _ => trivial), ZX.warm hW hU hZ hS hF⟩⟩ rfl hn hl.1 rfl (lv_room h8) hdg hf
  intro T hT X
  rcases hrun T hT X with ⟨v, s0, t, T', Ls, h0, X', hL, e1, e2, hq9, stp⟩ | ⟨q, s0, t, T', Ls, E9, ce, h0, X', hL, e1, e2, ⟨u, hp9, ⟨rfl, hPt⟩, hz, hk9⟩, hce, hcv, hclq, stp⟩
  · exact hq9.elim
  · rw [h0] at hz hk9
    have hS2 : va_S A s.heap T'.heap (locs ++ Ls) := ⟨Nat.le_trans hS.1 (by rw [e1]; exact hz), fun q a b => by rw [e1, hk9 q (Nat.lt_of_lt_of_le a hS.1) (fun z => b (hF q z))]; exact hS.2.1 q a b, fun z hz9 => by
      rcases List.mem_append.mp hz9 with h | h
      · exact hS.2.2 z h
      · exact hF _ (hL z h)⟩
    have hw : vx_W p l e R s m args below meth c T'.heap (locs ++ Ls) (cl + rm1.cells) (sl + rm1.slots) (vx_MQ below (fun _ _ _ _ => False) (XE D0 w E9 A) args s R.cells R.slots A) (F0 m pc ls rest) q :=
      vx_out (E := E9) (fun x hx9 => (htab x hx9).elim) hlo (by rw [e1]; exact hce) hcv hclq (fun t2 ht2 hvm2 => ⟨(), trivial, ⟨rfl, by rw [ht2, e1]; exact hPt⟩, ⟨by rw [ht2]; exact hS2.1, fun q a b => by rw [ht2]; exact hS2.2.1 q a b⟩⟩) (fun z hz9 => hS2.2.2 z hz9) hf.1 hf.2
    obtain ⟨t2, a1, b1⟩ := hw T' rfl X'
    exact ⟨t2, stp.trans a1, b1⟩
theorem V.outS (C : Cx κ l0 D cc own Ts nL ret tys rm nm) {y : MethodName} {ws ws' : List Cond} {rm1 : Room} {As rest : List Value} {index maxL n : Nat} {bytes : ByteArray} {ret1 : Option FieldType}  (EE : EX κ tl D w E0 rm) (ct : CtX l0 D tys tl y ws rm1 w (As) E0) (hG : GoodIn Ts (wsS own index y ws)) (hd : y.cls = own ∧ y.cls ≠ "java/lang/invoke/MethodHandle" ∧ y.cls ≠ "java/lang/invoke/VarHandle" ∧ (parseMethodDescriptor y.desc).map (fun d => d.parameters.length) = some n) (hn : As.length = n) (hws : ws = Cond.code y bytes maxL ret1 :: ws') (hRm : rm1.frames + 1 ≤ rm.frames ∧ 8 + (maxL + 11) + rm1.locals ≤ rm.locals) (hf : cl + rm1.cells ≤ rm.cells ∧ sl + rm1.slots ≤ rm.slots) (h8 : (rest.map fun v => v.category).sum ≤ 8) (hst : st = As.reverse ++ rest) (hdg : decode cc pc = .ok (.invokestatic index, 3)) : V κ cl sl w pc L st := by
  subst hst
  obtain ⟨p, l, e, R, s, m, args, below, meth, c, nL0, D0, A, Q⟩ := κ
  obtain ⟨hx, hb, hml, hnl, hts, hown, hK, hA, hR, hret, hlo, hl0, hD0, hnm⟩ := C
  subst hnl
  intro H locs ls hP hD hS hl
  obtain ⟨hfl, hZ, htab, hQ⟩ := EE
  subst hD0
  subst hl0
  subst hR
  subst hQ
  have hF : ∀ q, va_A w H.size q → A q := by
    rintro q (⟨k, e9, h⟩ | h)
    · exact hD.2 k (q, e9) h
    · exact hA q (Nat.le_trans hS.1 h)
  have hrun := vx_runS (e := e) (below := below) (meth := meth) (locs := locs) (g := F0 m pc ls (As.reverse ++ rest)) (As := As) (rest := rest) ⟨hx, hb, hml, hown, hts⟩ (ct H.size) (cwS n hts hG hws rfl rfl hd hRm) ⟨fun a U g mk q => by obtain ⟨q0, q1, qP, qK, qD, qZ⟩ := q; exact ⟨q0, q1, qP, qK.calling, qD, qZ.calling⟩, fun U hU hW => ⟨rfl, by rw [hU], by rw [hU]; exact hP, hK.warm hW, hD.weaken (fun _ _ _ _ => trivial), ZX.warm hW hU hZ hS hF⟩⟩ rfl hn hl.1 rfl (lv_room h8) hdg hf
  intro T hT X
  rcases hrun T hT X with ⟨v, s0, t, T', Ls, h0, X', hL, e1, e2, hq9, stp⟩ | ⟨q, s0, t, T', Ls, E9, ce, h0, X', hL, e1, e2, ⟨u, hp9, ⟨rfl, hPt⟩, hz, hk9⟩, hce, hcv, hclq, stp⟩
  · exact hq9.elim
  · rw [h0] at hz hk9
    have hS2 : va_S A s.heap T'.heap (locs ++ Ls) := ⟨Nat.le_trans hS.1 (by rw [e1]; exact hz), fun q a b => by rw [e1, hk9 q (Nat.lt_of_lt_of_le a hS.1) (fun z => b (hF q z))]; exact hS.2.1 q a b, fun z hz9 => by
      rcases List.mem_append.mp hz9 with h | h
      · exact hS.2.2 z h
      · exact hF _ (hL z h)⟩
    have hw : vx_W p l e R s m args below meth c T'.heap (locs ++ Ls) (cl + rm1.cells) (sl + rm1.slots) (vx_MQ below (fun _ _ _ _ => False) (XE D0 w E9 A) args s R.cells R.slots A) (F0 m pc ls rest) q :=
      vx_out (E := E9) (fun x hx9 => (htab x hx9).elim) hlo (by rw [e1]; exact hce) hcv hclq (fun t2 ht2 hvm2 => ⟨(), trivial, ⟨rfl, by rw [ht2, e1]; exact hPt⟩, ⟨by rw [ht2]; exact hS2.1, fun q a b => by rw [ht2]; exact hS2.2.1 q a b⟩⟩) (fun z hz9 => hS2.2.2 z hz9) hf.1 hf.2
    obtain ⟨t2, a1, b1⟩ := hw T' rfl X'
    exact ⟨t2, stp.trans a1, b1⟩
/-- CONTRACT of a method that catches: it returns, and post holds -/
def CtH (l : Launch) (D : va_G) (tys : List (ClassId × FieldType)) (tl : List (String × Nat × String)) (y : MethodName) (ws : List Cond) (rm : Room) (w : va_W) (av : List Value) (post : Option Value → va_W → Prop) : Prop :=
  ∀ sz : Nat, vx_Met l y ws rm (va_Pc av (fun U => U.heap.size = sz ∧ va_P D vwCl w U.heap ∧ KX D tys U ∧ va_D (fun _ => True) w ∧ ZX tl (va_A w sz) U U.heap)) (Qx D post (va_A w sz)) (fun _ _ _ => False) rm.cells rm.slots (va_A w sz)
def HX (κ : VK) (tl : List (String × Nat × String)) (hh : List (Nat × Nat × Nat × Nat)) : Prop :=
  match κ with
  | (_, l, _, _, s, _, _, _, _, c, _, _, A, _) => l.stackTraces = false ∧ ZX tl A s s.heap ∧ c.exceptionTable.toList = tableOf hh
theorem CtH.of {l : Launch} {y : MethodName} {ws ws' : List Cond} {w : va_W} {av : List Value} {post : Option Value → va_W → Prop} {maxL : Nat} {hh : List (Nat × Nat × Nat × Nat)} (hfl : l.stackTraces = false) (L : List (Option Value)) (hy : plainName y.cls = true) (hw : ws = Cond.codeWith y cc maxL ret hh :: ws') (hcls : y.cls = own) (hn : (lg_sl av).length ≤ maxL) (hL : prs 0 L = lv_args 0 av)
    (body : ∀ κ : VK, Cx κ l D cc own ws maxL ret tys rm y.name → HX κ tl hh → Rt κ cc ret rm.cells rm.slots post → V κ 0 0 w 0 L []) : CtH l D tys tl y ws rm w av post := by
  intro sz
  refine vx_ofWH (cc := cc) (maxL := maxL) (ret := ret) hy hw ?_
  intro p e s m args below meth c s₁ B hml hv
  have htab : c.exceptionTable.toList = tableOf hh := vx_table (x := y) B (atoms_spec (ws := ws) B.pre _ (by rw [hw]; exact List.mem_cons_self))
  obtain ⟨rfl, hsz, hP, hK, hD0, hZ⟩ := hv
  have hx := B.exec
  have hb := B.bytes
  have hr := B.returns
  have hts := atoms_spec (ws := ws) B.pre
  have hown : s.vm.findClass own = some m.cls := by rw [← hcls]; exact findClass_of_methodNamed B.named
  have hlocks := B.notSynchronized
  subst hsz
  have hD := hD0.self (sz := s.heap.size)
  have hA : ∀ q : Nat, s.heap.size ≤ q → va_A w s.heap.size q := fun q h => Or.inr h
  have hl := lv_entry av (n := maxL) hn
  rw [lg_entry_eq]
  rw [← hL] at hl
  refine body (p, l, e, rm, s, m, av.toArray, below, meth, c, maxL, D, va_A w s.heap.size, vx_MQ below (Qx D post (va_A w s.heap.size)) (fun _ _ _ => False) av.toArray s rm.cells rm.slots (va_A w s.heap.size)) ⟨hx, hb, hml, rfl, hts, hown, hK, hA, rfl, hr, hlocks, rfl, rfl, (name_of_methodNamed B.named B.method).1⟩ ⟨hfl, hZ, htab⟩ ?_ s.heap [] _ hP hD va_S.rf hl
  intro w' pc L st rv hret hpost H locs ls hP1 hD1 hS1 hl1
  rcases hret with ⟨hdg, rfl, rfl, rfl⟩ | ⟨v, ty, hdg, rfl, hnar, rfl, rfl⟩ | ⟨v, hdg, rfl, rfl, rfl⟩
  · exact vx_ret (W.vret hx hb hr (fun t ht hW => ⟨⟨none, w', rfl, hpost, by rw [ht]; exact hP1, hD1⟩, hS1.F ht⟩) hS1.2.2 hdg)
  · exact vx_ret (W.zret hx hb hr hnar (fun t ht hW => ⟨⟨some (.int v), w', rfl, hpost, by rw [ht]; exact hP1, hD1⟩, hS1.F ht⟩) hS1.2.2 hdg)
  · exact vx_ret (W.lret hx hb hr (fun t ht hW => ⟨⟨some (.long v), w', rfl, hpost, by rw [ht]; exact hP1, hD1⟩, hS1.F ht⟩) hS1.2.2 hdg)
theorem V.last (C : Cx κ l0 D cc own Ts nL ret tys rm nm) {q0 t0 a n j : Nat} {cA : ClassId} {f : Nat → Int64} {i : Int32} {x : Int64} {w' : va_W} (he : w[q0]? = some (a, .inl (cA, n, .inr (.inl f)))) (ht : tys[t0]? = some (cA, .long)) (hi : i = nI j) (hj : j < n) (hn : n < 2 ^ 31) (hw' : w.set q0 (a, .inl (cA, n, .inr (.inl (vp_updL f j x)))) = w') (hdg : decode cc pc = .ok (.lastore, 1)) (kk : V κ cl sl w' (pc + 1) L st) : V κ cl sl w pc L (.long x :: .int i :: .ref a :: st) := by
  subst hi
  obtain ⟨p, l, e, R, s, m, args, below, meth, c, nL0, D0, A, Q⟩ := κ
  obtain ⟨hx, hb, hml, hnl, hts, hown, hK, hA, hR, hret, hlo, hl0, hD0, hnm⟩ := C
  subst hnl
  intro H locs ls hP hD hS hl
  subst hD0
  subst hw'
  refine va_last hx hb hK.1 hP hD hS q0 t0 he ht (vp_in_nI hj hn) hdg (fun H1 locs1 hP1 hD1 hS1 => ?_)
  rw [nI_clamp (by omega)] at hP1 hD1
  exact kk H1 locs1 ls hP1 hD1 hS1 hl
theorem V.catchV (C : Cx κ l0 D cc own Ts nL ret tys rm nm) {w0 X : va_W} {hh : List (Nat × Nat × Nat × Nat)} {y : MethodName} {ws ws' : List Cond} {rm1 : Room} {As rest : List Value} {index maxL n : Nat} {bytes : ByteArray} {ret1 : Option FieldType} {C0 : String} {b q0 ci : Nat} {T0 : u_T} {N0 : Nat} {fs : List Value} (HH : HX κ tl hh) (ct : CtX l0 D tys tl y ws rm1 w0 (.ref b :: As) E0) (hw : w = w0 ++ X) (hG : GoodIn Ts (wsV own index C0 y ws)) (hd : y.cls = C0 ∧ y.cls ≠ "java/lang/invoke/MethodHandle" ∧ y.cls ≠ "java/lang/invoke/VarHandle" ∧ (parseMethodDescriptor y.desc).map (fun d => d.parameters.length) = some n) (hn : As.length = n) (hq : w0[q0]? = some (b, .inr (ci, fs))) (hc : vwCl[ci]? = some (C0, T0, N0)) (hws : ws = Cond.code y bytes maxL ret1 :: ws') (hRm : rm1.frames + 1 ≤ rm.frames ∧ 8 + (maxL + 11) + rm1.locals ≤ rm.locals) (hf : cl + rm1.cells ≤ rm.cells ∧ sl + rm1.slots ≤ rm.slots) (h8 : (rest.map fun v => v.category).sum ≤ 8) (hst : st = As.reverse ++ .ref b :: rest) (hdg : decode cc pc = .ok (.invokevirtual index, 3)) (hE : E0 ∈ ES) (pre : List ExceptionTableEntry) (x : ExceptionTableEntry) (suf : List ExceptionTableEntry) (hsp : tableOf hh = pre ++ x :: suf) (hpass : ∀ z ∈ pre, z.catchType ≠ 0 ∧ Cond.classLink own z.catchType "java/lang/IndexOutOfBoundsException" ∈ Ts ∧ E0 = "java/lang/IllegalArgumentException") (hcv : covers x pc = true) (hct0 : x.catchType ≠ 0) (hcl9 : Cond.classLink own x.catchType E0 ∈ Ts) (kk : ∀ q : Nat, V κ (cl + rm1.cells) (sl + rm1.slots) (w0 ++ X) x.handlerPc L [.ref q]) : V κ cl sl w pc L st := by
  subst hst
  subst hw
  obtain ⟨p, l, e, R, s, m, args, below, meth, c, nL0, D0, A, Q⟩ := κ
  obtain ⟨hx, hb, hml, hnl, hts, hown, hK, hA, hR, hret, hlo, hl0, hD0, hnm⟩ := C
  subst hnl
  intro H locs ls hP hD hS hl
  obtain ⟨hfl, hZ, htab⟩ := HH
  subst hD0
  subst hl0
  subst hR
  obtain ⟨hPc, hDc⟩ := sub_left hP hD
  have hF : ∀ q, va_A w0 H.size q → A q := by
    rintro q (⟨k, e9, h⟩ | h)
    · exact hDc.2 k (q, e9) h
    · exact hA q (Nat.le_trans hS.1 h)
  have hrun := vx_runV (e := e) (below := below) (meth := meth) (locs := locs) (g := F0 m pc ls (As.reverse ++ .ref b :: rest)) (As := As) (rest := rest) ⟨hx, hb, hml, hown, hts⟩ (ct H.size) (cwV n hts hG hws rfl rfl hd hRm) ⟨fun a U g mk q => by obtain ⟨q0, q1, qP, qK, qD, qZ⟩ := q; exact ⟨q0, q1, qP, qK.calling, qD, qZ.calling⟩, va_recv hK.1 hPc hc hq, fun U hU hW => ⟨rfl, by rw [hU], by rw [hU]; exact hPc, hK.warm hW, hDc.weaken (fun _ _ _ _ => trivial), ZX.warm hW hU hZ hS hF⟩⟩ rfl hn hl.1 rfl (lv_room h8) hdg hf
  intro T hT X9
  rcases hrun T hT X9 with ⟨v, s0, t, T', Ls, h0, X', hL, e1, e2, hq9, stp⟩ | ⟨q, s0, t, T', Ls, E9, ce, h0, X', hL, e1, e2, ⟨u, hp9, ⟨rfl, hPt⟩, hz, hk9⟩, hce, hcv9, hclq, stp⟩
  · exact hq9.elim
  · rw [h0] at hz hk9
    obtain ⟨hP2, hD2⟩ := join_app (H1 := T'.heap) hP hD (fun q h1 h2 => by rw [e1]; exact hk9 q h1 h2) hF (by rw [e1]; exact hPt) hDc.self
    have hS2 : va_S A s.heap T'.heap (locs ++ Ls) := ⟨Nat.le_trans hS.1 (by rw [e1]; exact hz), fun q a b => by rw [e1, hk9 q (Nat.lt_of_lt_of_le a hS.1) (fun z => b (hF q z))]; exact hS.2.1 q a b, fun z hz9 => by
      rcases List.mem_append.mp hz9 with h | h
      · exact hS.2.2 z h
      · exact hF _ (hL z h)⟩
    have hgo : vx_W p l e R s m args below meth c T'.heap (locs ++ Ls) (cl + rm1.cells) (sl + rm1.slots) Q (F0 m pc ls rest) q :=
      vx_catch (own := own) (name := E9) (E := E9) (ce := ce) hown pre x suf (htab.trans hsp) (fun z hz9 => Or.inr ⟨(hpass z hz9).1, _, hts _ (hpass z hz9).2.1, by rw [(hpass z hz9).2.2]; exact hZ.2.2.2.2⟩) hcv hct0 (hts _ hcl9) (va_Nw.use rfl (hZ.2.2.2.1 E9 hE (.castable E9 E9) (by simp [BL]))) (by rw [e1]; exact hce) hcv9 hclq (kk q T'.heap (locs ++ Ls) ls hP2 hD2 hS2 hl)
    obtain ⟨t2, a1, b1⟩ := hgo T' rfl X'
    exact ⟨t2, stp.trans a1, b1⟩
end VXE
