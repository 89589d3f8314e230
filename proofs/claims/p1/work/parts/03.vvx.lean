section VVX
variable {κ : VK} {l0 : Launch} {D : va_G} {cc : ByteArray} {own : String} {Ts : List Cond} {nL : Nat} {ret : Option FieldType} {tys : List (ClassId × FieldType)} {rm : Room} {nm : String} {cl sl pc : Nat} {w : va_W} {L : List (Option Value)} {st : List Value}
theorem V.ishr (C : Cx κ l0 D cc own Ts nL ret tys rm nm) {x y : Int32} (hdg : decode cc pc = .ok (.ishr, 1)) (kk : V κ cl sl w (pc + 1) L (.int (x >>> (y &&& 31)) :: st)) : V κ cl sl w pc L (.int y :: .int x :: st) := by
  obtain ⟨p, l, e, R, s, m, args, below, meth, c, nL0, D0, A, Q⟩ := κ
  obtain ⟨hx, hb, hml, hnl, hts, hown, hK, hA, hR, hret, hlo, hl0, hD0, hnm⟩ := C
  subst hnl
  intro H locs ls hP hD hS hl
  exact lv_ishr hx hb hdg (kk H locs ls hP hD hS hl)
theorem V.callVXi (C : Cx κ l0 D cc own Ts nL ret tys rm nm) {y : MethodName} {ws ws' : List Cond} {rm1 : Room} {w0 X : va_W} {As rest : List Value} {index maxL n : Nat} {bytes : ByteArray} {ret1 : Option FieldType} {w1 : va_W} {v : Value}  {C0 : String} {b q0 ci : Nat} {T0 : u_T} {N0 : Nat} {fs : List Value} (ct : Cd l0 D tys y ws rm1 w0 (.ref b :: As) (some v) w1) (hw : w = w0 ++ X) (hG : GoodIn Ts (wsV own index C0 y ws)) (hd : y.cls = C0 ∧ y.cls ≠ "java/lang/invoke/MethodHandle" ∧ y.cls ≠ "java/lang/invoke/VarHandle" ∧ (parseMethodDescriptor y.desc).map (fun d => d.parameters.length) = some n) (hn : As.length = n) (hq : w0[q0]? = some (b, .inr (ci, fs))) (hc : vwCl[ci]? = some (C0, T0, N0)) (hws : ws = Cond.code y bytes maxL ret1 :: ws') (hRm : rm1.frames + 1 ≤ rm.frames ∧ 8 + (maxL + 11) + rm1.locals ≤ rm.locals) (h00 : rm1.cells = 0 ∧ rm1.slots = 0 ∧ cl ≤ rm.cells ∧ sl ≤ rm.slots) (h8 : (rest.map fun v => v.category).sum ≤ 8) (hst : st = As.reverse ++ .ref b :: rest) (hdg : decode cc pc = .ok (.invokevirtual index, 3)) (kk : V κ cl sl (w1 ++ X) (pc + 3) L (v :: rest)) : V κ cl sl w pc L st := by
  refine V.callV (X := X) (w0 := w0) C ct hw hG hd hn hq hc hws hRm ⟨by rw [h00.1]; exact h00.2.2.1, by rw [h00.2.1]; exact h00.2.2.2⟩ h8 hst hdg (fun rv w2 hp => ?_)
  obtain ⟨rfl, rfl⟩ := hp
  rw [h00.1, h00.2.1]
  exact kk
theorem V.callVXv (C : Cx κ l0 D cc own Ts nL ret tys rm nm) {y : MethodName} {ws ws' : List Cond} {rm1 : Room} {w0 X : va_W} {As rest : List Value} {index maxL n : Nat} {bytes : ByteArray} {ret1 : Option FieldType} {w1 : va_W}  {C0 : String} {b q0 ci : Nat} {T0 : u_T} {N0 : Nat} {fs : List Value} (ct : Cd l0 D tys y ws rm1 w0 (.ref b :: As) (none) w1) (hw : w = w0 ++ X) (hG : GoodIn Ts (wsV own index C0 y ws)) (hd : y.cls = C0 ∧ y.cls ≠ "java/lang/invoke/MethodHandle" ∧ y.cls ≠ "java/lang/invoke/VarHandle" ∧ (parseMethodDescriptor y.desc).map (fun d => d.parameters.length) = some n) (hn : As.length = n) (hq : w0[q0]? = some (b, .inr (ci, fs))) (hc : vwCl[ci]? = some (C0, T0, N0)) (hws : ws = Cond.code y bytes maxL ret1 :: ws') (hRm : rm1.frames + 1 ≤ rm.frames ∧ 8 + (maxL + 11) + rm1.locals ≤ rm.locals) (h00 : rm1.cells = 0 ∧ rm1.slots = 0 ∧ cl ≤ rm.cells ∧ sl ≤ rm.slots) (h8 : (rest.map fun v => v.category).sum ≤ 8) (hst : st = As.reverse ++ .ref b :: rest) (hdg : decode cc pc = .ok (.invokevirtual index, 3)) (kk : V κ cl sl (w1 ++ X) (pc + 3) L (rest)) : V κ cl sl w pc L st := by
  refine V.callV (X := X) (w0 := w0) C ct hw hG hd hn hq hc hws hRm ⟨by rw [h00.1]; exact h00.2.2.1, by rw [h00.2.1]; exact h00.2.2.2⟩ h8 hst hdg (fun rv w2 hp => ?_)
  obtain ⟨rfl, rfl⟩ := hp
  rw [h00.1, h00.2.1]
  exact kk
theorem V.callSXi (C : Cx κ l0 D cc own Ts nL ret tys rm nm) {y : MethodName} {ws ws' : List Cond} {rm1 : Room} {w0 X : va_W} {As rest : List Value} {index maxL n : Nat} {bytes : ByteArray} {ret1 : Option FieldType} {w1 : va_W} {v : Value}   (ct : Cd l0 D tys y ws rm1 w0 (As) (some v) w1) (hw : w = w0 ++ X) (hG : GoodIn Ts (va_wsS own index y ws)) (hd : y.cls ≠ "java/lang/invoke/MethodHandle" ∧ y.cls ≠ "java/lang/invoke/VarHandle" ∧ (parseMethodDescriptor y.desc).map (fun d => d.parameters.length) = some n) (hn : As.length = n) (hws : ws = Cond.code y bytes maxL ret1 :: ws') (hRm : rm1.frames + 1 ≤ rm.frames ∧ 8 + (maxL + 11) + rm1.locals ≤ rm.locals) (h00 : rm1.cells = 0 ∧ rm1.slots = 0 ∧ cl ≤ rm.cells ∧ sl ≤ rm.slots) (h8 : (rest.map fun v => v.category).sum ≤ 8) (hst : st = As.reverse ++ rest) (hdg : decode cc pc = .ok (.invokestatic index, 3)) (kk : V κ cl sl (w1 ++ X) (pc + 3) L (v :: rest)) : V κ cl sl w pc L st := by
  refine V.callSX (X := X) (w0 := w0) C ct hw hG hd hn hws hRm ⟨by rw [h00.1]; exact h00.2.2.1, by rw [h00.2.1]; exact h00.2.2.2⟩ h8 hst hdg (fun rv w2 hp => ?_)
  obtain ⟨rfl, rfl⟩ := hp
  rw [h00.1, h00.2.1]
  exact kk
theorem V.callSXv (C : Cx κ l0 D cc own Ts nL ret tys rm nm) {y : MethodName} {ws ws' : List Cond} {rm1 : Room} {w0 X : va_W} {As rest : List Value} {index maxL n : Nat} {bytes : ByteArray} {ret1 : Option FieldType} {w1 : va_W}   (ct : Cd l0 D tys y ws rm1 w0 (As) (none) w1) (hw : w = w0 ++ X) (hG : GoodIn Ts (va_wsS own index y ws)) (hd : y.cls ≠ "java/lang/invoke/MethodHandle" ∧ y.cls ≠ "java/lang/invoke/VarHandle" ∧ (parseMethodDescriptor y.desc).map (fun d => d.parameters.length) = some n) (hn : As.length = n) (hws : ws = Cond.code y bytes maxL ret1 :: ws') (hRm : rm1.frames + 1 ≤ rm.frames ∧ 8 + (maxL + 11) + rm1.locals ≤ rm.locals) (h00 : rm1.cells = 0 ∧ rm1.slots = 0 ∧ cl ≤ rm.cells ∧ sl ≤ rm.slots) (h8 : (rest.map fun v => v.category).sum ≤ 8) (hst : st = As.reverse ++ rest) (hdg : decode cc pc = .ok (.invokestatic index, 3)) (kk : V κ cl sl (w1 ++ X) (pc + 3) L (rest)) : V κ cl sl w pc L st := by
  refine V.callSX (X := X) (w0 := w0) C ct hw hG hd hn hws hRm ⟨by rw [h00.1]; exact h00.2.2.1, by rw [h00.2.1]; exact h00.2.2.2⟩ h8 hst hdg (fun rv w2 hp => ?_)
  obtain ⟨rfl, rfl⟩ := hp
  rw [h00.1, h00.2.1]
  exact kk
theorem V.callS2i (C : Cx κ l0 D cc own Ts nL ret tys rm nm) {y : MethodName} {ws ws' : List Cond} {rm1 : Room} {As rest : List Value} {index maxL n : Nat} {bytes : ByteArray} {ret1 : Option FieldType} {w1 : va_W} {v : Value}  (ct : Cd l0 D tys y ws rm1 w (As) (some v) w1) (hG : GoodIn Ts (va_wsS own index y ws)) (hd : y.cls ≠ "java/lang/invoke/MethodHandle" ∧ y.cls ≠ "java/lang/invoke/VarHandle" ∧ (parseMethodDescriptor y.desc).map (fun d => d.parameters.length) = some n) (hn : As.length = n) (hws : ws = Cond.code y bytes maxL ret1 :: ws') (hRm : rm1.frames + 1 ≤ rm.frames ∧ 8 + (maxL + 11) + rm1.locals ≤ rm.locals) (h00 : rm1.cells = 0 ∧ rm1.slots = 0 ∧ cl ≤ rm.cells ∧ sl ≤ rm.slots) (h8 : (rest.map fun v => v.category).sum ≤ 8) (hst : st = As.reverse ++ rest) (hdg : decode cc pc = .ok (.invokestatic index, 3)) (kk : V κ cl sl w1 (pc + 3) L (v :: rest)) : V κ cl sl w pc L st := by
  refine V.callSX (X := []) (w0 := w) C ct (List.append_nil w).symm hG hd hn hws hRm ⟨by rw [h00.1]; exact h00.2.2.1, by rw [h00.2.1]; exact h00.2.2.2⟩ h8 hst hdg (fun rv w2 hp => ?_)
  obtain ⟨rfl, rfl⟩ := hp
  rw [List.append_nil, h00.1, h00.2.1]
  exact kk
theorem V.callS2v (C : Cx κ l0 D cc own Ts nL ret tys rm nm) {y : MethodName} {ws ws' : List Cond} {rm1 : Room} {As rest : List Value} {index maxL n : Nat} {bytes : ByteArray} {ret1 : Option FieldType} {w1 : va_W}  (ct : Cd l0 D tys y ws rm1 w (As) (none) w1) (hG : GoodIn Ts (va_wsS own index y ws)) (hd : y.cls ≠ "java/lang/invoke/MethodHandle" ∧ y.cls ≠ "java/lang/invoke/VarHandle" ∧ (parseMethodDescriptor y.desc).map (fun d => d.parameters.length) = some n) (hn : As.length = n) (hws : ws = Cond.code y bytes maxL ret1 :: ws') (hRm : rm1.frames + 1 ≤ rm.frames ∧ 8 + (maxL + 11) + rm1.locals ≤ rm.locals) (h00 : rm1.cells = 0 ∧ rm1.slots = 0 ∧ cl ≤ rm.cells ∧ sl ≤ rm.slots) (h8 : (rest.map fun v => v.category).sum ≤ 8) (hst : st = As.reverse ++ rest) (hdg : decode cc pc = .ok (.invokestatic index, 3)) (kk : V κ cl sl w1 (pc + 3) L (rest)) : V κ cl sl w pc L st := by
  refine V.callSX (X := []) (w0 := w) C ct (List.append_nil w).symm hG hd hn hws hRm ⟨by rw [h00.1]; exact h00.2.2.1, by rw [h00.2.1]; exact h00.2.2.2⟩ h8 hst hdg (fun rv w2 hp => ?_)
  obtain ⟨rfl, rfl⟩ := hp
  rw [List.append_nil, h00.1, h00.2.1]
  exact kk
/-- the law's own script is there, and nothing writes it -/
def CxX (κ : VK) (b n : Nat) (xs : Nat → Int32) : Prop :=
  match κ with
  | (_, _, _, _, s, _, _, _, _, _, _, _, A, _) => va_X b n xs s s.heap ∧ b < s.heap.size ∧ ¬ A b
theorem V.sld (C : Cx κ l0 D cc own Ts nL ret tys rm nm) {b n : Nat} {xs : Nat → Int32} (CX : CxX κ b n xs) {i : Int32} (hin : vp_in i n) (hdg : decode cc pc = .ok (.iaload, 1)) (kk : V κ cl sl w (pc + 1) L (.int (xs i.toNatClampNeg) :: st)) : V κ cl sl w pc L (.int i :: .ref b :: st) := by
  obtain ⟨p, l, e, R, s, m, args, below, meth, c, nL0, D0, A, Q⟩ := κ
  obtain ⟨hx, hb, hml, hnl, hts, hown, hK, hA, hR, hret, hlo, hl0, hD0, hnm⟩ := C
  subst hnl
  intro H locs ls hP hD hS hl
  obtain ⟨hX, hbl, hbA⟩ := CX
  exact va_sld hx hb hX hbl hbA hS hin hdg (kk H locs ls hP hD hS hl)
theorem V.slen (C : Cx κ l0 D cc own Ts nL ret tys rm nm) {b n : Nat} {xs : Nat → Int32} (CX : CxX κ b n xs) (hdg : decode cc pc = .ok (.arraylength, 1)) (kk : V κ cl sl w (pc + 1) L (.int (nI n) :: st)) : V κ cl sl w pc L (.ref b :: st) := by
  obtain ⟨p, l, e, R, s, m, args, below, meth, c, nL0, D0, A, Q⟩ := κ
  obtain ⟨hx, hb, hml, hnl, hts, hown, hK, hA, hR, hret, hlo, hl0, hD0, hnm⟩ := C
  subst hnl
  intro H locs ls hP hD hS hl
  obtain ⟨hX, hbl, hbA⟩ := CX
  exact va_slen hx hb hX hbl hbA hS hdg (kk H locs ls hP hD hS hl)
/-- CONTRACT of a method that reads the script and the world not at all -/
def CtS (l : Launch) (D : va_G) (tys : List (ClassId × FieldType)) (y : MethodName) (ws : List Cond) (rm : Room) (b n : Nat) (xs : Nat → Int32) (av : List Value) (rv : Option Value) : Prop :=
  ∀ sz : Nat, Met l y ws rm (va_Pc av (fun U => (U.heap.size = sz ∧ va_P D vwCl [] U.heap ∧ KX D tys U ∧ va_D (fun _ => True) []) ∧ va_X b n xs U U.heap ∧ b < U.heap.size)) (Qx D (fun r x => r = rv ∧ x = []) (va_A [] sz)) rm.cells rm.slots (va_A [] sz)
theorem CtS.of {l : Launch} {D : va_G} {tys : List (ClassId × FieldType)} {y : MethodName} {ws ws' : List Cond} {rm : Room} {b n : Nat} {xs : Nat → Int32} {av : List Value} {rv : Option Value} {cc : ByteArray} {maxL : Nat} {ret : Option FieldType} {own : String} (L : List (Option Value)) (hy : plainName y.cls = true) (hw : ws = Cond.code y cc maxL ret :: ws') (hcls : y.cls = own) (hn : (lg_sl av).length ≤ maxL) (hL : prs 0 L = lv_args 0 av)
    (body : ∀ κ : VK, Cx κ l D cc own ws maxL ret tys rm y.name → CxX κ b n xs → Rt κ cc ret rm.cells rm.slots (fun r x => r = rv ∧ x = []) → V κ 0 0 [] 0 L []) : CtS l D tys y ws rm b n xs av rv := by
  intro sz
  refine Met.ofW (cc := cc) (maxL := maxL) (ret := ret) hy hw ?_
  intro p e s m args below meth c s₁ B hml hv
  obtain ⟨rfl, ⟨hsz, hP, hK, hD0⟩, hXX, hXb⟩ := hv
  have hx := B.exec
  have hb := B.bytes
  have hr := B.returns
  have hts := atoms_spec (ws := ws) B.pre
  have hown : s.vm.findClass own = some m.cls := by rw [← hcls]; exact findClass_of_methodNamed B.named
  have hlocks := B.notSynchronized
  subst hsz
  have hD := hD0.self (sz := s.heap.size)
  have hA : ∀ q : Nat, s.heap.size ≤ q → va_A [] s.heap.size q := fun q h => Or.inr h
  have hl := lv_entry av (n := maxL) hn
  rw [lg_entry_eq]
  rw [← hL] at hl
  refine body (p, l, e, rm, s, m, av.toArray, below, meth, c, maxL, D, va_A [] s.heap.size, MQ below (Qx D (fun r x => r = rv ∧ x = []) (va_A [] s.heap.size)) av.toArray s rm.cells rm.slots (va_A [] s.heap.size)) ⟨hx, hb, hml, rfl, hts, hown, hK, hA, rfl, hr, hlocks, rfl, rfl, (name_of_methodNamed B.named B.method).1⟩ ⟨hXX, hXb, fun z => z.elim (fun ⟨_, _, h9⟩ => by simp at h9) (fun h9 => absurd hXb (Nat.not_lt.mpr h9))⟩ ?_ s.heap [] _ hP hD va_S.rf hl
  intro w' pc L st rv hret hpost H locs ls hP1 hD1 hS1 hl1
  rcases hret with ⟨hdg, rfl, rfl, rfl⟩ | ⟨v, ty, hdg, rfl, hnar, rfl, rfl⟩ | ⟨v, hdg, rfl, rfl, rfl⟩
  · exact W.vret hx hb hr (fun t ht hW => ⟨⟨none, w', rfl, hpost, by rw [ht]; exact hP1, hD1⟩, hS1.F ht⟩) hS1.2.2 hdg
  · exact W.zret hx hb hr hnar (fun t ht hW => ⟨⟨some (.int v), w', rfl, hpost, by rw [ht]; exact hP1, hD1⟩, hS1.F ht⟩) hS1.2.2 hdg
  · exact W.lret hx hb hr (fun t ht hW => ⟨⟨some (.long v), w', rfl, hpost, by rw [ht]; exact hP1, hD1⟩, hS1.F ht⟩) hS1.2.2 hdg
theorem V.callSc {b9 n9 : Nat} {xs9 : Nat → Int32} (C : Cx κ l0 D cc own Ts nL ret tys rm nm) (CXx : CxX κ b9 n9 xs9) {y : MethodName} {ws ws' : List Cond} {rm1 : Room} {As rest : List Value} {index maxL n : Nat} {bytes : ByteArray} {ret1 : Option FieldType} {v : Value} (ct : CtS l0 D tys y ws rm1 b9 n9 xs9 As (some v)) (hG : GoodIn Ts (va_wsS own index y ws)) (hd : y.cls ≠ "java/lang/invoke/MethodHandle" ∧ y.cls ≠ "java/lang/invoke/VarHandle" ∧ (parseMethodDescriptor y.desc).map (fun d => d.parameters.length) = some n) (hn : As.length = n) (hws : ws = Cond.code y bytes maxL ret1 :: ws') (hRm : rm1.frames + 1 ≤ rm.frames ∧ 8 + (maxL + 11) + rm1.locals ≤ rm.locals) (h00 : rm1.cells = 0 ∧ rm1.slots = 0 ∧ cl ≤ rm.cells ∧ sl ≤ rm.slots) (h8 : (rest.map fun v => v.category).sum ≤ 8) (hst : st = As.reverse ++ rest) (hdg : decode cc pc = .ok (.invokestatic index, 3)) (kk : V κ cl sl w (pc + 3) L (v :: rest)) : V κ cl sl w pc L st := by
  subst hst
  obtain ⟨p, l, e, R, s, m, args, below, meth, c, nL0, D0, A, Q⟩ := κ
  obtain ⟨hx, hb, hml, hnl, hts, hown, hK, hA, hR, hret, hlo, hl0, hD0, hnm⟩ := C
  subst hnl
  intro H locs ls hP hD hS hl
  subst hD0
  subst hl0
  subst hR
  obtain ⟨hX, hbl, hbA⟩ := CXx
  have hXH : va_X b9 n9 xs9 s H := hX.kept (hS.2.1 _ hbl hbA)
  refine V.behind (X := w) (w0 := []) (post := fun r x => r = some v ∧ x = []) (va_runS (As := As) (rest := rest) ⟨hx, hb, hml, hown, hts⟩ (ct H.size) (va_cwS n hts hG hws rfl rfl hd hRm) ⟨fun a U g mk q => by obtain ⟨q0, ⟨q1, qP, qK, qD⟩, qX, qb⟩ := q; exact ⟨q0, ⟨q1, qP, qK.calling, qD⟩, va_X.moved (u := U) (U := U.calling g mk a) (Vm.Alike.refl U.vm) qX, qb⟩, fun U hU hW => ⟨rfl, ⟨by rw [hU], fun k q h => by simp at h, hK.warm hW, ⟨fun i j p q hi => by simp at hi, fun i p hi => by simp at hi⟩⟩, va_X.moved hW.alike (by rw [hU]; exact hXH), by rw [hU]; exact Nat.lt_of_lt_of_le hbl hS.1⟩⟩ rfl hn hl.1 rfl (lv_room h8) hdg ⟨by rw [h00.1]; exact h00.2.2.1, by rw [h00.2.1]; exact h00.2.2.2⟩) hP hD hS hA hl (fun rv w2 hp => ?_)
  obtain ⟨rfl, rfl⟩ := hp
  rw [h00.1, h00.2.1]
  exact kk
/-- a loop over states: from one that J k says, on to one that J (k + 1) says -/
theorem V.loopS {S : Type} (N : Nat) (J : Nat → S → Prop) (P : Nat → S → Prop) (step : ∀ k, k < N → ∀ s, J k s → (∀ t, J (k + 1) t → P (k + 1) t) → P k s) (last : ∀ s, J N s → P N s) (s : S) (h : J 0 s) : P 0 s := by
  have go : ∀ n k, n + k = N → ∀ s, J k s → P k s := by
    intro n
    induction n with
    | zero =>
      intro k hk s hs
      obtain rfl : k = N := (by omega)
      exact last s hs
    | succ n ih =>
      intro k hk s hs
      exact step k (by omega) s hs (fun t ht => ih (k + 1) (by omega) t ht)
  exact go N 0 (by omega) s h
theorem V.lcmp (C : Cx κ l0 D cc own Ts nL ret tys rm nm) {x : Int64} (hdg : decode cc pc = .ok (.lcmp, 1)) (kk : V κ cl sl w (pc + 1) L (.int (nI 0) :: st)) : V κ cl sl w pc L (.long x :: .long x :: st) := by
  obtain ⟨p, l, e, R, s, m, args, below, meth, c, nL0, D0, A, Q⟩ := κ
  obtain ⟨hx, hb, hml, hnl, hts, hown, hK, hA, hR, hret, hlo, hl0, hD0, hnm⟩ := C
  subst hnl
  intro H locs ls hP hD hS hl
  intro T hT X
  obtain ⟨t, a, b⟩ := kk H locs ls hP hD hS hl T hT X
  refine ⟨t, ?_, b⟩
  have hne : ¬ x > x := Int64.lt_irrefl
  jvm_step X.here [X.here.top, hx, hb, hdg]
  exact a
theorem V.stack {st1 : List Value} (h : st = st1) (kk : V κ cl sl w pc L st1) : V κ cl sl w pc L st := h ▸ kk
end VVX
