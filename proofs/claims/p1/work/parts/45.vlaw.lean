section VLAW
variable {κ : VK} {l0 : Launch} {D : va_G} {cc : ByteArray} {own : String} {Ts : List Cond} {nL : Nat} {ret : Option FieldType} {tys : List (ClassId × FieldType)} {rm : Room} {nm : String} {cl sl pc : Nat} {w : va_W} {L : List (Option Value)} {st : List Value} {e0 : Nat} {tl : List (String × Nat × String)}
def XZ (κ : VK) (tl : List (String × Nat × String)) : Prop :=
  match κ with
  | (_, _, _, _, s, _, _, _, _, _, _, _, A, _) => ZX tl A s s.heap
theorem V.hS (C : Cx κ l0 D cc own Ts nL ret tys rm nm) (ZX9 : XZ κ tl) {y : MethodName} {ws ws' : List Cond} {rm1 : Room} {w0 X : va_W} {As rest : List Value} {index maxL n : Nat} {bytes : ByteArray} {ret1 : Option FieldType} {hh : List (Nat × Nat × Nat × Nat)} {v : Value} {w1 : va_W} (ct : CtH l0 D tys tl y ws rm1 w0 As (fun r z => r = some v ∧ z = w1)) (hw : w = w0 ++ X) (hG : GoodIn Ts (va_wsS own index y ws)) (hd : y.cls ≠ "java/lang/invoke/MethodHandle" ∧ y.cls ≠ "java/lang/invoke/VarHandle" ∧ (parseMethodDescriptor y.desc).map (fun d => d.parameters.length) = some n) (hn : As.length = n) (hws : ws = Cond.codeWith y bytes maxL ret1 hh :: ws') (hRm : rm1.frames + 1 ≤ rm.frames ∧ 8 + (maxL + 11) + rm1.locals ≤ rm.locals) (hf : cl + rm1.cells ≤ rm.cells ∧ sl + rm1.slots ≤ rm.slots) (h8 : (rest.map fun v => v.category).sum ≤ 8) (hst : st = As.reverse ++ rest) (hdg : decode cc pc = .ok (.invokestatic index, 3)) (kk : V κ (cl + rm1.cells) (sl + rm1.slots) (w1 ++ X) (pc + 3) L (v :: rest)) : V κ cl sl w pc L st := by
  subst hw
  subst hst
  obtain ⟨p, l, e, R, s, m, args, below, meth, c, nL0, D0, A, Q⟩ := κ
  obtain ⟨hx, hb, hml, hnl, hts, hown, hK, hA, hR, hret, hlo, hl0, hD0, hnm⟩ := C
  subst hnl
  intro H locs ls hP hD hS hl
  subst hD0
  subst hl0
  subst hR
  obtain ⟨hPc, hDc⟩ := sub_left hP hD
  have hF : ∀ q, va_A w0 H.size q → A q := by
    rintro q (⟨k, e9, h⟩ | h)
    · exact hDc.2 k (q, e9) h
    · exact hA q (Nat.le_trans hS.1 h)
  have hrun := vx_runSX (e := e) (below := below) (meth := meth) (locs := locs) (g := F0 m pc ls (As.reverse ++ rest)) (As := As) (rest := rest) ⟨hx, hb, hml, hown, hts⟩ (ct H.size) (vx_cwSW n hts hG hws rfl rfl hd hRm) ⟨fun a U g mk q => by obtain ⟨q0, q1, qP, qK, qD, qZ⟩ := q; exact ⟨q0, q1, qP, qK.calling, qD, qZ.calling⟩, fun U hU hW => ⟨rfl, by rw [hU], by rw [hU]; exact hPc, hK.warm hW, hDc.weaken (fun _ _ _ _ => trivial), ZX.warm hW hU ZX9 hS hF⟩⟩ rfl hn hl.1 rfl (lv_room h8) hdg hf
  refine V.behind (X := X) (w0 := w0) (a := As.toArray) (post := fun r z => r = some v ∧ z = w1) (fun T hT X9 => ?_) hP hD hS hA hl (fun rv w2 hp => by obtain ⟨rfl, rfl⟩ := hp; exact kk)
  rcases hrun T hT X9 with h | ⟨q, s0, t, T', Ls, E9, ce, h0, X', hL, e1, e2, hq9, _⟩
  · exact h
  · exact hq9.elim
theorem V.lald (C : Cx κ l0 D cc own Ts nL ret tys rm nm) {q0 t0 a n j : Nat} {cA : ClassId} {f : Nat → Int64} {i : Int32} (he : w[q0]? = some (a, .inl (cA, n, .inr (.inl f)))) (ht : tys[t0]? = some (cA, .long)) (hi : i = nI j) (hj : j < n) (hn : n < 2 ^ 31) (hdg : decode cc pc = .ok (.laload, 1)) (kk : V κ cl sl w (pc + 1) L (.long (f j) :: st)) : V κ cl sl w pc L (.int i :: .ref a :: st) := by
  subst hi
  obtain ⟨p, l, e, R, s, m, args, below, meth, c, nL0, D0, A, Q⟩ := κ
  obtain ⟨hx, hb, hml, hnl, hts, hown, hK, hA, hR, hret, hlo, hl0, hD0, hnm⟩ := C
  subst hnl
  intro H locs ls hP hD hS hl
  subst hD0
  refine va_lald hx hb hK.1 hP q0 t0 he ht (vp_in_nI hj hn) hdg ?_
  rw [nI_clamp (by omega)]
  exact kk H locs ls hP hD hS hl
theorem V.zVfx (C : Cx κ l0 D cc own Ts nL ret tys rm nm) (ZE : EZ κ e0) {y : MethodName} {ws ws' : List Cond} {rm1 : Room} {w0 X : va_W} {As rest : List Value} {index maxL n : Nat} {bytes : ByteArray} {ret1 : Option FieldType} {C0 : String} {b q0 ci : Nat} {T0 : u_T} {N0 : Nat} {fs0 : List Value} {v : Value} {wf : List Value → va_W} (ct : CtZ l0 D tys e0 y ws rm1 w0 (.ref b :: As) (fun r z => ∃ fs, r = some v ∧ z = wf fs)) (hw : w = w0 ++ X) (hG : GoodIn Ts (wsV own index C0 y ws)) (hd : y.cls = C0 ∧ y.cls ≠ "java/lang/invoke/MethodHandle" ∧ y.cls ≠ "java/lang/invoke/VarHandle" ∧ (parseMethodDescriptor y.desc).map (fun d => d.parameters.length) = some n) (hn : As.length = n) (hq : w0[q0]? = some (b, .inr (ci, fs0))) (hc : vwCl[ci]? = some (C0, T0, N0)) (hws : ws = Cond.code y bytes maxL ret1 :: ws') (hRm : rm1.frames + 1 ≤ rm.frames ∧ 8 + (maxL + 11) + rm1.locals ≤ rm.locals) (hf : cl + rm1.cells ≤ rm.cells ∧ sl + rm1.slots ≤ rm.slots) (h8 : (rest.map fun v => v.category).sum ≤ 8) (hst : st = As.reverse ++ .ref b :: rest) (hdg : decode cc pc = .ok (.invokevirtual index, 3)) (kk : ∀ fs, V κ (cl + rm1.cells) (sl + rm1.slots) (wf fs ++ X) (pc + 3) L (v :: rest)) : V κ cl sl w pc L st :=
  V.zV C ZE ct hw hG hd hn hq hc hws hRm hf h8 hst hdg (fun rv w2 hp => by obtain ⟨fs, rfl, rfl⟩ := hp; exact kk fs)
theorem and31 (x : Int32) : ∃ j : Nat, j < 32 ∧ x &&& nI 31 = nI j := pk_andE x 5 (by decide +kernel)
theorem and31' (x : Int32) : ∃ j : Nat, j < 32 ∧ (nI 31 &&& x) = nI j := by
  obtain ⟨j, h1, h2⟩ := and31 x
  exact ⟨j, h1, by rw [Int32.and_comm]; exact h2⟩
end VLAW
