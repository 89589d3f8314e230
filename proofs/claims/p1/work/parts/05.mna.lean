section MNA
/-! new int[3][2], over the walk: four cells, the outer one first -/
def mnI (comp : ClassId) : Cell := { cls := comp, slots := Array.replicate 2 (.int 0), vm := .none }
def mnO (c : ClassId) (h k : Nat) : Cell := { cls := c, slots := #[va_rf (if 0 < k then some (h + 1) else none), va_rf (if 1 < k then some (h + 2) else none), va_rf (if 2 < k then some (h + 3) else none)], vm := .none }
theorem mnO_0 (c : ClassId) (h : Nat) : ({ cls := c, slots := Array.replicate 3 .null, vm := .none } : Cell) = mnO c h 0 := rfl
theorem mnO_set (c : ClassId) (h : Nat) : ∀ k : Nat, k < 3 → (mnO c h k).setSlot k (.ref (h + 1 + k)) = mnO c h (k + 1) := by
  intro k hk
  rcases (show k = 0 ∨ k = 1 ∨ k = 2 by omega) with rfl | rfl | rfl <;> simp [mnO, Cell.setSlot, va_rf]
/-- behind k rows -/
def mnS (s : State) (c comp : ClassId) : Nat → State
  | 0 => s.pushCell (mnO c s.heap.size 0)
  | k + 1 => ((mnS s c comp k).pushCell (mnI comp)).setCell s.heap.size (mnO c s.heap.size (k + 1))
theorem mnS_at (s : State) (c comp : ClassId) : ∀ k : Nat, (mnS s c comp k).heap.size = s.heap.size + 1 + k ∧ (mnS s c comp k).heap[s.heap.size]? = some (mnO c s.heap.size k) ∧ (mnS s c comp k).vm = s.vm ∧ (mnS s c comp k).slotsUsed = s.slotsUsed + 3 + k * 2
  | 0 => ⟨by simp [mnS], by simp [mnS], rfl, by simp [mnS, mnO]⟩
  | k + 1 => by
    obtain ⟨a, b, d, u⟩ := mnS_at s c comp k
    have hb : ((mnS s c comp k).pushCell (mnI comp)).heap[s.heap.size]? = some (mnO c s.heap.size k) := by
      have hlt : s.heap.size < (mnS s c comp k).heap.size := by omega
      rw [State.heap_pushCell_of_lt (h := hlt)]
      exact b
    refine ⟨?_, State.heap_setCell_self hb, by simp [mnS, d], ?_⟩
    · simp [mnS, State.setCell, a]
      omega
    · simp [mnS, u, mnI]
      omega
theorem mnS_top (s : State) (f : JFrame) (c comp : ClassId) : ∀ k : Nat, mnS (s.setTop f) c comp k = (mnS s c comp k).setTop f
  | 0 => rfl
  | k + 1 => by simp only [mnS, mnS_top s f c comp k, State.heap_setTop, State.pushCell_setTop, State.setCell_setTop]
theorem mnS_old (s : State) (c comp : ClassId) {a : Nat} (ha : a < s.heap.size) : ∀ k : Nat, (mnS s c comp k).heap[a]? = s.heap[a]?
  | 0 => State.heap_pushCell_of_lt _ _ ha
  | k + 1 => by
    have f := (mnS_at s c comp k).1
    show (((mnS s c comp k).pushCell (mnI comp)).setCell s.heap.size _).heap[a]? = _
    have hlt : a < (mnS s c comp k).heap.size := by omega
    rw [State.heap_setCell_other (show s.heap.size ≠ a by omega), State.heap_pushCell_of_lt (h := hlt)]
    exact mnS_old s c comp ha k
theorem mnS_row (s : State) (c comp : ClassId) : ∀ k j : Nat, j < k → (mnS s c comp k).heap[s.heap.size + 1 + j]? = some (mnI comp)
  | 0, _, h => absurd h (Nat.not_lt_zero _)
  | k + 1, j, h => by
    have f := (mnS_at s c comp k).1
    show (((mnS s c comp k).pushCell (mnI comp)).setCell s.heap.size _).heap[s.heap.size + 1 + j]? = _
    rw [State.heap_setCell_other (show s.heap.size ≠ s.heap.size + 1 + j by omega)]
    by_cases hj : j < k
    · have hlt : s.heap.size + 1 + j < (mnS s c comp k).heap.size := by omega
      rw [State.heap_pushCell_of_lt (h := hlt)]
      exact mnS_row s c comp k j hj
    · obtain rfl : j = k := by omega
      rw [← f]
      exact State.heap_pushCell_size _ _
theorem mn_new {E : CtlPost} {e : Env} {d : Bool} {acts : List Action} {s : State} {c comp : ClassId} {k : Class} {type : FieldType} {len : Nat} {init : Value} (hk : s.vm.classes[c]? = some k) (hkind : k.kind = .array comp type) (hl : ¬ len > e.platform.arrayLengthLimit) (hh : ¬ len * componentBytes type > e.platform.maxHeapBytes) (hfit : fits type init = true) (hdef : init.isDefault = true) {Q : Addr → Pre} (h1 : s.heap.size < e.platform.maxCells) (h2 : s.slotsUsed + len ≤ e.platform.maxSlots) (hq : Q s.heap.size d acts (s.pushCell { cls := c, slots := Array.replicate len init, vm := .none })) : wp (Jvm.newArray c len init) Q E e d acts s := by
  have hf : ∀ i v, (Array.replicate len init)[i]? = some v → s.fitsSlot c .none i v = true := by
    intro i v hv
    rw [Array.getElem?_replicate] at hv
    split at hv
    · cases hv
      simp [State.fitsSlot, State.slotType?, hk, hkind, hfit]
    · cases hv
  have hda : allocActs (Array.replicate len init) s.heap.size acts = acts := by
    unfold allocActs
    rw [if_pos (by rw [Array.all_replicate]; split <;> simp [hdef])]
  simp only [Jvm.newArray, Jvm.arrayFits, wp_bind', Jvm.W.ask, Jvm.W.ite, hl, if_false, wp_pure', Jvm.W.theClass, hk, hkind, hh, Jvm.W.alloc, Jvm.W.stop, Option.some.injEq, exists_eq_left', Array.size_replicate, hda]
  rw [if_neg (by omega)]
  exact ⟨h1, h2, hf, hq⟩
theorem mn_row {E : CtlPost} {e : Env} {d : Bool} {acts : List Action} {s : State} {comp cc : ClassId} {kc : Class} (hkc : s.vm.classes[comp]? = some kc) (hkindc : kc.kind = .array cc .int) (hl : 3 ≤ e.platform.arrayLengthLimit) (hh : 12 ≤ e.platform.maxHeapBytes) (h1 : s.heap.size < e.platform.maxCells) (h2 : s.slotsUsed + 2 ≤ e.platform.maxSlots) {Q : Addr → Pre} (hq : Q s.heap.size d acts (s.pushCell (mnI comp))) : wp (multianewarray.make comp [2]) Q E e d acts s := by
  have e2 : (2 : Int32).toNatClampNeg = 2 := by decide
  have h20 : ¬ (2 : Int32) < 0 := by decide
  rw [multianewarray.make]
  simp only [wp_bind', Jvm.W.ite, h20, if_false, wp_pure', Jvm.W.theClass, hkc, hkindc, Option.some.injEq, exists_eq_left', e2]
  exact mn_new hkc hkindc (by omega) (by show ¬ 2 * 4 > _; omega) rfl rfl h1 h2 hq
theorem mn_step {E : CtlPost} {e : Env} {d : Bool} {acts : List Action} {s : State} {c comp cc : ClassId} {k kc : Class} (hk : s.vm.classes[c]? = some k) (hkind : k.kind = .array comp (.array .int)) (hkc : s.vm.classes[comp]? = some kc) (hkindc : kc.kind = .array cc .int) (hl : 3 ≤ e.platform.arrayLengthLimit) (hh : 12 ≤ e.platform.maxHeapBytes) (hc : s.heap.size + 4 ≤ e.platform.maxCells) (hs : s.slotsUsed + 9 ≤ e.platform.maxSlots) (i : Nat) (hi : i < 3) {Q : PUnit → Pre} (hq : ∀ d' acts', Q PUnit.unit d' acts' (mnS s c comp (i + 1))) : wp (multianewarray.make comp [2] >>= fun a => writeLoc s.heap.size i (.ref a)) Q E e d acts (mnS s c comp i) := by
  obtain ⟨f1, f2, f3, f4⟩ := mnS_at s c comp i
  rw [wp_bind']
  refine mn_row (by rw [f3]; exact hkc) hkindc hl hh (by omega) (by omega) ?_
  rw [Jvm.W.writeLoc]
  have hlt : s.heap.size < (mnS s c comp i).heap.size := by omega
  refine ⟨mnO c s.heap.size i, by rw [State.heap_pushCell_of_lt (h := hlt)]; exact f2, by simp [mnO], by simp [mnO]; exact hi, ?_, ?_⟩
  · simp [mnO, State.fitsSlot, State.slotType?, f3, hk, hkind, fits]
  · rw [f1, mnO_set _ _ _ hi]
    exact hq _ _
theorem mn_make {E : CtlPost} {e : Env} {d : Bool} {acts : List Action} {s : State} {c comp cc : ClassId} {k kc : Class} (hk : s.vm.classes[c]? = some k) (hkind : k.kind = .array comp (.array .int)) (hkc : s.vm.classes[comp]? = some kc) (hkindc : kc.kind = .array cc .int) (hl : 3 ≤ e.platform.arrayLengthLimit) (hh : 12 ≤ e.platform.maxHeapBytes) (hc : s.heap.size + 4 ≤ e.platform.maxCells) (hs : s.slotsUsed + 9 ≤ e.platform.maxSlots) {Q : Addr → Pre} (hq : ∀ d' acts', Q s.heap.size d' acts' (mnS s c comp 3)) : wp (multianewarray.make c [3, 2]) Q E e d acts s := by
  have e3 : (3 : Int32).toNatClampNeg = 3 := by decide
  have h30 : ¬ (3 : Int32) < 0 := by decide
  have hfind : ([2].find? (· < (0 : Int32))) = none := by decide
  rw [multianewarray.make]
  simp only [wp_bind', Jvm.W.ite, h30, if_false, wp_pure', Jvm.W.theClass, hk, hkind, Option.some.injEq, exists_eq_left', e3]
  refine mn_new hk hkind (by omega) (by show ¬ 3 * 4 > _; omega) rfl rfl (by omega) (by omega) ?_
  simp only [hfind]
  rw [ite_self, wp_bind', Std.Legacy.Range.forIn_eq_forIn_range']
  show wp (forIn (List.range' 0 3 1) PUnit.unit _) _ E e d acts _
  refine wp_forIn_inv (fun rest s' => ∃ i, i ≤ 3 ∧ rest = List.range' i (3 - i) ∧ s' = mnS s c comp i) _ _ ⟨0, by omega, rfl, rfl⟩ ?_ ?_
  · rintro x rest s' d' acts' Q' ⟨i, hi, hl9, rfl⟩ hnext
    have hx : i < 3 ∧ x = i ∧ rest = List.range' (i + 1) (3 - (i + 1)) := by
      rcases (show i = 0 ∨ i = 1 ∨ i = 2 ∨ i = 3 by omega) with rfl | rfl | rfl | rfl <;> simp [List.range'] at hl9 ⊢ <;> first | exact hl9 | exact ⟨hl9.1, hl9.2⟩
    obtain ⟨hi3, rfl, hrest⟩ := hx
    have h9 := mn_step (E := E) (e := e) (d := d') (acts := acts') hk hkind hkc hkindc hl hh hc hs x hi3 (Q := fun _ d2 a2 s2 => Q' (.yield PUnit.unit) d2 a2 s2) (fun d2 a2 => hnext _ _ _ ⟨x + 1, by omega, hrest, rfl⟩)
    simp only [wp_bind', wp_pure'] at h9 ⊢
    exact h9
  · rintro s' d' acts' ⟨i, hi, hl9, rfl⟩
    obtain rfl : i = 3 := by
      rcases (show i = 0 ∨ i = 1 ∨ i = 2 ∨ i = 3 by omega) with rfl | rfl | rfl | rfl <;> simp [List.range'] at hl9 ⊢
    simp only [wp_pure']
    exact hq _ _
end MNA
section MNB
variable {p : Program} {l : Launch} {e : Env} {R : Room} {s : State} {m : MethodId} {args : Array Value} {below : List Frame} {meth : Method} {c : Code} {H : Heap} {locs : List Loc} {cells slots : Nat} {Q : State → Prop}
theorem mn_stand {T : State} (X : Stand p l e R s m args below meth c T locs cells slots) (cA comp : ClassId) : ∀ k : Nat, k ≤ 3 → ∃ J : List Loc, (∀ x ∈ J, x.base = T.heap.size) ∧ Stand p l e R s m args below meth c (mnS T cA comp k) (locs ++ J) (cells + 1 + k) (slots + 3 + k * 2)
  | 0, _ => ⟨[], by simp, by have h := X.pushed (mnO cA T.heap.size 0); simpa [mnS, mnO] using h⟩
  | k + 1, hk => by
    obtain ⟨J, hJ, Xk⟩ := mn_stand X cA comp k (by omega)
    obtain ⟨f1, f2, -, -⟩ := mnS_at T cA comp k
    have hcell : ((mnS T cA comp k).pushCell (mnI comp)).heap[T.heap.size]? = some (mnO cA T.heap.size k) := by
      have hlt : T.heap.size < (mnS T cA comp k).heap.size := by omega
      rw [State.heap_pushCell_of_lt (h := hlt)]
      exact f2
    have h := (Xk.pushed (mnI comp)).stored hcell k (.ref (T.heap.size + 1 + k))
    rw [mnO_set _ _ _ (by omega)] at h
    refine ⟨J ++ [⟨T.heap.size, k⟩], fun x hx => ?_, ?_⟩
    · rcases List.mem_append.mp hx with h9 | h9
      · exact hJ x h9
      · rw [List.mem_singleton.mp h9]
    · rw [← List.append_assoc, show cells + 1 + (k + 1) = cells + 1 + k + 1 by omega, show slots + 3 + (k + 1) * 2 = slots + 3 + k * 2 + 2 by omega]
      exact h
/-- new int[3][2]: the row -/
theorem W.mna32 (hexec : p.tables.exec = Jvm.exec) {own : String} {index pc : Nat} {cc : ByteArray} (hb : c.code = cc) (hown : s.vm.findClass own = some m.cls) (hclink : (Cond.classLink own index "[[I").before args s = true) (hover : (Cond.arrayOver (.array .int)).before args s = true) (harr : (Cond.arrayClass .int).before args s = true) {ls : Array Slot} {rest : List Value} (hdg : decode cc pc = .ok (.multianewarray index 2, 4)) (hcells : cells + 4 ≤ R.cells) (hslots : slots + 9 ≤ R.slots)
    (kk : ∀ (cA comp : ClassId) (H1 : Heap), s.vm.findClass "[[I" = some cA → s.vm.findClass "[I" = some comp → H1.size = H.size + 4 → (∀ a : Nat, a < H.size → H1[a]? = H[a]?) → H1[H.size]? = some (mnO cA H.size 3) → (∀ j : Nat, j < 3 → H1[H.size + 1 + j]? = some (mnI comp)) → W p l e R s m args below meth c H1 locs (cells + 4) (slots + 9) Q (F0 m (pc + 4) ls (.ref H.size :: rest))) : W p l e R s m args below meth c H locs cells slots Q (F0 m pc ls (.int 2 :: .int 3 :: rest)) := by
  intro T hT X
  subst hb
  have hpl : e.platform.magicAccessors = ({} : Platform).magicAccessors := by rw [X.admits.platform]
  obtain ⟨comp, cA, kA, hcomp, hidx, hkA, hkindA, hnameA⟩ := arrayOverA_spec hover
  obtain ⟨comp', kC, cc, hcomp', hkC, hkindC⟩ := Cond.arrayClass_spec harr
  have ecomp : comp' = comp := Option.some.inj (hcomp'.symm.trans hcomp)
  subst ecomp
  obtain ⟨c0, hfc0, hcl⟩ := Cond.classLink_spec hown hclink e.platform hpl
  have hcA : c0 = cA := Option.some.inj (hfc0.symm.trans hnameA)
  subst hcA
  obtain ⟨hg1, hwarm1, hready1⟩ := State.classEntry (e := e) X.warmed hcl
  generalize T.vm.noted (F0 m pc ls (.int 2 :: .int 3 :: rest)).method.cls index (.cls c0) = vm1 at hg1 hwarm1 hready1
  have hal : s.vm.Alike vm1 := hwarm1.alike
  obtain ⟨kA1, hkA1, heA⟩ := hal.2.2 _ _ hkA
  obtain ⟨kC1, hkC1, heC⟩ := hal.2.2 _ _ hkC
  have hkindA1 : kA1.kind = .array comp' (.array .int) := by rw [heA]; exact hkindA
  have hkindC1 : kC1.kind = .array cc .int := by rw [heC]; exact hkindC
  have X1 := X.noted hwarm1
  obtain ⟨hr1, hr2⟩ := X.roomAbove hcells hslots
  obtain ⟨J, hJ, X3⟩ := mn_stand X1 c0 comp' 3 (by omega)
  have X4 := X3.dropFresh (fun x hx => by rw [hJ x hx]; exact X.heapGrown)
  obtain ⟨f1, f2, f3, f4⟩ := mnS_at (T.setVm vm1) c0 comp' 3
  have hTh : (T.setVm vm1).heap = H := hT
  obtain ⟨t, a1, b1⟩ := kk c0 comp' (mnS (T.setVm vm1) c0 comp' 3).heap hnameA hcomp (by rw [f1, hTh]) (fun a ha => by rw [mnS_old (T.setVm vm1) c0 comp' (by rw [hTh]; exact ha)]; rw [hTh]) (by rw [← hTh]; exact f2) (fun j hj => by rw [← hTh]; exact mnS_row (T.setVm vm1) c0 comp' 3 j hj) (mnS (T.setVm vm1) c0 comp' 3) rfl X4
  refine ⟨t, ?_, b1⟩
  have hlim : 3 ≤ e.platform.arrayLengthLimit := by rw [Launch.admits_arrayLengthLimit X.admits]; decide
  have hhp : 12 ≤ e.platform.maxHeapBytes := by rw [Launch.admits_maxHeapBytes X.admits]; decide
  jvm_step X.here [hexec, hdg]
  have hg2 : (resolveClass ((F0 m pc ls (.int 2 :: .int 3 :: rest))).method.cls index).Gives e.toSetting (T.setTop (F0 m pc ls (.int 2 :: .int 3 :: rest))).vm (.ok c0) vm1 := hg1
  have hm2 := State.method?_setTop (s := T) (F0 m pc ls (.int 2 :: .int 3 :: rest)) X.here.top
  simp only [multianewarray.sem, wp_bind', Jvm.W.resolveClassAt_links hm2 hg2]
  rw [Jvm.W.popN, if_neg (by decide)]
  refine ⟨(F0 m pc ls (.int 2 :: .int 3 :: rest)), State.topJava?_setTop' (s := T.setVm vm1) (F0 m pc ls (.int 2 :: .int 3 :: rest)) X.here.top, [.int 3, .int 2], rest, rfl, rfl, ?_⟩
  simp only [List.mapM_cons, List.mapM_nil, wp_bind', wp_pure']
  refine mn_make (k := kA1) (kc := kC1) (comp := comp') (cc := cc) hkA1 hkindA1 hkC1 hkindC1 hlim hhp (by show T.heap.size + 4 ≤ _; omega) (by show T.slotsUsed + 9 ≤ _; omega) (fun d' acts' => ?_)
  have eS : ((T.setTop (F0 m pc ls (.int 2 :: .int 3 :: rest))).setVm vm1).setTop { F0 m pc ls (.int 2 :: .int 3 :: rest) with stack := rest } = (T.setVm vm1).setTop { F0 m pc ls (.int 2 :: .int 3 :: rest) with stack := rest } := by
    show ((T.setVm vm1).setTop _).setTop _ = _
    rw [State.setTop_setTop]
  rw [eS, mnS_top]
  simp only [wp_bind', Jvm.W.mark, Jvm.W.pushRef, State.topJava?_setTop' _ X4.here.top, Option.some.injEq, exists_eq_left', State.setTop_setTop, State.heap_setTop]
  intro acts
  simp [jvm, X4.here.top]
  rw [← hT] at a1
  exact a1
end MNB
