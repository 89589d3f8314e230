set_option maxRecDepth 100000 in
set_option maxHeartbeats 4000000 in
theorem ct_X0_size {l : Launch} {D : va_G} {tys : List (ClassId × FieldType)} {cI : ClassId} {h : Nat → Nat} {σ : Nat → Nat → Int32} : Cd l D tys yX0_size wsX0_size ({ frames := 0, cells := 0, slots := 0, locals := 0 } : Room) (SW cI h σ) [.ref (h 4)] (some (.int (σ 4 0))) (SW cI h σ) := by
  refine Ct.of [some (.ref (h 4))] (by decide) rfl rfl (Nat.le_of_ble_eq_true rfl) rfl (fun κ C hQ => ?_)
  have iX0 : ∀ z ∈ u_ws RX0 TX0 8, z ∈ wsX0_size := by decide +kernel
  refine V.aload_n C dX0_size_0 rfl ?_
  refine V.get C (q0 := 4) (k := 0) rfl rfl (by decide) iX0 (by decide +kernel) rfl rfl dX0_size_1 ?_
  refine hQ _ _ _ _ _ (Or.inr (Or.inl ⟨_, _, dX0_size_4, rfl, rfl, rfl, rfl⟩)) ⟨?_, rfl⟩
  rfl
set_option maxRecDepth 100000 in
set_option maxHeartbeats 4000000 in
theorem ct_X0_add {l : Launch} {D : va_G} {tys : List (ClassId × FieldType)} {cI : ClassId} {h : Nat → Nat} {σ : Nat → Nat → Int32} (hT : tys[0]? = some (cI, .int)) {N : Nat} {x c : Int32} (hN : σ 4 0 = nI N) (hN40 : N < 40) : Cd l D tys yX0_add wsX0_add ({ frames := 0, cells := 0, slots := 0, locals := 0 } : Room) (SW cI h σ) [.ref (h 4), .int x, .int c] (some (.int (nI N))) (SW cI h (jIAdd σ N x c)) := by
  refine Ct.of [some (.ref (h 4)), some (.int x), some (.int c)] (by decide) rfl rfl (Nat.le_of_ble_eq_true rfl) rfl (fun κ C hQ => ?_)
  have iX0 : ∀ z ∈ u_ws RX0 TX0 8, z ∈ wsX0_add := by decide +kernel
  refine V.aload_n C dX0_add_0 rfl ?_
  refine V.get C (q0 := 4) (k := 1) rfl rfl (by decide) iX0 (by decide +kernel) rfl rfl dX0_add_1 ?_
  refine V.aload_n C dX0_add_4 rfl ?_
  refine V.get C (q0 := 4) (k := 0) rfl rfl (by decide) iX0 (by decide +kernel) rfl rfl dX0_add_5 ?_
  refine V.iload_n C dX0_add_8 rfl ?_
  refine V.iast C (q0 := 17) (t0 := 0) (w' := SW cI h (sW σ 17 N x)) rfl hT (hN) (by omega) (by omega) rfl dX0_add_9 ?_
  refine V.aload_n C dX0_add_10 rfl ?_
  refine V.get C (q0 := 4) (k := 2) rfl rfl (by decide) iX0 (by decide +kernel) rfl rfl dX0_add_11 ?_
  refine V.aload_n C dX0_add_14 rfl ?_
  refine V.get C (q0 := 4) (k := 0) rfl rfl (by decide) iX0 (by decide +kernel) rfl rfl dX0_add_15 ?_
  refine V.iload_n C dX0_add_18 rfl ?_
  refine V.iast C (q0 := 18) (t0 := 0) (w' := SW cI h (sW (sW σ 17 N x) 18 N c)) rfl hT (hN) (by omega) (by omega) rfl dX0_add_19 ?_
  refine V.aload_n C dX0_add_20 rfl ?_
  refine V.get C (q0 := 4) (k := 3) rfl rfl (by decide) iX0 (by decide +kernel) rfl rfl dX0_add_21 ?_
  refine V.aload_n C dX0_add_24 rfl ?_
  refine V.get C (q0 := 4) (k := 0) rfl rfl (by decide) iX0 (by decide +kernel) rfl rfl dX0_add_25 ?_
  refine V.iconst C (v := nI 0) dX0_add_28 (by decide) ?_
  refine V.iast C (q0 := 19) (t0 := 0) (w' := SW cI h (sW (sW (sW σ 17 N x) 18 N c) 19 N (nI 0))) rfl hT (hN) (by omega) (by omega) rfl dX0_add_29 ?_
  refine V.aload_n C dX0_add_30 rfl ?_
  refine V.dup C dX0_add_31 rfl ?_
  refine V.get C (q0 := 4) (k := 0) rfl rfl (by decide) iX0 (by decide +kernel) rfl rfl dX0_add_32 ?_
  refine V.iconst C (v := nI 1) dX0_add_35 (by decide) ?_
  refine V.iadd C dX0_add_36 ?_
  refine V.topi (y := nI (N + 1)) (by rw [show sW (sW (sW σ 17 N x) 18 N c) 19 N (nI 0) 4 0 = σ 4 0 from rfl, hN]; exact nI_add N 1) ?_
  refine V.put C (q0 := 4) (k := 0) (w' := SW cI h (jIAdd σ N x c)) rfl rfl (by decide) iX0 (by decide +kernel) rfl tyX0 tyX0_ok nmX0 rfl rfl rfl rfl (Nat.le_of_ble_eq_true rfl) rfl dX0_add_37 ?_
  refine V.aload_n C dX0_add_40 rfl ?_
  refine V.get C (q0 := 4) (k := 0) rfl rfl (by decide) iX0 (by decide +kernel) rfl rfl dX0_add_41 ?_
  refine V.iconst C (v := nI 1) dX0_add_44 (by decide) ?_
  refine V.isub C dX0_add_45 ?_
  refine V.topi (y := nI N) (by rw [show jIAdd σ N x c 4 0 = nI (N + 1) from sW_at _ _ _ _]; exact nI_sub (a := N + 1) (b := 1) (by omega)) ?_
  refine hQ _ _ _ _ _ (Or.inr (Or.inl ⟨_, _, dX0_add_46, rfl, rfl, rfl, rfl⟩)) ⟨?_, rfl⟩
  rfl
set_option maxRecDepth 100000 in
set_option maxHeartbeats 4000000 in
theorem ct_X0_personOf {l : Launch} {D : va_G} {tys : List (ClassId × FieldType)} {cI : ClassId} {h : Nat → Nat} {σ : Nat → Nat → Int32} (hT : tys[0]? = some (cI, .int)) {i : Nat} (hi : i < 40) : Cd l D tys yX0_personOf wsX0_personOf ({ frames := 0, cells := 0, slots := 0, locals := 0 } : Room) (SW cI h σ) [.ref (h 4), .int (nI i)] (some (.int (σ 17 i))) (SW cI h σ) := by
  refine Ct.of [some (.ref (h 4)), some (.int (nI i))] (by decide) rfl rfl (Nat.le_of_ble_eq_true rfl) rfl (fun κ C hQ => ?_)
  have iX0 : ∀ z ∈ u_ws RX0 TX0 8, z ∈ wsX0_personOf := by decide +kernel
  refine V.aload_n C dX0_personOf_0 rfl ?_
  refine V.get C (q0 := 4) (k := 1) rfl rfl (by decide) iX0 (by decide +kernel) rfl rfl dX0_personOf_1 ?_
  refine V.iload_n C dX0_personOf_4 rfl ?_
  refine V.iald C (q0 := 17) (t0 := 0) rfl hT (rfl) (by omega) (by omega) dX0_personOf_5 ?_
  refine hQ _ _ _ _ _ (Or.inr (Or.inl ⟨_, _, dX0_personOf_6, rfl, rfl, rfl, rfl⟩)) ⟨?_, rfl⟩
  rfl
set_option maxRecDepth 100000 in
set_option maxHeartbeats 4000000 in
theorem ct_X0_cellOf {l : Launch} {D : va_G} {tys : List (ClassId × FieldType)} {cI : ClassId} {h : Nat → Nat} {σ : Nat → Nat → Int32} (hT : tys[0]? = some (cI, .int)) {i : Nat} (hi : i < 40) : Cd l D tys yX0_cellOf wsX0_cellOf ({ frames := 0, cells := 0, slots := 0, locals := 0 } : Room) (SW cI h σ) [.ref (h 4), .int (nI i)] (some (.int (σ 18 i))) (SW cI h σ) := by
  refine Ct.of [some (.ref (h 4)), some (.int (nI i))] (by decide) rfl rfl (Nat.le_of_ble_eq_true rfl) rfl (fun κ C hQ => ?_)
  have iX0 : ∀ z ∈ u_ws RX0 TX0 8, z ∈ wsX0_cellOf := by decide +kernel
  refine V.aload_n C dX0_cellOf_0 rfl ?_
  refine V.get C (q0 := 4) (k := 2) rfl rfl (by decide) iX0 (by decide +kernel) rfl rfl dX0_cellOf_1 ?_
  refine V.iload_n C dX0_cellOf_4 rfl ?_
  refine V.iald C (q0 := 18) (t0 := 0) rfl hT (rfl) (by omega) (by omega) dX0_cellOf_5 ?_
  refine hQ _ _ _ _ _ (Or.inr (Or.inl ⟨_, _, dX0_cellOf_6, rfl, rfl, rfl, rfl⟩)) ⟨?_, rfl⟩
  rfl
set_option maxRecDepth 100000 in
set_option maxHeartbeats 4000000 in
theorem ct_X0_stateOf {l : Launch} {D : va_G} {tys : List (ClassId × FieldType)} {cI : ClassId} {h : Nat → Nat} {σ : Nat → Nat → Int32} (hT : tys[0]? = some (cI, .int)) {i : Nat} (hi : i < 40) : Cd l D tys yX0_stateOf wsX0_stateOf ({ frames := 0, cells := 0, slots := 0, locals := 0 } : Room) (SW cI h σ) [.ref (h 4), .int (nI i)] (some (.int (σ 19 i))) (SW cI h σ) := by
  refine Ct.of [some (.ref (h 4)), some (.int (nI i))] (by decide) rfl rfl (Nat.le_of_ble_eq_true rfl) rfl (fun κ C hQ => ?_)
  have iX0 : ∀ z ∈ u_ws RX0 TX0 8, z ∈ wsX0_stateOf := by decide +kernel
  refine V.aload_n C dX0_stateOf_0 rfl ?_
  refine V.get C (q0 := 4) (k := 3) rfl rfl (by decide) iX0 (by decide +kernel) rfl rfl dX0_stateOf_1 ?_
  refine V.iload_n C dX0_stateOf_4 rfl ?_
  refine V.iald C (q0 := 19) (t0 := 0) rfl hT (rfl) (by omega) (by omega) dX0_stateOf_5 ?_
  refine hQ _ _ _ _ _ (Or.inr (Or.inl ⟨_, _, dX0_stateOf_6, rfl, rfl, rfl, rfl⟩)) ⟨?_, rfl⟩
  rfl
set_option maxRecDepth 100000 in
set_option maxHeartbeats 4000000 in
theorem ct_X0_placeOf {l : Launch} {D : va_G} {tys : List (ClassId × FieldType)} {cI : ClassId} {h : Nat → Nat} {σ : Nat → Nat → Int32} (hT : tys[0]? = some (cI, .int)) {i : Nat} (hi : i < 40) : Cd l D tys yX0_placeOf wsX0_placeOf ({ frames := 0, cells := 0, slots := 0, locals := 0 } : Room) (SW cI h σ) [.ref (h 4), .int (nI i)] (some (.int (σ 20 i))) (SW cI h σ) := by
  refine Ct.of [some (.ref (h 4)), some (.int (nI i))] (by decide) rfl rfl (Nat.le_of_ble_eq_true rfl) rfl (fun κ C hQ => ?_)
  have iX0 : ∀ z ∈ u_ws RX0 TX0 8, z ∈ wsX0_placeOf := by decide +kernel
  refine V.aload_n C dX0_placeOf_0 rfl ?_
  refine V.get C (q0 := 4) (k := 4) rfl rfl (by decide) iX0 (by decide +kernel) rfl rfl dX0_placeOf_1 ?_
  refine V.iload_n C dX0_placeOf_4 rfl ?_
  refine V.iald C (q0 := 20) (t0 := 0) rfl hT (rfl) (by omega) (by omega) dX0_placeOf_5 ?_
  refine hQ _ _ _ _ _ (Or.inr (Or.inl ⟨_, _, dX0_placeOf_6, rfl, rfl, rfl, rfl⟩)) ⟨?_, rfl⟩
  rfl
set_option maxRecDepth 100000 in
set_option maxHeartbeats 4000000 in
theorem ct_X0_countOf {l : Launch} {D : va_G} {tys : List (ClassId × FieldType)} {cI : ClassId} {h : Nat → Nat} {σ : Nat → Nat → Int32} (hT : tys[0]? = some (cI, .int)) {i : Nat} (hi : i < 40) : Cd l D tys yX0_countOf wsX0_countOf ({ frames := 0, cells := 0, slots := 0, locals := 0 } : Room) (SW cI h σ) [.ref (h 4), .int (nI i)] (some (.int (σ 21 i))) (SW cI h σ) := by
  refine Ct.of [some (.ref (h 4)), some (.int (nI i))] (by decide) rfl rfl (Nat.le_of_ble_eq_true rfl) rfl (fun κ C hQ => ?_)
  have iX0 : ∀ z ∈ u_ws RX0 TX0 8, z ∈ wsX0_countOf := by decide +kernel
  refine V.aload_n C dX0_countOf_0 rfl ?_
  refine V.get C (q0 := 4) (k := 5) rfl rfl (by decide) iX0 (by decide +kernel) rfl rfl dX0_countOf_1 ?_
  refine V.iload_n C dX0_countOf_4 rfl ?_
  refine V.iald C (q0 := 21) (t0 := 0) rfl hT (rfl) (by omega) (by omega) dX0_countOf_5 ?_
  refine hQ _ _ _ _ _ (Or.inr (Or.inl ⟨_, _, dX0_countOf_6, rfl, rfl, rfl, rfl⟩)) ⟨?_, rfl⟩
  rfl
set_option maxRecDepth 100000 in
set_option maxHeartbeats 4000000 in
theorem ct_X0_secondsOf {l : Launch} {D : va_G} {tys : List (ClassId × FieldType)} {cI : ClassId} {h : Nat → Nat} {σ : Nat → Nat → Int32} (hT : tys[0]? = some (cI, .int)) {i : Nat} (hi : i < 40) : Cd l D tys yX0_secondsOf wsX0_secondsOf ({ frames := 0, cells := 0, slots := 0, locals := 0 } : Room) (SW cI h σ) [.ref (h 4), .int (nI i)] (some (.int (σ 22 i))) (SW cI h σ) := by
  refine Ct.of [some (.ref (h 4)), some (.int (nI i))] (by decide) rfl rfl (Nat.le_of_ble_eq_true rfl) rfl (fun κ C hQ => ?_)
  have iX0 : ∀ z ∈ u_ws RX0 TX0 8, z ∈ wsX0_secondsOf := by decide +kernel
  refine V.aload_n C dX0_secondsOf_0 rfl ?_
  refine V.get C (q0 := 4) (k := 6) rfl rfl (by decide) iX0 (by decide +kernel) rfl rfl dX0_secondsOf_1 ?_
  refine V.iload_n C dX0_secondsOf_4 rfl ?_
  refine V.iald C (q0 := 22) (t0 := 0) rfl hT (rfl) (by omega) (by omega) dX0_secondsOf_5 ?_
  refine hQ _ _ _ _ _ (Or.inr (Or.inl ⟨_, _, dX0_secondsOf_6, rfl, rfl, rfl, rfl⟩)) ⟨?_, rfl⟩
  rfl
set_option maxRecDepth 100000 in
set_option maxHeartbeats 4000000 in
theorem ct_X0_setState {l : Launch} {D : va_G} {tys : List (ClassId × FieldType)} {cI : ClassId} {h : Nat → Nat} {σ : Nat → Nat → Int32} (hT : tys[0]? = some (cI, .int)) {i : Nat} {x : Int32} (hi : i < 40) : Cd l D tys yX0_setState wsX0_setState ({ frames := 0, cells := 0, slots := 0, locals := 0 } : Room) (SW cI h σ) [.ref (h 4), .int (nI i), .int x] (none) (SW cI h (sW σ 19 i x)) := by
  refine Ct.of [some (.ref (h 4)), some (.int (nI i)), some (.int x)] (by decide) rfl rfl (Nat.le_of_ble_eq_true rfl) rfl (fun κ C hQ => ?_)
  have iX0 : ∀ z ∈ u_ws RX0 TX0 8, z ∈ wsX0_setState := by decide +kernel
  refine V.aload_n C dX0_setState_0 rfl ?_
  refine V.get C (q0 := 4) (k := 3) rfl rfl (by decide) iX0 (by decide +kernel) rfl rfl dX0_setState_1 ?_
  refine V.iload_n C dX0_setState_4 rfl ?_
  refine V.iload_n C dX0_setState_5 rfl ?_
  refine V.iast C (q0 := 19) (t0 := 0) (w' := SW cI h (sW σ 19 i x)) rfl hT (rfl) (by omega) (by omega) rfl dX0_setState_6 ?_
  exact hQ _ _ _ _ _ (Or.inl ⟨dX0_setState_7, rfl, rfl, rfl⟩) ⟨rfl, rfl⟩
set_option maxRecDepth 100000 in
set_option maxHeartbeats 4000000 in
theorem ct_X0_moveTo {l : Launch} {D : va_G} {tys : List (ClassId × FieldType)} {cI : ClassId} {h : Nat → Nat} {σ : Nat → Nat → Int32} (hT : tys[0]? = some (cI, .int)) {i : Nat} {x : Int32} (hi : i < 40) : Cd l D tys yX0_moveTo wsX0_moveTo ({ frames := 0, cells := 0, slots := 0, locals := 0 } : Room) (SW cI h σ) [.ref (h 4), .int (nI i), .int x] (none) (SW cI h (sW σ 20 i x)) := by
  refine Ct.of [some (.ref (h 4)), some (.int (nI i)), some (.int x)] (by decide) rfl rfl (Nat.le_of_ble_eq_true rfl) rfl (fun κ C hQ => ?_)
  have iX0 : ∀ z ∈ u_ws RX0 TX0 8, z ∈ wsX0_moveTo := by decide +kernel
  refine V.aload_n C dX0_moveTo_0 rfl ?_
  refine V.get C (q0 := 4) (k := 4) rfl rfl (by decide) iX0 (by decide +kernel) rfl rfl dX0_moveTo_1 ?_
  refine V.iload_n C dX0_moveTo_4 rfl ?_
  refine V.iload_n C dX0_moveTo_5 rfl ?_
  refine V.iast C (q0 := 20) (t0 := 0) (w' := SW cI h (sW σ 20 i x)) rfl hT (rfl) (by omega) (by omega) rfl dX0_moveTo_6 ?_
  exact hQ _ _ _ _ _ (Or.inl ⟨dX0_moveTo_7, rfl, rfl, rfl⟩) ⟨rfl, rfl⟩
set_option maxRecDepth 100000 in
set_option maxHeartbeats 4000000 in
theorem ct_X0_isComplete {l : Launch} {D : va_G} {tys : List (ClassId × FieldType)} {cI : ClassId} {h : Nat → Nat} {σ : Nat → Nat → Int32} (hT : tys[0]? = some (cI, .int)) {i : Nat} (hi : i < 40) : Cd l D tys yX0_isComplete wsX0_isComplete ({ frames := 0, cells := 0, slots := 0, locals := 0 } : Room) (SW cI h σ) [.ref (h 4), .int (nI i)] (some (.int (bI (decide (σ 19 i = nI 1))))) (SW cI h σ) := by
  refine Ct.of [some (.ref (h 4)), some (.int (nI i))] (by decide) rfl rfl (Nat.le_of_ble_eq_true rfl) rfl (fun κ C hQ => ?_)
  have iX0 : ∀ z ∈ u_ws RX0 TX0 8, z ∈ wsX0_isComplete := by decide +kernel
  refine V.aload_n C dX0_isComplete_0 rfl ?_
  refine V.get C (q0 := 4) (k := 3) rfl rfl (by decide) iX0 (by decide +kernel) rfl rfl dX0_isComplete_1 ?_
  refine V.iload_n C dX0_isComplete_4 rfl ?_
  refine V.iald C (q0 := 19) (t0 := 0) rfl hT (rfl) (by omega) (by omega) dX0_isComplete_5 ?_
  refine V.iconst C (v := nI 1) dX0_isComplete_6 (by decide) ?_
  refine V.icmp_ne C (tgt := 14) dX0_isComplete_7 (by decide) (fun c_1 => ?_) (fun c_1 => ?_)
  · refine V.iconst C (v := nI 0) dX0_isComplete_14 (by decide) ?_
    refine hQ _ _ _ _ _ (Or.inr (Or.inl ⟨_, _, dX0_isComplete_15, rfl, (by first | rfl | exact nar_bI _), rfl, rfl⟩)) ⟨?_, rfl⟩
    (clear hQ C; (try simp only [bI_0] at *); first | (simp [bI_t2, bI_f2, *]; done) | (simp_all; done))
  · refine V.iconst C (v := nI 1) dX0_isComplete_10 (by decide) ?_
    refine V.goto C (tgt := 15) dX0_isComplete_11 (by decide) ?_
    refine hQ _ _ _ _ _ (Or.inr (Or.inl ⟨_, _, dX0_isComplete_15, rfl, (by first | rfl | exact nar_bI _), rfl, rfl⟩)) ⟨?_, rfl⟩
    (clear hQ C; (try simp only [bI_0] at *); first | (simp [bI_t2, bI_f2, *]; done) | (simp_all; done))
set_option maxRecDepth 100000 in
set_option maxHeartbeats 4000000 in
theorem ct_X0_answerTo {l : Launch} {D : va_G} {tys : List (ClassId × FieldType)} {cI : ClassId} {h : Nat → Nat} {σ : Nat → Nat → Int32} (hT : tys[0]? = some (cI, .int)) {i q : Nat} (hi : i < 40) (hq : q < 10) : Cd l D tys yX0_answerTo wsX0_answerTo ({ frames := 0, cells := 0, slots := 0, locals := 0 } : Room) (SW cI h σ) [.ref (h 4), .int (nI i), .int (nI q)] (some (.int (jGiven σ i q))) (SW cI h σ) := by
  refine Ct.of [some (.ref (h 4)), some (.int (nI i)), some (.int (nI q))] (by decide) rfl rfl (Nat.le_of_ble_eq_true rfl) rfl (fun κ C hQ => ?_)
  have iX0 : ∀ z ∈ u_ws RX0 TX0 8, z ∈ wsX0_answerTo := by decide +kernel
  refine V.aload_n C dX0_answerTo_0 rfl ?_
  refine V.get C (q0 := 4) (k := 7) rfl rfl (by decide) iX0 (by decide +kernel) rfl rfl dX0_answerTo_1 ?_
  refine V.iload_n C dX0_answerTo_4 rfl ?_
  refine V.bipush C (v := nI 10) dX0_answerTo_5 (by decide) ?_
  refine V.imul C dX0_answerTo_7 ?_
  refine V.iload_n C dX0_answerTo_8 rfl ?_
  refine V.iadd C dX0_answerTo_9 ?_
  refine V.topi (y := nI (i * 10 + q)) (by rw [nI_mul, nI_add]) ?_
  refine V.iald C (q0 := 23) (t0 := 0) rfl hT (rfl) (by omega) (by omega) dX0_answerTo_10 ?_
  refine hQ _ _ _ _ _ (Or.inr (Or.inl ⟨_, _, dX0_answerTo_11, rfl, rfl, rfl, rfl⟩)) ⟨?_, rfl⟩
  rfl
set_option maxRecDepth 100000 in
set_option maxHeartbeats 4000000 in
theorem ct_X0_note {l : Launch} {D : va_G} {tys : List (ClassId × FieldType)} {cI : ClassId} {h : Nat → Nat} {σ : Nat → Nat → Int32} (hT : tys[0]? = some (cI, .int)) {i q : Nat} {a t : Int32} (hi : i < 40) (hq : q < 10) : Cd l D tys yX0_note wsX0_note ({ frames := 0, cells := 0, slots := 0, locals := 0 } : Room) (SW cI h σ) [.ref (h 4), .int (nI i), .int (nI q), .int a, .int t] (none) (SW cI h (jNote σ i q a t)) := by
  refine Ct.of [some (.ref (h 4)), some (.int (nI i)), some (.int (nI q)), some (.int a), some (.int t)] (by decide) rfl rfl (Nat.le_of_ble_eq_true rfl) rfl (fun κ C hQ => ?_)
  have iX0 : ∀ z ∈ u_ws RX0 TX0 8, z ∈ wsX0_note := by decide +kernel
  refine V.aload_n C dX0_note_0 rfl ?_
  refine V.get C (q0 := 4) (k := 7) rfl rfl (by decide) iX0 (by decide +kernel) rfl rfl dX0_note_1 ?_
  refine V.iload_n C dX0_note_4 rfl ?_
  refine V.bipush C (v := nI 10) dX0_note_5 (by decide) ?_
  refine V.imul C dX0_note_7 ?_
  refine V.iload_n C dX0_note_8 rfl ?_
  refine V.iadd C dX0_note_9 ?_
  refine V.topi (y := nI (i * 10 + q)) (by rw [nI_mul, nI_add]) ?_
  refine V.iload_n C dX0_note_10 rfl ?_
  refine V.iast C (q0 := 23) (t0 := 0) (w' := SW cI h (sW σ 23 (i * 10 + q) a)) rfl hT (rfl) (by omega) (by omega) rfl dX0_note_11 ?_
  refine V.aload_n C dX0_note_12 rfl ?_
  refine V.get C (q0 := 4) (k := 6) rfl rfl (by decide) iX0 (by decide +kernel) rfl rfl dX0_note_13 ?_
  refine V.iload_n C dX0_note_16 rfl ?_
  refine V.dup2 C dX0_note_17 rfl rfl ?_
  refine V.iald C (q0 := 22) (t0 := 0) rfl hT (rfl) (by omega) (by omega) dX0_note_18 ?_
  refine V.iload C dX0_note_19 rfl ?_
  refine V.iadd C dX0_note_21 ?_
  refine V.iast C (q0 := 22) (t0 := 0) (w' := SW cI h (sW (sW σ 23 (i * 10 + q) a) 22 i (σ 22 i + t))) rfl hT (rfl) (by omega) (by omega) rfl dX0_note_22 ?_
  refine V.aload_n C dX0_note_23 rfl ?_
  refine V.get C (q0 := 4) (k := 5) rfl rfl (by decide) iX0 (by decide +kernel) rfl rfl dX0_note_24 ?_
  refine V.iload_n C dX0_note_27 rfl ?_
  refine V.dup2 C dX0_note_28 rfl rfl ?_
  refine V.iald C (q0 := 21) (t0 := 0) rfl hT (rfl) (by omega) (by omega) dX0_note_29 ?_
  refine V.iconst C (v := nI 1) dX0_note_30 (by decide) ?_
  refine V.iadd C dX0_note_31 ?_
  refine V.iast C (q0 := 21) (t0 := 0) (w' := SW cI h (jNote σ i q a t)) rfl hT (rfl) (by omega) (by omega) rfl dX0_note_32 ?_
  exact hQ _ _ _ _ _ (Or.inl ⟨dX0_note_33, rfl, rfl, rfl⟩) ⟨rfl, rfl⟩
set_option maxRecDepth 100000 in
set_option maxHeartbeats 4000000 in
theorem ct_X0_isTaken {l : Launch} {D : va_G} {tys : List (ClassId × FieldType)} {cI : ClassId} {h : Nat → Nat} {σ : Nat → Nat → Int32} (hT : tys[0]? = some (cI, .int)) {x : Int32} {N : Nat} (hN : σ 4 0 = nI N) (hN40 : N ≤ 40) : Cd l D tys yX0_isTaken wsX0_isTaken ({ frames := 0, cells := 0, slots := 0, locals := 0 } : Room) (SW cI h σ) [.ref (h 4), .int x] (some (.int (bI (jTaken σ x)))) (SW cI h σ) := by
  refine Ct.of [some (.ref (h 4)), some (.int x)] (by decide) rfl rfl (Nat.le_of_ble_eq_true rfl) rfl (fun κ C hQ => ?_)
  have iX0 : ∀ z ∈ u_ws RX0 TX0 8, z ∈ wsX0_isTaken := by decide +kernel
  refine V.iload_n C dX0_isTaken_0 rfl ?_
  refine V.if_lt C (tgt := 35) dX0_isTaken_1 (by decide) (fun c_1 => ?_) (fun c_1 => ?_)
  · refine V.iconst C (v := nI 0) dX0_isTaken_35 (by decide) ?_
    refine hQ _ _ _ _ _ (Or.inr (Or.inl ⟨_, _, dX0_isTaken_36, rfl, (by first | rfl | exact nar_bI _), rfl, rfl⟩)) ⟨?_, rfl⟩
    (clear hQ C; (try simp only [bI_0] at *); first | (simp [jTaken, bI_t2, bI_f2, *]; done) | (simp_all; done))
  · refine V.iload_n C dX0_isTaken_4 rfl ?_
    refine V.aload_n C dX0_isTaken_5 rfl ?_
    refine V.get C (q0 := 4) (k := 0) rfl rfl (by decide) iX0 (by decide +kernel) rfl rfl dX0_isTaken_6 ?_
    refine V.topi (hN) ?_
    refine V.icmp_ge C (tgt := 35) dX0_isTaken_9 (by decide) (fun c_2 => ?_) (fun c_2 => ?_)
    · refine V.iconst C (v := nI 0) dX0_isTaken_35 (by decide) ?_
      refine hQ _ _ _ _ _ (Or.inr (Or.inl ⟨_, _, dX0_isTaken_36, rfl, (by first | rfl | exact nar_bI _), rfl, rfl⟩)) ⟨?_, rfl⟩
      (clear hQ C; (try simp only [bI_0] at *); first | (simp [jTaken, bI_t2, bI_f2, *]; done) | (simp_all; done))
    · refine V.aload_n C dX0_isTaken_12 rfl ?_
      refine V.get C (q0 := 4) (k := 3) rfl rfl (by decide) iX0 (by decide +kernel) rfl rfl dX0_isTaken_13 ?_
      refine V.iload_n C dX0_isTaken_16 rfl ?_
      refine V.iald C (q0 := 19) (t0 := 0) rfl hT ((Nn_lt c_1 c_2 (by omega)).1) (Nat.lt_of_lt_of_le (Nn_lt c_1 c_2 (by omega)).2 hN40) (by omega) dX0_isTaken_17 ?_
      refine V.if_eq C (tgt := 31) dX0_isTaken_18 (by decide) (fun c_3 => ?_) (fun c_3 => ?_)
      · refine V.iconst C (v := nI 1) dX0_isTaken_31 (by decide) ?_
        refine V.goto C (tgt := 36) dX0_isTaken_32 (by decide) ?_
        refine hQ _ _ _ _ _ (Or.inr (Or.inl ⟨_, _, dX0_isTaken_36, rfl, (by first | rfl | exact nar_bI _), rfl, rfl⟩)) ⟨?_, rfl⟩
        (clear hQ C; (try simp only [bI_0] at *); first | (simp [jTaken, bI_t2, bI_f2, *]; done) | (simp_all; done))
      · refine V.aload_n C dX0_isTaken_21 rfl ?_
        refine V.get C (q0 := 4) (k := 3) rfl rfl (by decide) iX0 (by decide +kernel) rfl rfl dX0_isTaken_22 ?_
        refine V.iload_n C dX0_isTaken_25 rfl ?_
        refine V.iald C (q0 := 19) (t0 := 0) rfl hT ((Nn_lt c_1 c_2 (by omega)).1) (Nat.lt_of_lt_of_le (Nn_lt c_1 c_2 (by omega)).2 hN40) (by omega) dX0_isTaken_26 ?_
        refine V.iconst C (v := nI 1) dX0_isTaken_27 (by decide) ?_
        refine V.icmp_ne C (tgt := 35) dX0_isTaken_28 (by decide) (fun c_4 => ?_) (fun c_4 => ?_)
        · refine V.iconst C (v := nI 0) dX0_isTaken_35 (by decide) ?_
          refine hQ _ _ _ _ _ (Or.inr (Or.inl ⟨_, _, dX0_isTaken_36, rfl, (by first | rfl | exact nar_bI _), rfl, rfl⟩)) ⟨?_, rfl⟩
          (clear hQ C; (try simp only [bI_0] at *); first | (simp [jTaken, bI_t2, bI_f2, *]; done) | (simp_all; done))
        · refine V.iconst C (v := nI 1) dX0_isTaken_31 (by decide) ?_
          refine V.goto C (tgt := 36) dX0_isTaken_32 (by decide) ?_
          refine hQ _ _ _ _ _ (Or.inr (Or.inl ⟨_, _, dX0_isTaken_36, rfl, (by first | rfl | exact nar_bI _), rfl, rfl⟩)) ⟨?_, rfl⟩
          (clear hQ C; (try simp only [bI_0] at *); first | (simp [jTaken, bI_t2, bI_f2, *]; done) | (simp_all; done))
set_option maxRecDepth 100000 in
set_option maxHeartbeats 4000000 in
theorem ct_X0_countIn {l : Launch} {D : va_G} {tys : List (ClassId × FieldType)} {cI : ClassId} {h : Nat → Nat} {σ : Nat → Nat → Int32} (hT : tys[0]? = some (cI, .int)) {x : Int32} {N : Nat} (hN : σ 4 0 = nI N) (hN40 : N ≤ 40) : Cd l D tys yX0_countIn wsX0_countIn ({ frames := 0, cells := 0, slots := 0, locals := 0 } : Room) (SW cI h σ) [.ref (h 4), .int x] (some (.int (jCnt (fun i => decide (σ 19 i = x)) N))) (SW cI h σ) := by
  refine Ct.of [some (.ref (h 4)), some (.int x), none, none] (by decide) rfl rfl (Nat.le_of_ble_eq_true rfl) rfl (fun κ C hQ => ?_)
  have iX0 : ∀ z ∈ u_ws RX0 TX0 8, z ∈ wsX0_countIn := by decide +kernel
  refine V.iconst C (v := nI 0) dX0_countIn_0 (by decide) ?_
  refine V.istore_n C dX0_countIn_1 (by decide) rfl ?_
  dsimp only [List.set, Fin.val]
  refine V.iconst C (v := nI 0) dX0_countIn_2 (by decide) ?_
  refine V.istore_n C dX0_countIn_3 (by decide) rfl ?_
  dsimp only [List.set, Fin.val]
  refine V.loop (N) (fun k => SW cI h σ) (fun k => [some (.ref (h 4)), some (.int x), some (.int (jCnt (fun i => decide (σ 19 i = x)) k)), some (.int (nI k))]) (fun k hk ih_k => ?_) ?_ (rfl) (lsub_s rfl (lsub_s rfl (lsub_s rfl (lsub_s rfl (lsub_e)))))
  · try dsimp only
    refine V.iload_n C dX0_countIn_4 rfl ?_
    refine V.aload_n C dX0_countIn_5 rfl ?_
    refine V.get C (q0 := 4) (k := 0) rfl rfl (by decide) iX0 (by decide +kernel) rfl rfl dX0_countIn_6 ?_
    refine V.topi (hN) ?_
    refine V.icmp_ge C (tgt := 31) dX0_countIn_9 (by decide) (fun c_1 => ?_) (fun c_1 => ?_)
    · exfalso
      exact c_1 (nI_lt hk (by omega))
    · refine V.aload_n C dX0_countIn_12 rfl ?_
      refine V.get C (q0 := 4) (k := 3) rfl rfl (by decide) iX0 (by decide +kernel) rfl rfl dX0_countIn_13 ?_
      refine V.iload_n C dX0_countIn_16 rfl ?_
      refine V.iald C (q0 := 19) (t0 := 0) rfl hT (rfl) (by omega) (by omega) dX0_countIn_17 ?_
      refine V.iload_n C dX0_countIn_18 rfl ?_
      refine V.icmp_ne C (tgt := 25) dX0_countIn_19 (by decide) (fun c_2 => ?_) (fun c_2 => ?_)
      · refine V.iinc C (v := nI (k + 1)) dX0_countIn_25 rfl (nI_inc k) (by decide) rfl ?_
        dsimp only [List.set]
        refine V.goto C (tgt := 4) dX0_countIn_28 (by decide) ?_
        exact V.sub (M := [some (.ref (h 4)), some (.int x), some (.int (jCnt (fun i => decide (σ 19 i = x)) (k + 1))), some (.int (nI (k + 1)))]) (lsub_s rfl (lsub_s rfl (lsub_si (by (clear hQ C; (try simp only [bI_0] at *); first | (simp [jCnt, bI_t2, bI_f2, *]; done) | (simp_all; done))) rfl (lsub_s rfl (lsub_e))))) ih_k
      · refine V.iinc C dX0_countIn_22 rfl rfl (by decide) rfl ?_
        dsimp only [List.set]
        refine V.iinc C (v := nI (k + 1)) dX0_countIn_25 rfl (nI_inc k) (by decide) rfl ?_
        dsimp only [List.set]
        refine V.goto C (tgt := 4) dX0_countIn_28 (by decide) ?_
        exact V.sub (M := [some (.ref (h 4)), some (.int x), some (.int (jCnt (fun i => decide (σ 19 i = x)) (k + 1))), some (.int (nI (k + 1)))]) (lsub_s rfl (lsub_s rfl (lsub_si (by (clear hQ C; (try simp only [bI_0] at *); first | (simp [jCnt, bI_t2, bI_f2, *]; done) | (simp_all; done))) rfl (lsub_s rfl (lsub_e))))) ih_k
  · try dsimp only
    refine V.iload_n C dX0_countIn_4 rfl ?_
    refine V.aload_n C dX0_countIn_5 rfl ?_
    refine V.get C (q0 := 4) (k := 0) rfl rfl (by decide) iX0 (by decide +kernel) rfl rfl dX0_countIn_6 ?_
    refine V.topi (hN) ?_
    refine V.icmp_ge C (tgt := 31) dX0_countIn_9 (by decide) (fun c_3 => ?_) (fun c_3 => ?_)
    · refine V.iload_n C dX0_countIn_31 rfl ?_
      refine hQ _ _ _ _ _ (Or.inr (Or.inl ⟨_, _, dX0_countIn_32, rfl, rfl, rfl, rfl⟩)) ⟨?_, rfl⟩
      rfl
    · exfalso
      exact absurd c_3 (nI_nlt (Nat.le_refl _) (by omega))
set_option maxRecDepth 100000 in
set_option maxHeartbeats 4000000 in
theorem ct_X0_isTooFast {l : Launch} {D : va_G} {tys : List (ClassId × FieldType)} {cI : ClassId} {h : Nat → Nat} {σ : Nat → Nat → Int32} (hT : tys[0]? = some (cI, .int)) {i : Nat} (hi : i < 40) : Cd l D tys yX0_isTooFast wsX0_isTooFast ({ frames := 0, cells := 0, slots := 0, locals := 0 } : Room) (SW cI h σ) [.ref (h 4), .int (nI i)] (some (.int (bI (jFast σ i)))) (SW cI h σ) := by
  refine Ct.of [some (.ref (h 4)), some (.int (nI i))] (by decide) rfl rfl (Nat.le_of_ble_eq_true rfl) rfl (fun κ C hQ => ?_)
  have iX0 : ∀ z ∈ u_ws RX0 TX0 8, z ∈ wsX0_isTooFast := by decide +kernel
  refine V.aload_n C dX0_isTooFast_0 rfl ?_
  refine V.get C (q0 := 4) (k := 6) rfl rfl (by decide) iX0 (by decide +kernel) rfl rfl dX0_isTooFast_1 ?_
  refine V.iload_n C dX0_isTooFast_4 rfl ?_
  refine V.iald C (q0 := 22) (t0 := 0) rfl hT (rfl) (by omega) (by omega) dX0_isTooFast_5 ?_
  refine V.iconst C (v := nI 3) dX0_isTooFast_6 (by decide) ?_
  refine V.aload_n C dX0_isTooFast_7 rfl ?_
  refine V.get C (q0 := 4) (k := 5) rfl rfl (by decide) iX0 (by decide +kernel) rfl rfl dX0_isTooFast_8 ?_
  refine V.iload_n C dX0_isTooFast_11 rfl ?_
  refine V.iald C (q0 := 21) (t0 := 0) rfl hT (rfl) (by omega) (by omega) dX0_isTooFast_12 ?_
  refine V.imul C dX0_isTooFast_13 ?_
  refine V.icmp_ge C (tgt := 21) dX0_isTooFast_14 (by decide) (fun c_1 => ?_) (fun c_1 => ?_)
  · refine V.iconst C (v := nI 0) dX0_isTooFast_21 (by decide) ?_
    refine hQ _ _ _ _ _ (Or.inr (Or.inl ⟨_, _, dX0_isTooFast_22, rfl, (by first | rfl | exact nar_bI _), rfl, rfl⟩)) ⟨?_, rfl⟩
    (clear hQ C; (try simp only [bI_0] at *); first | (simp [jFast, bI_t2, bI_f2, *]; done) | (simp_all; done))
  · refine V.iconst C (v := nI 1) dX0_isTooFast_17 (by decide) ?_
    refine V.goto C (tgt := 22) dX0_isTooFast_18 (by decide) ?_
    refine hQ _ _ _ _ _ (Or.inr (Or.inl ⟨_, _, dX0_isTooFast_22, rfl, (by first | rfl | exact nar_bI _), rfl, rfl⟩)) ⟨?_, rfl⟩
    (clear hQ C; (try simp only [bI_0] at *); first | (simp [jFast, bI_t2, bI_f2, *]; done) | (simp_all; done))
set_option maxRecDepth 100000 in
set_option maxHeartbeats 4000000 in
theorem ct_X0_isStraightLine {l : Launch} {D : va_G} {tys : List (ClassId × FieldType)} {cI : ClassId} {h : Nat → Nat} {σ : Nat → Nat → Int32} (hT : tys[0]? = some (cI, .int)) {i : Nat} (hi : i < 40) : Cd l D tys yX0_isStraightLine wsX0_isStraightLine ({ frames := 1, cells := 0, slots := 0, locals := 22 } : Room) (SW cI h σ) [.ref (h 4), .int (nI i)] (some (.int (bI (jLine σ i)))) (SW cI h σ) := by
  refine Ct.of [some (.ref (h 4)), some (.int (nI i)), none, none, none] (by decide) rfl rfl (Nat.le_of_ble_eq_true rfl) rfl (fun κ C hQ => ?_)
  have iX0 : ∀ z ∈ u_ws RX0 TX0 8, z ∈ wsX0_isStraightLine := by decide +kernel
  refine V.aload_n C dX0_isStraightLine_0 rfl ?_
  refine V.get C (q0 := 4) (k := 5) rfl rfl (by decide) iX0 (by decide +kernel) rfl rfl dX0_isStraightLine_1 ?_
  refine V.iload_n C dX0_isStraightLine_4 rfl ?_
  refine V.iald C (q0 := 21) (t0 := 0) rfl hT (rfl) (by omega) (by omega) dX0_isStraightLine_5 ?_
  refine V.iconst C (v := nI 4) dX0_isStraightLine_6 (by decide) ?_
  refine V.icmp_ge C (tgt := 12) dX0_isStraightLine_7 (by decide) (fun c_1 => ?_) (fun c_1 => ?_)
  · refine V.iconst C (v := (-1)) dX0_isStraightLine_12 (by decide) ?_
    refine V.istore_n C dX0_isStraightLine_13 (by decide) rfl ?_
    dsimp only [List.set, Fin.val]
    refine V.iconst C (v := nI 0) dX0_isStraightLine_14 (by decide) ?_
    refine V.istore_n C dX0_isStraightLine_15 (by decide) rfl ?_
    dsimp only [List.set, Fin.val]
    refine V.loopI (10) (fun k => jLOk σ i k = true) (fun k => SW cI h σ) (fun k => [some (.ref (h 4)), some (.int (nI i)), some (.int (jLF σ i k)), some (.int (nI k)), none]) (fun k hk hI ih_k => ?_) (fun hI => ?_) (rfl) (rfl) (lsub_s rfl (lsub_s rfl (lsub_s rfl (lsub_s rfl (lsub_n (lsub_e))))))
    · try dsimp only
      refine V.iload_n C dX0_isStraightLine_16 rfl ?_
      refine V.bipush C (v := nI 10) dX0_isStraightLine_17 (by decide) ?_
      refine V.icmp_ge C (tgt := 61) dX0_isStraightLine_19 (by decide) (fun c_2 => ?_) (fun c_2 => ?_)
      · exfalso
        exact c_2 (nI_lt hk (by decide))
      · refine V.aload_n C dX0_isStraightLine_22 rfl ?_
        refine V.iload_n C dX0_isStraightLine_23 rfl ?_
        refine V.iload_n C dX0_isStraightLine_24 rfl ?_
        refine V.callVi C (ct_X0_answerTo hT (by omega) (by omega)) gX0_isStraightLine_X0_answerTo (n := 2) ⟨rfl, by decide, by decide, by decide +kernel⟩ rfl (q0 := 4) rfl rfl rfl rfl ⟨Nat.le_of_ble_eq_true rfl, Nat.le_of_ble_eq_true rfl⟩ ⟨rfl, rfl, Nat.zero_le _, Nat.zero_le _⟩ (Nat.le_of_ble_eq_true rfl) dX0_isStraightLine_25 ?_
        refine V.istore C dX0_isStraightLine_28 (by decide) rfl ?_
        dsimp only [List.set]
        refine V.iload_n C dX0_isStraightLine_30 rfl ?_
        refine V.iconst C (v := (-1)) dX0_isStraightLine_31 (by decide) ?_
        refine V.icmp_ne C (tgt := 41) dX0_isStraightLine_32 (by decide) (fun c_3 => ?_) (fun c_3 => ?_)
        · refine V.iload C dX0_isStraightLine_41 rfl ?_
          refine V.iconst C (v := (-1)) dX0_isStraightLine_43 (by decide) ?_
          refine V.icmp_eq C (tgt := 55) dX0_isStraightLine_44 (by decide) (fun c_4 => ?_) (fun c_4 => ?_)
          · refine V.iinc C (v := nI (k + 1)) dX0_isStraightLine_55 rfl (nI_inc k) (by decide) rfl ?_
            dsimp only [List.set]
            refine V.goto C (tgt := 16) dX0_isStraightLine_58 (by decide) ?_
            exact V.sub (M := [some (.ref (h 4)), some (.int (nI i)), some (.int (jLF σ i (k + 1))), some (.int (nI (k + 1))), none]) (lsub_s rfl (lsub_s rfl (lsub_si (by (clear hQ C; (try simp only [bI_0] at *); first | (simp [jLF, bI_t2, bI_f2, *]; done) | (simp_all; done))) rfl (lsub_s rfl (lsub_n (lsub_e)))))) (ih_k (by (clear hQ C; (try simp only [bI_0] at *); first | (simp [jLOk, bI_t2, bI_f2, *]; done) | (simp_all; done))))
          · refine V.iload C dX0_isStraightLine_47 rfl ?_
            refine V.iload_n C dX0_isStraightLine_49 rfl ?_
            refine V.icmp_eq C (tgt := 55) dX0_isStraightLine_50 (by decide) (fun c_5 => ?_) (fun c_5 => ?_)
            · refine V.iinc C (v := nI (k + 1)) dX0_isStraightLine_55 rfl (nI_inc k) (by decide) rfl ?_
              dsimp only [List.set]
              refine V.goto C (tgt := 16) dX0_isStraightLine_58 (by decide) ?_
              exact V.sub (M := [some (.ref (h 4)), some (.int (nI i)), some (.int (jLF σ i (k + 1))), some (.int (nI (k + 1))), none]) (lsub_s rfl (lsub_s rfl (lsub_si (by (clear hQ C; (try simp only [bI_0] at *); first | (simp [jLF, bI_t2, bI_f2, *]; done) | (simp_all; done))) rfl (lsub_s rfl (lsub_n (lsub_e)))))) (ih_k (by (clear hQ C; (try simp only [bI_0] at *); first | (simp [jLOk, bI_t2, bI_f2, *]; done) | (simp_all; done))))
            · refine V.iconst C (v := nI 0) dX0_isStraightLine_53 (by decide) ?_
              refine hQ _ _ _ _ _ (Or.inr (Or.inl ⟨_, _, dX0_isStraightLine_54, rfl, (by first | rfl | exact nar_bI _), rfl, rfl⟩)) ⟨?_, rfl⟩
              (clear hQ C; rw [jLine, jLOk_mono σ i (a := k + 1) (by simp [jLOk, *]) 10 (by omega), Bool.and_false]; rfl)
        · refine V.iload C dX0_isStraightLine_35 rfl ?_
          refine V.istore_n C dX0_isStraightLine_37 (by decide) rfl ?_
          dsimp only [List.set, Fin.val]
          refine V.goto C (tgt := 55) dX0_isStraightLine_38 (by decide) ?_
          refine V.iinc C (v := nI (k + 1)) dX0_isStraightLine_55 rfl (nI_inc k) (by decide) rfl ?_
          dsimp only [List.set]
          refine V.goto C (tgt := 16) dX0_isStraightLine_58 (by decide) ?_
          exact V.sub (M := [some (.ref (h 4)), some (.int (nI i)), some (.int (jLF σ i (k + 1))), some (.int (nI (k + 1))), none]) (lsub_s rfl (lsub_s rfl (lsub_si (by (clear hQ C; (try simp only [bI_0] at *); first | (simp [jLF, bI_t2, bI_f2, *]; done) | (simp_all; done))) rfl (lsub_s rfl (lsub_n (lsub_e)))))) (ih_k (by (clear hQ C; (try simp only [bI_0] at *); first | (simp [jLOk, bI_t2, bI_f2, *]; done) | (simp_all; done))))
    · try dsimp only
      refine V.iload_n C dX0_isStraightLine_16 rfl ?_
      refine V.bipush C (v := nI 10) dX0_isStraightLine_17 (by decide) ?_
      refine V.icmp_ge C (tgt := 61) dX0_isStraightLine_19 (by decide) (fun c_6 => ?_) (fun c_6 => ?_)
      · refine V.iconst C (v := nI 1) dX0_isStraightLine_61 (by decide) ?_
        refine hQ _ _ _ _ _ (Or.inr (Or.inl ⟨_, _, dX0_isStraightLine_62, rfl, (by first | rfl | exact nar_bI _), rfl, rfl⟩)) ⟨?_, rfl⟩
        (clear hQ C; simp [jLine, hI, bI_t2, *])
      · exfalso
        exact absurd c_6 (nI_nlt (Nat.le_refl _) (by decide))
  · refine V.iconst C (v := nI 0) dX0_isStraightLine_10 (by decide) ?_
    refine hQ _ _ _ _ _ (Or.inr (Or.inl ⟨_, _, dX0_isStraightLine_11, rfl, (by first | rfl | exact nar_bI _), rfl, rfl⟩)) ⟨?_, rfl⟩
    (clear hQ C; (try simp only [bI_0] at *); first | (simp [jLine, bI_t2, bI_f2, *]; done) | (simp_all; done))
set_option maxRecDepth 100000 in
set_option maxHeartbeats 4000000 in
theorem ct_X0_isToClean {l : Launch} {D : va_G} {tys : List (ClassId × FieldType)} {cI : ClassId} {h : Nat → Nat} {σ : Nat → Nat → Int32} (hT : tys[0]? = some (cI, .int)) {i : Nat} (hi : i < 40) : Cd l D tys yX0_isToClean wsX0_isToClean ({ frames := 2, cells := 0, slots := 0, locals := 46 } : Room) (SW cI h σ) [.ref (h 4), .int (nI i)] (some (.int (bI (jDirty σ i)))) (SW cI h σ) := by
  refine Ct.of [some (.ref (h 4)), some (.int (nI i))] (by decide) rfl rfl (Nat.le_of_ble_eq_true rfl) rfl (fun κ C hQ => ?_)
  refine V.aload_n C dX0_isToClean_0 rfl ?_
  refine V.iload_n C dX0_isToClean_1 rfl ?_
  refine V.callVi C (ct_X0_isComplete hT (by omega)) gX0_isToClean_X0_isComplete (n := 1) ⟨rfl, by decide, by decide, by decide +kernel⟩ rfl (q0 := 4) rfl rfl rfl rfl ⟨Nat.le_of_ble_eq_true rfl, Nat.le_of_ble_eq_true rfl⟩ ⟨rfl, rfl, Nat.zero_le _, Nat.zero_le _⟩ (Nat.le_of_ble_eq_true rfl) dX0_isToClean_2 ?_
  refine V.if_eq C (tgt := 28) dX0_isToClean_5 (by decide) (fun c_1 => ?_) (fun c_1 => ?_)
  · refine V.iconst C (v := nI 0) dX0_isToClean_28 (by decide) ?_
    refine hQ _ _ _ _ _ (Or.inr (Or.inl ⟨_, _, dX0_isToClean_29, rfl, (by first | rfl | exact nar_bI _), rfl, rfl⟩)) ⟨?_, rfl⟩
    (clear hQ C; (try simp only [bI_0] at *); first | (simp [jDirty, bI_t2, bI_f2, *]; done) | (simp_all; done))
  · refine V.aload_n C dX0_isToClean_8 rfl ?_
    refine V.iload_n C dX0_isToClean_9 rfl ?_
    refine V.callVi C (ct_X0_isTooFast hT (by omega)) gX0_isToClean_X0_isTooFast (n := 1) ⟨rfl, by decide, by decide, by decide +kernel⟩ rfl (q0 := 4) rfl rfl rfl rfl ⟨Nat.le_of_ble_eq_true rfl, Nat.le_of_ble_eq_true rfl⟩ ⟨rfl, rfl, Nat.zero_le _, Nat.zero_le _⟩ (Nat.le_of_ble_eq_true rfl) dX0_isToClean_10 ?_
    refine V.if_ne C (tgt := 24) dX0_isToClean_13 (by decide) (fun c_2 => ?_) (fun c_2 => ?_)
    · refine V.iconst C (v := nI 1) dX0_isToClean_24 (by decide) ?_
      refine V.goto C (tgt := 29) dX0_isToClean_25 (by decide) ?_
      refine hQ _ _ _ _ _ (Or.inr (Or.inl ⟨_, _, dX0_isToClean_29, rfl, (by first | rfl | exact nar_bI _), rfl, rfl⟩)) ⟨?_, rfl⟩
      (clear hQ C; (try simp only [bI_0] at *); first | (simp [jDirty, bI_t2, bI_f2, *]; done) | (simp_all; done))
    · refine V.aload_n C dX0_isToClean_16 rfl ?_
      refine V.iload_n C dX0_isToClean_17 rfl ?_
      refine V.callVi C (ct_X0_isStraightLine hT (by omega)) gX0_isToClean_X0_isStraightLine (n := 1) ⟨rfl, by decide, by decide, by decide +kernel⟩ rfl (q0 := 4) rfl rfl rfl rfl ⟨Nat.le_of_ble_eq_true rfl, Nat.le_of_ble_eq_true rfl⟩ ⟨rfl, rfl, Nat.zero_le _, Nat.zero_le _⟩ (Nat.le_of_ble_eq_true rfl) dX0_isToClean_18 ?_
      refine V.if_eq C (tgt := 28) dX0_isToClean_21 (by decide) (fun c_3 => ?_) (fun c_3 => ?_)
      · refine V.iconst C (v := nI 0) dX0_isToClean_28 (by decide) ?_
        refine hQ _ _ _ _ _ (Or.inr (Or.inl ⟨_, _, dX0_isToClean_29, rfl, (by first | rfl | exact nar_bI _), rfl, rfl⟩)) ⟨?_, rfl⟩
        (clear hQ C; (try simp only [bI_0] at *); first | (simp [jDirty, bI_t2, bI_f2, *]; done) | (simp_all; done))
      · refine V.iconst C (v := nI 1) dX0_isToClean_24 (by decide) ?_
        refine V.goto C (tgt := 29) dX0_isToClean_25 (by decide) ?_
        refine hQ _ _ _ _ _ (Or.inr (Or.inl ⟨_, _, dX0_isToClean_29, rfl, (by first | rfl | exact nar_bI _), rfl, rfl⟩)) ⟨?_, rfl⟩
        (clear hQ C; (try simp only [bI_0] at *); first | (simp [jDirty, bI_t2, bI_f2, *]; done) | (simp_all; done))
set_option maxRecDepth 100000 in
set_option maxHeartbeats 4000000 in
theorem ct_X0_countToClean {l : Launch} {D : va_G} {tys : List (ClassId × FieldType)} {cI : ClassId} {h : Nat → Nat} {σ : Nat → Nat → Int32} (hT : tys[0]? = some (cI, .int)) {x : Int32} {N : Nat} (hN : σ 4 0 = nI N) (hN40 : N ≤ 40) : Cd l D tys yX0_countToClean wsX0_countToClean ({ frames := 3, cells := 0, slots := 0, locals := 67 } : Room) (SW cI h σ) [.ref (h 4), .int x] (some (.int (jCnt (fun i => decide (σ 18 i = x) && jDirty σ i) N))) (SW cI h σ) := by
  refine Ct.of [some (.ref (h 4)), some (.int x), none, none] (by decide) rfl rfl (Nat.le_of_ble_eq_true rfl) rfl (fun κ C hQ => ?_)
  have iX0 : ∀ z ∈ u_ws RX0 TX0 8, z ∈ wsX0_countToClean := by decide +kernel
  refine V.iconst C (v := nI 0) dX0_countToClean_0 (by decide) ?_
  refine V.istore_n C dX0_countToClean_1 (by decide) rfl ?_
  dsimp only [List.set, Fin.val]
  refine V.iconst C (v := nI 0) dX0_countToClean_2 (by decide) ?_
  refine V.istore_n C dX0_countToClean_3 (by decide) rfl ?_
  dsimp only [List.set, Fin.val]
  refine V.loop (N) (fun k => SW cI h σ) (fun k => [some (.ref (h 4)), some (.int x), some (.int (jCnt (fun i => decide (σ 18 i = x) && jDirty σ i) k)), some (.int (nI k))]) (fun k hk ih_k => ?_) ?_ (rfl) (lsub_s rfl (lsub_s rfl (lsub_s rfl (lsub_s rfl (lsub_e)))))
  · try dsimp only
    refine V.iload_n C dX0_countToClean_4 rfl ?_
    refine V.aload_n C dX0_countToClean_5 rfl ?_
    refine V.get C (q0 := 4) (k := 0) rfl rfl (by decide) iX0 (by decide +kernel) rfl rfl dX0_countToClean_6 ?_
    refine V.topi (hN) ?_
    refine V.icmp_ge C (tgt := 39) dX0_countToClean_9 (by decide) (fun c_1 => ?_) (fun c_1 => ?_)
    · exfalso
      exact c_1 (nI_lt hk (by omega))
    · refine V.aload_n C dX0_countToClean_12 rfl ?_
      refine V.get C (q0 := 4) (k := 2) rfl rfl (by decide) iX0 (by decide +kernel) rfl rfl dX0_countToClean_13 ?_
      refine V.iload_n C dX0_countToClean_16 rfl ?_
      refine V.iald C (q0 := 18) (t0 := 0) rfl hT (rfl) (by omega) (by omega) dX0_countToClean_17 ?_
      refine V.iload_n C dX0_countToClean_18 rfl ?_
      refine V.icmp_ne C (tgt := 33) dX0_countToClean_19 (by decide) (fun c_2 => ?_) (fun c_2 => ?_)
      · refine V.iinc C (v := nI (k + 1)) dX0_countToClean_33 rfl (nI_inc k) (by decide) rfl ?_
        dsimp only [List.set]
        refine V.goto C (tgt := 4) dX0_countToClean_36 (by decide) ?_
        exact V.sub (M := [some (.ref (h 4)), some (.int x), some (.int (jCnt (fun i => decide (σ 18 i = x) && jDirty σ i) (k + 1))), some (.int (nI (k + 1)))]) (lsub_s rfl (lsub_s rfl (lsub_si (by (clear hQ C; (try simp only [bI_0] at *); first | (simp [jCnt, bI_t2, bI_f2, *]; done) | (simp_all; done))) rfl (lsub_s rfl (lsub_e))))) ih_k
      · refine V.aload_n C dX0_countToClean_22 rfl ?_
        refine V.iload_n C dX0_countToClean_23 rfl ?_
        refine V.callVi C (ct_X0_isToClean hT (by omega)) gX0_countToClean_X0_isToClean (n := 1) ⟨rfl, by decide, by decide, by decide +kernel⟩ rfl (q0 := 4) rfl rfl rfl rfl ⟨Nat.le_of_ble_eq_true rfl, Nat.le_of_ble_eq_true rfl⟩ ⟨rfl, rfl, Nat.zero_le _, Nat.zero_le _⟩ (Nat.le_of_ble_eq_true rfl) dX0_countToClean_24 ?_
        refine V.if_eq C (tgt := 33) dX0_countToClean_27 (by decide) (fun c_3 => ?_) (fun c_3 => ?_)
        · refine V.iinc C (v := nI (k + 1)) dX0_countToClean_33 rfl (nI_inc k) (by decide) rfl ?_
          dsimp only [List.set]
          refine V.goto C (tgt := 4) dX0_countToClean_36 (by decide) ?_
          exact V.sub (M := [some (.ref (h 4)), some (.int x), some (.int (jCnt (fun i => decide (σ 18 i = x) && jDirty σ i) (k + 1))), some (.int (nI (k + 1)))]) (lsub_s rfl (lsub_s rfl (lsub_si (by (clear hQ C; (try simp only [bI_0] at *); first | (simp [jCnt, bI_t2, bI_f2, *]; done) | (simp_all; done))) rfl (lsub_s rfl (lsub_e))))) ih_k
        · refine V.iinc C dX0_countToClean_30 rfl rfl (by decide) rfl ?_
          dsimp only [List.set]
          refine V.iinc C (v := nI (k + 1)) dX0_countToClean_33 rfl (nI_inc k) (by decide) rfl ?_
          dsimp only [List.set]
          refine V.goto C (tgt := 4) dX0_countToClean_36 (by decide) ?_
          exact V.sub (M := [some (.ref (h 4)), some (.int x), some (.int (jCnt (fun i => decide (σ 18 i = x) && jDirty σ i) (k + 1))), some (.int (nI (k + 1)))]) (lsub_s rfl (lsub_s rfl (lsub_si (by (clear hQ C; (try simp only [bI_0] at *); first | (simp [jCnt, bI_t2, bI_f2, *]; done) | (simp_all; done))) rfl (lsub_s rfl (lsub_e))))) ih_k
  · try dsimp only
    refine V.iload_n C dX0_countToClean_4 rfl ?_
    refine V.aload_n C dX0_countToClean_5 rfl ?_
    refine V.get C (q0 := 4) (k := 0) rfl rfl (by decide) iX0 (by decide +kernel) rfl rfl dX0_countToClean_6 ?_
    refine V.topi (hN) ?_
    refine V.icmp_ge C (tgt := 39) dX0_countToClean_9 (by decide) (fun c_4 => ?_) (fun c_4 => ?_)
    · refine V.iload_n C dX0_countToClean_39 rfl ?_
      refine hQ _ _ _ _ _ (Or.inr (Or.inl ⟨_, _, dX0_countToClean_40, rfl, rfl, rfl, rfl⟩)) ⟨?_, rfl⟩
      rfl
    · exfalso
      exact absurd c_4 (nI_nlt (Nat.le_refl _) (by omega))
set_option maxRecDepth 100000 in
set_option maxHeartbeats 4000000 in
theorem ct_X0_isCounted {l : Launch} {D : va_G} {tys : List (ClassId × FieldType)} {cI : ClassId} {h : Nat → Nat} {σ : Nat → Nat → Int32} (hT : tys[0]? = some (cI, .int)) {i q : Nat} {A : Int32} (hi : i < 40) (hq : q < 10) (hce : Nn (σ 18 i) 6) : Cd l D tys yX0_isCounted wsX0_isCounted ({ frames := 1, cells := 0, slots := 0, locals := 22 } : Room) (SW cI h σ) [.ref (h 4), .int (nI i), .int (nI q), .int A] (some (.int (bI (jCounted σ q A i)))) (SW cI h σ) := by
  refine Ct.of [some (.ref (h 4)), some (.int (nI i)), some (.int (nI q)), some (.int A)] (by decide) rfl rfl (Nat.le_of_ble_eq_true rfl) rfl (fun κ C hQ => ?_)
  have iX0 : ∀ z ∈ u_ws RX0 TX0 8, z ∈ wsX0_isCounted := by decide +kernel
  refine V.aload_n C dX0_isCounted_0 rfl ?_
  refine V.iload_n C dX0_isCounted_1 rfl ?_
  refine V.callVi C (ct_X0_isComplete hT (by omega)) gX0_isCounted_X0_isComplete (n := 1) ⟨rfl, by decide, by decide, by decide +kernel⟩ rfl (q0 := 4) rfl rfl rfl rfl ⟨Nat.le_of_ble_eq_true rfl, Nat.le_of_ble_eq_true rfl⟩ ⟨rfl, rfl, Nat.zero_le _, Nat.zero_le _⟩ (Nat.le_of_ble_eq_true rfl) dX0_isCounted_2 ?_
  refine V.if_eq C (tgt := 40) dX0_isCounted_5 (by decide) (fun c_1 => ?_) (fun c_1 => ?_)
  · refine V.iconst C (v := nI 0) dX0_isCounted_40 (by decide) ?_
    refine hQ _ _ _ _ _ (Or.inr (Or.inl ⟨_, _, dX0_isCounted_41, rfl, (by first | rfl | exact nar_bI _), rfl, rfl⟩)) ⟨?_, rfl⟩
    (clear hQ C; (try simp only [bI_0] at *); first | (simp [jCounted, jC, bI_t2, bI_f2, *]; done) | (simp_all; done))
  · refine V.aload_n C dX0_isCounted_8 rfl ?_
    refine V.iload_n C dX0_isCounted_9 rfl ?_
    refine V.iload_n C dX0_isCounted_10 rfl ?_
    refine V.callVi C (ct_X0_answerTo hT (by omega) (by omega)) gX0_isCounted_X0_answerTo (n := 2) ⟨rfl, by decide, by decide, by decide +kernel⟩ rfl (q0 := 4) rfl rfl rfl rfl ⟨Nat.le_of_ble_eq_true rfl, Nat.le_of_ble_eq_true rfl⟩ ⟨rfl, rfl, Nat.zero_le _, Nat.zero_le _⟩ (Nat.le_of_ble_eq_true rfl) dX0_isCounted_11 ?_
    refine V.iconst C (v := (-1)) dX0_isCounted_14 (by decide) ?_
    refine V.icmp_eq C (tgt := 40) dX0_isCounted_15 (by decide) (fun c_2 => ?_) (fun c_2 => ?_)
    · refine V.iconst C (v := nI 0) dX0_isCounted_40 (by decide) ?_
      refine hQ _ _ _ _ _ (Or.inr (Or.inl ⟨_, _, dX0_isCounted_41, rfl, (by first | rfl | exact nar_bI _), rfl, rfl⟩)) ⟨?_, rfl⟩
      (clear hQ C; (try simp only [bI_0] at *); first | (simp [jCounted, jC, bI_t2, bI_f2, *]; done) | (simp_all; done))
    · refine V.iload_n C dX0_isCounted_18 rfl ?_
      refine V.iconst C (v := (-1)) dX0_isCounted_19 (by decide) ?_
      refine V.icmp_eq C (tgt := 36) dX0_isCounted_20 (by decide) (fun c_3 => ?_) (fun c_3 => ?_)
      · refine V.iconst C (v := nI 1) dX0_isCounted_36 (by decide) ?_
        refine V.goto C (tgt := 41) dX0_isCounted_37 (by decide) ?_
        refine hQ _ _ _ _ _ (Or.inr (Or.inl ⟨_, _, dX0_isCounted_41, rfl, (by first | rfl | exact nar_bI _), rfl, rfl⟩)) ⟨?_, rfl⟩
        (clear hQ C; (try simp only [bI_0] at *); first | (simp [jCounted, jC, bI_t2, bI_f2, *]; done) | (simp_all; done))
      · refine V.aload_n C dX0_isCounted_23 rfl ?_
        refine V.get C (q0 := 4) (k := 2) rfl rfl (by decide) iX0 (by decide +kernel) rfl rfl dX0_isCounted_24 ?_
        refine V.iload_n C dX0_isCounted_27 rfl ?_
        refine V.iald C (q0 := 18) (t0 := 0) rfl hT (rfl) (by omega) (by omega) dX0_isCounted_28 ?_
        refine V.topi (y := nI (jC σ i)) (hce.1) ?_
        refine V.callSNi C (ct_X6_aOf hce.2) gX0_isCounted_X6_aOf_n60 (fun _ q => q.1) (by decide +kernel) (by decide +kernel) (n := 1) ⟨by decide, by decide, by decide +kernel⟩ rfl rfl rfl ⟨Nat.le_of_ble_eq_true rfl, Nat.le_of_ble_eq_true rfl⟩ ⟨rfl, rfl, Nat.zero_le _, Nat.zero_le _⟩ (Nat.le_of_ble_eq_true rfl) dX0_isCounted_29 ?_
        refine V.iload_n C dX0_isCounted_32 rfl ?_
        refine V.icmp_ne C (tgt := 40) dX0_isCounted_33 (by decide) (fun c_4 => ?_) (fun c_4 => ?_)
        · refine V.iconst C (v := nI 0) dX0_isCounted_40 (by decide) ?_
          refine hQ _ _ _ _ _ (Or.inr (Or.inl ⟨_, _, dX0_isCounted_41, rfl, (by first | rfl | exact nar_bI _), rfl, rfl⟩)) ⟨?_, rfl⟩
          (clear hQ C; (try simp only [bI_0] at *); first | (simp [jCounted, jC, bI_t2, bI_f2, *]; done) | (simp_all; done))
        · refine V.iconst C (v := nI 1) dX0_isCounted_36 (by decide) ?_
          refine V.goto C (tgt := 41) dX0_isCounted_37 (by decide) ?_
          refine hQ _ _ _ _ _ (Or.inr (Or.inl ⟨_, _, dX0_isCounted_41, rfl, (by first | rfl | exact nar_bI _), rfl, rfl⟩)) ⟨?_, rfl⟩
          (clear hQ C; (try simp only [bI_0] at *); first | (simp [jCounted, jC, bI_t2, bI_f2, *]; done) | (simp_all; done))
set_option maxRecDepth 100000 in
set_option maxHeartbeats 4000000 in
theorem ct_X0_countAnswered {l : Launch} {D : va_G} {tys : List (ClassId × FieldType)} {cI : ClassId} {h : Nat → Nat} {σ : Nat → Nat → Int32} (hT : tys[0]? = some (cI, .int)) {q : Nat} {A : Int32} {N : Nat} (hN : σ 4 0 = nI N) (hN40 : N ≤ 40) (hq : q < 10) (hce : ∀ i, i < N → Nn (σ 18 i) 6) : Cd l D tys yX0_countAnswered wsX0_countAnswered ({ frames := 2, cells := 0, slots := 0, locals := 45 } : Room) (SW cI h σ) [.ref (h 4), .int (nI q), .int A] (some (.int (jCnt (jCounted σ q A) N))) (SW cI h σ) := by
  refine Ct.of [some (.ref (h 4)), some (.int (nI q)), some (.int A), none, none] (by decide) rfl rfl (Nat.le_of_ble_eq_true rfl) rfl (fun κ C hQ => ?_)
  have iX0 : ∀ z ∈ u_ws RX0 TX0 8, z ∈ wsX0_countAnswered := by decide +kernel
  refine V.iconst C (v := nI 0) dX0_countAnswered_0 (by decide) ?_
  refine V.istore_n C dX0_countAnswered_1 (by decide) rfl ?_
  dsimp only [List.set, Fin.val]
  refine V.iconst C (v := nI 0) dX0_countAnswered_2 (by decide) ?_
  refine V.istore C dX0_countAnswered_3 (by decide) rfl ?_
  dsimp only [List.set]
  refine V.loop (N) (fun k => SW cI h σ) (fun k => [some (.ref (h 4)), some (.int (nI q)), some (.int A), some (.int (jCnt (jCounted σ q A) k)), some (.int (nI k))]) (fun k hk ih_k => ?_) ?_ (rfl) (lsub_s rfl (lsub_s rfl (lsub_s rfl (lsub_s rfl (lsub_s rfl (lsub_e))))))
  · try dsimp only
    refine V.iload C dX0_countAnswered_5 rfl ?_
    refine V.aload_n C dX0_countAnswered_7 rfl ?_
    refine V.get C (q0 := 4) (k := 0) rfl rfl (by decide) iX0 (by decide +kernel) rfl rfl dX0_countAnswered_8 ?_
    refine V.topi (hN) ?_
    refine V.icmp_ge C (tgt := 34) dX0_countAnswered_11 (by decide) (fun c_1 => ?_) (fun c_1 => ?_)
    · exfalso
      exact c_1 (nI_lt hk (by omega))
    · refine V.aload_n C dX0_countAnswered_14 rfl ?_
      refine V.iload C dX0_countAnswered_15 rfl ?_
      refine V.iload_n C dX0_countAnswered_17 rfl ?_
      refine V.iload_n C dX0_countAnswered_18 rfl ?_
      refine V.callVi C (ct_X0_isCounted hT (by omega) (by omega) (hce _ (by omega))) gX0_countAnswered_X0_isCounted (n := 3) ⟨rfl, by decide, by decide, by decide +kernel⟩ rfl (q0 := 4) rfl rfl rfl rfl ⟨Nat.le_of_ble_eq_true rfl, Nat.le_of_ble_eq_true rfl⟩ ⟨rfl, rfl, Nat.zero_le _, Nat.zero_le _⟩ (Nat.le_of_ble_eq_true rfl) dX0_countAnswered_19 ?_
      refine V.if_eq C (tgt := 28) dX0_countAnswered_22 (by decide) (fun c_2 => ?_) (fun c_2 => ?_)
      · refine V.iinc C (v := nI (k + 1)) dX0_countAnswered_28 rfl (nI_inc k) (by decide) rfl ?_
        dsimp only [List.set]
        refine V.goto C (tgt := 5) dX0_countAnswered_31 (by decide) ?_
        exact V.sub (M := [some (.ref (h 4)), some (.int (nI q)), some (.int A), some (.int (jCnt (jCounted σ q A) (k + 1))), some (.int (nI (k + 1)))]) (lsub_s rfl (lsub_s rfl (lsub_s rfl (lsub_si (by (clear hQ C; (try simp only [bI_0] at *); first | (simp [jCnt, bI_t2, bI_f2, *]; done) | (simp_all; done))) rfl (lsub_s rfl (lsub_e)))))) ih_k
      · refine V.iinc C dX0_countAnswered_25 rfl rfl (by decide) rfl ?_
        dsimp only [List.set]
        refine V.iinc C (v := nI (k + 1)) dX0_countAnswered_28 rfl (nI_inc k) (by decide) rfl ?_
        dsimp only [List.set]
        refine V.goto C (tgt := 5) dX0_countAnswered_31 (by decide) ?_
        exact V.sub (M := [some (.ref (h 4)), some (.int (nI q)), some (.int A), some (.int (jCnt (jCounted σ q A) (k + 1))), some (.int (nI (k + 1)))]) (lsub_s rfl (lsub_s rfl (lsub_s rfl (lsub_si (by (clear hQ C; (try simp only [bI_0] at *); first | (simp [jCnt, bI_t2, bI_f2, *]; done) | (simp_all; done))) rfl (lsub_s rfl (lsub_e)))))) ih_k
  · try dsimp only
    refine V.iload C dX0_countAnswered_5 rfl ?_
    refine V.aload_n C dX0_countAnswered_7 rfl ?_
    refine V.get C (q0 := 4) (k := 0) rfl rfl (by decide) iX0 (by decide +kernel) rfl rfl dX0_countAnswered_8 ?_
    refine V.topi (hN) ?_
    refine V.icmp_ge C (tgt := 34) dX0_countAnswered_11 (by decide) (fun c_3 => ?_) (fun c_3 => ?_)
    · refine V.iload_n C dX0_countAnswered_34 rfl ?_
      refine hQ _ _ _ _ _ (Or.inr (Or.inl ⟨_, _, dX0_countAnswered_35, rfl, rfl, rfl, rfl⟩)) ⟨?_, rfl⟩
      rfl
    · exfalso
      exact absurd c_3 (nI_nlt (Nat.le_refl _) (by omega))
