set_option maxRecDepth 100000 in
set_option maxHeartbeats 4000000 in
theorem ct_X3_targetOf {l : Launch} {D : va_G} {tys : List (ClassId × FieldType)} {cI : ClassId} {h : Nat → Nat} {σ : Nat → Nat → Int32} (hT : tys[0]? = some (cI, .int)) {c : Nat} (hc : c < 6) : Cd l D tys yX3_targetOf wsX3_targetOf ({ frames := 0, cells := 0, slots := 0, locals := 0 } : Room) (SW cI h σ) [.ref (h 2), .int (nI c)] (some (.int (σ 11 c))) (SW cI h σ) := by
  refine Ct.of [some (.ref (h 2)), some (.int (nI c))] (by decide) rfl rfl (Nat.le_of_ble_eq_true rfl) rfl (fun κ C hQ => ?_)
  have iX3 : ∀ z ∈ u_ws RX3 TX3 3, z ∈ wsX3_targetOf := by decide +kernel
  refine V.aload_n C dX3_targetOf_0 rfl ?_
  refine V.get C (q0 := 2) (k := 1) rfl rfl (by decide) iX3 (by decide +kernel) rfl rfl dX3_targetOf_1 ?_
  refine V.iload_n C dX3_targetOf_4 rfl ?_
  refine V.iald C (q0 := 11) (t0 := 0) rfl hT (rfl) (by omega) (by omega) dX3_targetOf_5 ?_
  refine hQ _ _ _ _ _ (Or.inr (Or.inl ⟨_, _, dX3_targetOf_6, rfl, rfl, rfl, rfl⟩)) ⟨?_, rfl⟩
  rfl
set_option maxRecDepth 100000 in
set_option maxHeartbeats 4000000 in
theorem ct_X3_filledOf {l : Launch} {D : va_G} {tys : List (ClassId × FieldType)} {cI : ClassId} {h : Nat → Nat} {σ : Nat → Nat → Int32} (hT : tys[0]? = some (cI, .int)) {c : Nat} (hc : c < 6) : Cd l D tys yX3_filledOf wsX3_filledOf ({ frames := 0, cells := 0, slots := 0, locals := 0 } : Room) (SW cI h σ) [.ref (h 2), .int (nI c)] (some (.int (σ 12 c))) (SW cI h σ) := by
  refine Ct.of [some (.ref (h 2)), some (.int (nI c))] (by decide) rfl rfl (Nat.le_of_ble_eq_true rfl) rfl (fun κ C hQ => ?_)
  have iX3 : ∀ z ∈ u_ws RX3 TX3 3, z ∈ wsX3_filledOf := by decide +kernel
  refine V.aload_n C dX3_filledOf_0 rfl ?_
  refine V.get C (q0 := 2) (k := 2) rfl rfl (by decide) iX3 (by decide +kernel) rfl rfl dX3_filledOf_1 ?_
  refine V.iload_n C dX3_filledOf_4 rfl ?_
  refine V.iald C (q0 := 12) (t0 := 0) rfl hT (rfl) (by omega) (by omega) dX3_filledOf_5 ?_
  refine hQ _ _ _ _ _ (Or.inr (Or.inl ⟨_, _, dX3_filledOf_6, rfl, rfl, rfl, rfl⟩)) ⟨?_, rfl⟩
  rfl
set_option maxRecDepth 100000 in
set_option maxHeartbeats 4000000 in
theorem ct_X3_setTarget {l : Launch} {D : va_G} {tys : List (ClassId × FieldType)} {cI : ClassId} {h : Nat → Nat} {σ : Nat → Nat → Int32} (hT : tys[0]? = some (cI, .int)) {c : Nat} {x : Int32} (hc : c < 6) : Cd l D tys yX3_setTarget wsX3_setTarget ({ frames := 0, cells := 0, slots := 0, locals := 0 } : Room) (SW cI h σ) [.ref (h 2), .int (nI c), .int x] (none) (SW cI h (sW σ 11 c x)) := by
  refine Ct.of [some (.ref (h 2)), some (.int (nI c)), some (.int x)] (by decide) rfl rfl (Nat.le_of_ble_eq_true rfl) rfl (fun κ C hQ => ?_)
  have iX3 : ∀ z ∈ u_ws RX3 TX3 3, z ∈ wsX3_setTarget := by decide +kernel
  refine V.aload_n C dX3_setTarget_0 rfl ?_
  refine V.get C (q0 := 2) (k := 1) rfl rfl (by decide) iX3 (by decide +kernel) rfl rfl dX3_setTarget_1 ?_
  refine V.iload_n C dX3_setTarget_4 rfl ?_
  refine V.iload_n C dX3_setTarget_5 rfl ?_
  refine V.iast C (q0 := 11) (t0 := 0) (w' := SW cI h (sW σ 11 c x)) rfl hT (rfl) (by omega) (by omega) rfl dX3_setTarget_6 ?_
  exact hQ _ _ _ _ _ (Or.inl ⟨dX3_setTarget_7, rfl, rfl, rfl⟩) ⟨rfl, rfl⟩
set_option maxRecDepth 100000 in
set_option maxHeartbeats 4000000 in
theorem ct_X3_fill {l : Launch} {D : va_G} {tys : List (ClassId × FieldType)} {cI : ClassId} {h : Nat → Nat} {σ : Nat → Nat → Int32} (hT : tys[0]? = some (cI, .int)) {c : Nat} {x : Int32} (hc : c < 6) : Cd l D tys yX3_fill wsX3_fill ({ frames := 0, cells := 0, slots := 0, locals := 0 } : Room) (SW cI h σ) [.ref (h 2), .int (nI c), .int x] (none) (SW cI h (sW σ 12 c (σ 12 c + x))) := by
  refine Ct.of [some (.ref (h 2)), some (.int (nI c)), some (.int x)] (by decide) rfl rfl (Nat.le_of_ble_eq_true rfl) rfl (fun κ C hQ => ?_)
  have iX3 : ∀ z ∈ u_ws RX3 TX3 3, z ∈ wsX3_fill := by decide +kernel
  refine V.aload_n C dX3_fill_0 rfl ?_
  refine V.get C (q0 := 2) (k := 2) rfl rfl (by decide) iX3 (by decide +kernel) rfl rfl dX3_fill_1 ?_
  refine V.iload_n C dX3_fill_4 rfl ?_
  refine V.dup2 C dX3_fill_5 rfl rfl ?_
  refine V.iald C (q0 := 12) (t0 := 0) rfl hT (rfl) (by omega) (by omega) dX3_fill_6 ?_
  refine V.iload_n C dX3_fill_7 rfl ?_
  refine V.iadd C dX3_fill_8 ?_
  refine V.iast C (q0 := 12) (t0 := 0) (w' := SW cI h (sW σ 12 c (σ 12 c + x))) rfl hT (rfl) (by omega) (by omega) rfl dX3_fill_9 ?_
  exact hQ _ _ _ _ _ (Or.inl ⟨dX3_fill_10, rfl, rfl, rfl⟩) ⟨rfl, rfl⟩
set_option maxRecDepth 100000 in
set_option maxHeartbeats 4000000 in
theorem ct_X3_softEdge {l : Launch} {D : va_G} {tys : List (ClassId × FieldType)} {cI : ClassId} {h : Nat → Nat} {σ : Nat → Nat → Int32} : Cd l D tys yX3_softEdge wsX3_softEdge ({ frames := 0, cells := 0, slots := 0, locals := 0 } : Room) (SW cI h σ) [.ref (h 2)] (some (.int (σ 2 0))) (SW cI h σ) := by
  refine Ct.of [some (.ref (h 2))] (by decide) rfl rfl (Nat.le_of_ble_eq_true rfl) rfl (fun κ C hQ => ?_)
  have iX3 : ∀ z ∈ u_ws RX3 TX3 3, z ∈ wsX3_softEdge := by decide +kernel
  refine V.aload_n C dX3_softEdge_0 rfl ?_
  refine V.get C (q0 := 2) (k := 0) rfl rfl (by decide) iX3 (by decide +kernel) rfl rfl dX3_softEdge_1 ?_
  refine hQ _ _ _ _ _ (Or.inr (Or.inl ⟨_, _, dX3_softEdge_4, rfl, rfl, rfl, rfl⟩)) ⟨?_, rfl⟩
  rfl
set_option maxRecDepth 100000 in
set_option maxHeartbeats 4000000 in
theorem ct_X3_setSoftEdge {l : Launch} {D : va_G} {tys : List (ClassId × FieldType)} {cI : ClassId} {h : Nat → Nat} {σ : Nat → Nat → Int32} {x : Int32} : Cd l D tys yX3_setSoftEdge wsX3_setSoftEdge ({ frames := 0, cells := 0, slots := 0, locals := 0 } : Room) (SW cI h σ) [.ref (h 2), .int x] (none) (SW cI h (sW σ 2 0 x)) := by
  refine Ct.of [some (.ref (h 2)), some (.int x)] (by decide) rfl rfl (Nat.le_of_ble_eq_true rfl) rfl (fun κ C hQ => ?_)
  have iX3 : ∀ z ∈ u_ws RX3 TX3 3, z ∈ wsX3_setSoftEdge := by decide +kernel
  refine V.aload_n C dX3_setSoftEdge_0 rfl ?_
  refine V.iload_n C dX3_setSoftEdge_1 rfl ?_
  refine V.put C (q0 := 2) (k := 0) (w' := SW cI h (sW σ 2 0 x)) rfl rfl (by decide) iX3 (by decide +kernel) rfl tyX3 tyX3_ok nmX3 rfl rfl rfl rfl (Nat.le_of_ble_eq_true rfl) rfl dX3_setSoftEdge_2 ?_
  exact hQ _ _ _ _ _ (Or.inl ⟨dX3_setSoftEdge_5, rfl, rfl, rfl⟩) ⟨rfl, rfl⟩
set_option maxRecDepth 100000 in
set_option maxHeartbeats 4000000 in
theorem ct_X3_lackOf {l : Launch} {D : va_G} {tys : List (ClassId × FieldType)} {cI : ClassId} {h : Nat → Nat} {σ : Nat → Nat → Int32} (hT : tys[0]? = some (cI, .int)) {c : Nat} (hc : c < 6) : Cd l D tys yX3_lackOf wsX3_lackOf ({ frames := 0, cells := 0, slots := 0, locals := 0 } : Room) (SW cI h σ) [.ref (h 2), .int (nI c)] (some (.int (σ 11 c - σ 12 c))) (SW cI h σ) := by
  refine Ct.of [some (.ref (h 2)), some (.int (nI c))] (by decide) rfl rfl (Nat.le_of_ble_eq_true rfl) rfl (fun κ C hQ => ?_)
  have iX3 : ∀ z ∈ u_ws RX3 TX3 3, z ∈ wsX3_lackOf := by decide +kernel
  refine V.aload_n C dX3_lackOf_0 rfl ?_
  refine V.get C (q0 := 2) (k := 1) rfl rfl (by decide) iX3 (by decide +kernel) rfl rfl dX3_lackOf_1 ?_
  refine V.iload_n C dX3_lackOf_4 rfl ?_
  refine V.iald C (q0 := 11) (t0 := 0) rfl hT (rfl) (by omega) (by omega) dX3_lackOf_5 ?_
  refine V.aload_n C dX3_lackOf_6 rfl ?_
  refine V.get C (q0 := 2) (k := 2) rfl rfl (by decide) iX3 (by decide +kernel) rfl rfl dX3_lackOf_7 ?_
  refine V.iload_n C dX3_lackOf_10 rfl ?_
  refine V.iald C (q0 := 12) (t0 := 0) rfl hT (rfl) (by omega) (by omega) dX3_lackOf_11 ?_
  refine V.isub C dX3_lackOf_12 ?_
  refine hQ _ _ _ _ _ (Or.inr (Or.inl ⟨_, _, dX3_lackOf_13, rfl, rfl, rfl, rfl⟩)) ⟨?_, rfl⟩
  rfl
set_option maxRecDepth 100000 in
set_option maxHeartbeats 4000000 in
theorem ct_X3_sumOf_11 {l : Launch} {D : va_G} {tys : List (ClassId × FieldType)} {cI : ClassId} {h : Nat → Nat} {σ : Nat → Nat → Int32} (hT : tys[0]? = some (cI, .int)) : Cd l D tys yX3_sumOf wsX3_sumOf ({ frames := 0, cells := 0, slots := 0, locals := 0 } : Room) (SW cI h σ) [.ref (h 11)] (some (.int (jSum (σ 11) 6))) (SW cI h σ) := by
  refine Ct.of [some (.ref (h 11)), none, none, none, none, none] (by decide) rfl rfl (Nat.le_of_ble_eq_true rfl) rfl (fun κ C hQ => ?_)
  refine V.iconst C (v := nI 0) dX3_sumOf_0 (by decide) ?_
  refine V.istore_n C dX3_sumOf_1 (by decide) rfl ?_
  dsimp only [List.set, Fin.val]
  refine V.aload_n C dX3_sumOf_2 rfl ?_
  refine V.astore_n C dX3_sumOf_3 (by decide) rfl ?_
  dsimp only [List.set, Fin.val]
  refine V.aload_n C dX3_sumOf_4 rfl ?_
  refine V.alen C (q0 := 11) (t0 := 0) rfl hT dX3_sumOf_5 ?_
  refine V.istore_n C dX3_sumOf_6 (by decide) rfl ?_
  dsimp only [List.set, Fin.val]
  refine V.iconst C (v := nI 0) dX3_sumOf_7 (by decide) ?_
  refine V.istore C dX3_sumOf_8 (by decide) rfl ?_
  dsimp only [List.set]
  refine V.loop (6) (fun k => SW cI h σ) (fun k => [some (.ref (h 11)), some (.int (jSum (σ 11) k)), some (.ref (h 11)), some (.int (nI 6)), some (.int (nI k)), none]) (fun k hk ih_k => ?_) ?_ (rfl) (lsub_s rfl (lsub_s rfl (lsub_s rfl (lsub_s rfl (lsub_s rfl (lsub_n (lsub_e)))))))
  · try dsimp only
    refine V.iload C dX3_sumOf_10 rfl ?_
    refine V.iload_n C dX3_sumOf_12 rfl ?_
    refine V.icmp_ge C (tgt := 33) dX3_sumOf_13 (by decide) (fun c_1 => ?_) (fun c_1 => ?_)
    · exfalso
      exact c_1 (nI_lt hk (by decide))
    · refine V.aload_n C dX3_sumOf_16 rfl ?_
      refine V.iload C dX3_sumOf_17 rfl ?_
      refine V.iald C (q0 := 11) (t0 := 0) rfl hT (rfl) (by omega) (by omega) dX3_sumOf_19 ?_
      refine V.istore C dX3_sumOf_20 (by decide) rfl ?_
      dsimp only [List.set]
      refine V.iload_n C dX3_sumOf_22 rfl ?_
      refine V.iload C dX3_sumOf_23 rfl ?_
      refine V.iadd C dX3_sumOf_25 ?_
      refine V.istore_n C dX3_sumOf_26 (by decide) rfl ?_
      dsimp only [List.set, Fin.val]
      refine V.iinc C (v := nI (k + 1)) dX3_sumOf_27 rfl (nI_inc k) (by decide) rfl ?_
      dsimp only [List.set]
      refine V.goto C (tgt := 10) dX3_sumOf_30 (by decide) ?_
      exact V.sub (M := [some (.ref (h 11)), some (.int (jSum (σ 11) (k + 1))), some (.ref (h 11)), some (.int (nI 6)), some (.int (nI (k + 1))), none]) (lsub_s rfl (lsub_s rfl (lsub_s rfl (lsub_s rfl (lsub_s rfl (lsub_n (lsub_e))))))) ih_k
  · try dsimp only
    refine V.iload C dX3_sumOf_10 rfl ?_
    refine V.iload_n C dX3_sumOf_12 rfl ?_
    refine V.icmp_ge C (tgt := 33) dX3_sumOf_13 (by decide) (fun c_2 => ?_) (fun c_2 => ?_)
    · refine V.iload_n C dX3_sumOf_33 rfl ?_
      refine hQ _ _ _ _ _ (Or.inr (Or.inl ⟨_, _, dX3_sumOf_34, rfl, rfl, rfl, rfl⟩)) ⟨?_, rfl⟩
      rfl
    · exfalso
      exact absurd c_2 (nI_nlt (Nat.le_refl _) (by decide))
set_option maxRecDepth 100000 in
set_option maxHeartbeats 4000000 in
theorem ct_X3_sumOf_12 {l : Launch} {D : va_G} {tys : List (ClassId × FieldType)} {cI : ClassId} {h : Nat → Nat} {σ : Nat → Nat → Int32} (hT : tys[0]? = some (cI, .int)) : Cd l D tys yX3_sumOf wsX3_sumOf ({ frames := 0, cells := 0, slots := 0, locals := 0 } : Room) (SW cI h σ) [.ref (h 12)] (some (.int (jSum (σ 12) 6))) (SW cI h σ) := by
  refine Ct.of [some (.ref (h 12)), none, none, none, none, none] (by decide) rfl rfl (Nat.le_of_ble_eq_true rfl) rfl (fun κ C hQ => ?_)
  refine V.iconst C (v := nI 0) dX3_sumOf_0 (by decide) ?_
  refine V.istore_n C dX3_sumOf_1 (by decide) rfl ?_
  dsimp only [List.set, Fin.val]
  refine V.aload_n C dX3_sumOf_2 rfl ?_
  refine V.astore_n C dX3_sumOf_3 (by decide) rfl ?_
  dsimp only [List.set, Fin.val]
  refine V.aload_n C dX3_sumOf_4 rfl ?_
  refine V.alen C (q0 := 12) (t0 := 0) rfl hT dX3_sumOf_5 ?_
  refine V.istore_n C dX3_sumOf_6 (by decide) rfl ?_
  dsimp only [List.set, Fin.val]
  refine V.iconst C (v := nI 0) dX3_sumOf_7 (by decide) ?_
  refine V.istore C dX3_sumOf_8 (by decide) rfl ?_
  dsimp only [List.set]
  refine V.loop (6) (fun k => SW cI h σ) (fun k => [some (.ref (h 12)), some (.int (jSum (σ 12) k)), some (.ref (h 12)), some (.int (nI 6)), some (.int (nI k)), none]) (fun k hk ih_k => ?_) ?_ (rfl) (lsub_s rfl (lsub_s rfl (lsub_s rfl (lsub_s rfl (lsub_s rfl (lsub_n (lsub_e)))))))
  · try dsimp only
    refine V.iload C dX3_sumOf_10 rfl ?_
    refine V.iload_n C dX3_sumOf_12 rfl ?_
    refine V.icmp_ge C (tgt := 33) dX3_sumOf_13 (by decide) (fun c_1 => ?_) (fun c_1 => ?_)
    · exfalso
      exact c_1 (nI_lt hk (by decide))
    · refine V.aload_n C dX3_sumOf_16 rfl ?_
      refine V.iload C dX3_sumOf_17 rfl ?_
      refine V.iald C (q0 := 12) (t0 := 0) rfl hT (rfl) (by omega) (by omega) dX3_sumOf_19 ?_
      refine V.istore C dX3_sumOf_20 (by decide) rfl ?_
      dsimp only [List.set]
      refine V.iload_n C dX3_sumOf_22 rfl ?_
      refine V.iload C dX3_sumOf_23 rfl ?_
      refine V.iadd C dX3_sumOf_25 ?_
      refine V.istore_n C dX3_sumOf_26 (by decide) rfl ?_
      dsimp only [List.set, Fin.val]
      refine V.iinc C (v := nI (k + 1)) dX3_sumOf_27 rfl (nI_inc k) (by decide) rfl ?_
      dsimp only [List.set]
      refine V.goto C (tgt := 10) dX3_sumOf_30 (by decide) ?_
      exact V.sub (M := [some (.ref (h 12)), some (.int (jSum (σ 12) (k + 1))), some (.ref (h 12)), some (.int (nI 6)), some (.int (nI (k + 1))), none]) (lsub_s rfl (lsub_s rfl (lsub_s rfl (lsub_s rfl (lsub_s rfl (lsub_n (lsub_e))))))) ih_k
  · try dsimp only
    refine V.iload C dX3_sumOf_10 rfl ?_
    refine V.iload_n C dX3_sumOf_12 rfl ?_
    refine V.icmp_ge C (tgt := 33) dX3_sumOf_13 (by decide) (fun c_2 => ?_) (fun c_2 => ?_)
    · refine V.iload_n C dX3_sumOf_33 rfl ?_
      refine hQ _ _ _ _ _ (Or.inr (Or.inl ⟨_, _, dX3_sumOf_34, rfl, rfl, rfl, rfl⟩)) ⟨?_, rfl⟩
      rfl
    · exfalso
      exact absurd c_2 (nI_nlt (Nat.le_refl _) (by decide))
set_option maxRecDepth 100000 in
set_option maxHeartbeats 4000000 in
theorem ct_X3_allTargets {l : Launch} {D : va_G} {tys : List (ClassId × FieldType)} {cI : ClassId} {h : Nat → Nat} {σ : Nat → Nat → Int32} (hT : tys[0]? = some (cI, .int)) : Cd l D tys yX3_allTargets wsX3_allTargets ({ frames := 1, cells := 0, slots := 0, locals := 25 } : Room) (SW cI h σ) [.ref (h 2)] (some (.int (jSum (σ 11) 6))) (SW cI h σ) := by
  refine Ct.of [some (.ref (h 2))] (by decide) rfl rfl (Nat.le_of_ble_eq_true rfl) rfl (fun κ C hQ => ?_)
  have iX3 : ∀ z ∈ u_ws RX3 TX3 3, z ∈ wsX3_allTargets := by decide +kernel
  refine V.aload_n C dX3_allTargets_0 rfl ?_
  refine V.get C (q0 := 2) (k := 1) rfl rfl (by decide) iX3 (by decide +kernel) rfl rfl dX3_allTargets_1 ?_
  refine V.callSi C (ct_X3_sumOf_11 hT) gX3_allTargets_X3_sumOf (n := 1) ⟨rfl, by decide, by decide, by decide +kernel⟩ rfl rfl rfl ⟨Nat.le_of_ble_eq_true rfl, Nat.le_of_ble_eq_true rfl⟩ ⟨rfl, rfl, Nat.zero_le _, Nat.zero_le _⟩ (Nat.le_of_ble_eq_true rfl) dX3_allTargets_4 ?_
  refine hQ _ _ _ _ _ (Or.inr (Or.inl ⟨_, _, dX3_allTargets_7, rfl, rfl, rfl, rfl⟩)) ⟨?_, rfl⟩
  rfl
set_option maxRecDepth 100000 in
set_option maxHeartbeats 4000000 in
theorem ct_X3_isOpenWith {l : Launch} {D : va_G} {tys : List (ClassId × FieldType)} {cI : ClassId} {h : Nat → Nat} {σ : Nat → Nat → Int32} (hT : tys[0]? = some (cI, .int)) {c : Nat} {f fa : Int32} (hc : c < 6) : Cd l D tys yX3_isOpenWith wsX3_isOpenWith ({ frames := 1, cells := 0, slots := 0, locals := 25 } : Room) (SW cI h σ) [.ref (h 2), .int (nI c), .int f, .int fa] (some (.int (bI (jOpenW σ c f fa)))) (SW cI h σ) := by
  refine Ct.of [some (.ref (h 2)), some (.int (nI c)), some (.int f), some (.int fa), none] (by decide) rfl rfl (Nat.le_of_ble_eq_true rfl) rfl (fun κ C hQ => ?_)
  have iX3 : ∀ z ∈ u_ws RX3 TX3 3, z ∈ wsX3_isOpenWith := by decide +kernel
  refine V.aload_n C dX3_isOpenWith_0 rfl ?_
  refine V.get C (q0 := 2) (k := 2) rfl rfl (by decide) iX3 (by decide +kernel) rfl rfl dX3_isOpenWith_1 ?_
  refine V.iload_n C dX3_isOpenWith_4 rfl ?_
  refine V.iald C (q0 := 12) (t0 := 0) rfl hT (rfl) (by omega) (by omega) dX3_isOpenWith_5 ?_
  refine V.iload_n C dX3_isOpenWith_6 rfl ?_
  refine V.isub C dX3_isOpenWith_7 ?_
  refine V.istore C dX3_isOpenWith_8 (by decide) rfl ?_
  dsimp only [List.set]
  refine V.iload C dX3_isOpenWith_10 rfl ?_
  refine V.aload_n C dX3_isOpenWith_12 rfl ?_
  refine V.get C (q0 := 2) (k := 1) rfl rfl (by decide) iX3 (by decide +kernel) rfl rfl dX3_isOpenWith_13 ?_
  refine V.iload_n C dX3_isOpenWith_16 rfl ?_
  refine V.iald C (q0 := 11) (t0 := 0) rfl hT (rfl) (by omega) (by omega) dX3_isOpenWith_17 ?_
  refine V.icmp_ge C (tgt := 23) dX3_isOpenWith_18 (by decide) (fun c_1 => ?_) (fun c_1 => ?_)
  · refine V.iload C dX3_isOpenWith_23 rfl ?_
    refine V.aload_n C dX3_isOpenWith_25 rfl ?_
    refine V.get C (q0 := 2) (k := 1) rfl rfl (by decide) iX3 (by decide +kernel) rfl rfl dX3_isOpenWith_26 ?_
    refine V.iload_n C dX3_isOpenWith_29 rfl ?_
    refine V.iald C (q0 := 11) (t0 := 0) rfl hT (rfl) (by omega) (by omega) dX3_isOpenWith_30 ?_
    refine V.aload_n C dX3_isOpenWith_31 rfl ?_
    refine V.get C (q0 := 2) (k := 0) rfl rfl (by decide) iX3 (by decide +kernel) rfl rfl dX3_isOpenWith_32 ?_
    refine V.iadd C dX3_isOpenWith_35 ?_
    refine V.icmp_ge C (tgt := 62) dX3_isOpenWith_36 (by decide) (fun c_2 => ?_) (fun c_2 => ?_)
    · refine V.iconst C (v := nI 0) dX3_isOpenWith_62 (by decide) ?_
      refine hQ _ _ _ _ _ (Or.inr (Or.inl ⟨_, _, dX3_isOpenWith_63, rfl, (by first | rfl | exact nar_bI _), rfl, rfl⟩)) ⟨?_, rfl⟩
      (clear hQ C; (try simp only [bI_0] at *); first | (simp [jOpenW, bI_t2, bI_f2, *]; done) | (simp_all; done))
    · refine V.aload_n C dX3_isOpenWith_39 rfl ?_
      refine V.get C (q0 := 2) (k := 2) rfl rfl (by decide) iX3 (by decide +kernel) rfl rfl dX3_isOpenWith_40 ?_
      refine V.callSi C (ct_X3_sumOf_12 hT) gX3_isOpenWith_X3_sumOf (n := 1) ⟨rfl, by decide, by decide, by decide +kernel⟩ rfl rfl rfl ⟨Nat.le_of_ble_eq_true rfl, Nat.le_of_ble_eq_true rfl⟩ ⟨rfl, rfl, Nat.zero_le _, Nat.zero_le _⟩ (Nat.le_of_ble_eq_true rfl) dX3_isOpenWith_43 ?_
      refine V.iload_n C dX3_isOpenWith_46 rfl ?_
      refine V.isub C dX3_isOpenWith_47 ?_
      refine V.aload_n C dX3_isOpenWith_48 rfl ?_
      refine V.get C (q0 := 2) (k := 1) rfl rfl (by decide) iX3 (by decide +kernel) rfl rfl dX3_isOpenWith_49 ?_
      refine V.callSi C (ct_X3_sumOf_11 hT) gX3_isOpenWith_X3_sumOf (n := 1) ⟨rfl, by decide, by decide, by decide +kernel⟩ rfl rfl rfl ⟨Nat.le_of_ble_eq_true rfl, Nat.le_of_ble_eq_true rfl⟩ ⟨rfl, rfl, Nat.zero_le _, Nat.zero_le _⟩ (Nat.le_of_ble_eq_true rfl) dX3_isOpenWith_52 ?_
      refine V.icmp_ge C (tgt := 62) dX3_isOpenWith_55 (by decide) (fun c_3 => ?_) (fun c_3 => ?_)
      · refine V.iconst C (v := nI 0) dX3_isOpenWith_62 (by decide) ?_
        refine hQ _ _ _ _ _ (Or.inr (Or.inl ⟨_, _, dX3_isOpenWith_63, rfl, (by first | rfl | exact nar_bI _), rfl, rfl⟩)) ⟨?_, rfl⟩
        (clear hQ C; (try simp only [bI_0] at *); first | (simp [jOpenW, bI_t2, bI_f2, *]; done) | (simp_all; done))
      · refine V.iconst C (v := nI 1) dX3_isOpenWith_58 (by decide) ?_
        refine V.goto C (tgt := 63) dX3_isOpenWith_59 (by decide) ?_
        refine hQ _ _ _ _ _ (Or.inr (Or.inl ⟨_, _, dX3_isOpenWith_63, rfl, (by first | rfl | exact nar_bI _), rfl, rfl⟩)) ⟨?_, rfl⟩
        (clear hQ C; (try simp only [bI_0] at *); first | (simp [jOpenW, bI_t2, bI_f2, *]; done) | (simp_all; done))
  · refine V.iconst C (v := nI 1) dX3_isOpenWith_21 (by decide) ?_
    refine hQ _ _ _ _ _ (Or.inr (Or.inl ⟨_, _, dX3_isOpenWith_22, rfl, (by first | rfl | exact nar_bI _), rfl, rfl⟩)) ⟨?_, rfl⟩
    (clear hQ C; (try simp only [bI_0] at *); first | (simp [jOpenW, bI_t2, bI_f2, *]; done) | (simp_all; done))
set_option maxRecDepth 100000 in
set_option maxHeartbeats 4000000 in
theorem ct_X3_isOpen {l : Launch} {D : va_G} {tys : List (ClassId × FieldType)} {cI : ClassId} {h : Nat → Nat} {σ : Nat → Nat → Int32} (hT : tys[0]? = some (cI, .int)) {c : Nat} (hc : c < 6) : Cd l D tys yX3_isOpen wsX3_isOpen ({ frames := 2, cells := 0, slots := 0, locals := 49 } : Room) (SW cI h σ) [.ref (h 2), .int (nI c)] (some (.int (bI (jOpen σ c)))) (SW cI h σ) := by
  refine Ct.of [some (.ref (h 2)), some (.int (nI c))] (by decide) rfl rfl (Nat.le_of_ble_eq_true rfl) rfl (fun κ C hQ => ?_)
  refine V.aload_n C dX3_isOpen_0 rfl ?_
  refine V.iload_n C dX3_isOpen_1 rfl ?_
  refine V.iconst C (v := nI 0) dX3_isOpen_2 (by decide) ?_
  refine V.iconst C (v := nI 0) dX3_isOpen_3 (by decide) ?_
  refine V.callVi C (ct_X3_isOpenWith hT (by omega)) gX3_isOpen_X3_isOpenWith (n := 3) ⟨rfl, by decide, by decide, by decide +kernel⟩ rfl (q0 := 2) rfl rfl rfl rfl ⟨Nat.le_of_ble_eq_true rfl, Nat.le_of_ble_eq_true rfl⟩ ⟨rfl, rfl, Nat.zero_le _, Nat.zero_le _⟩ (Nat.le_of_ble_eq_true rfl) dX3_isOpen_4 ?_
  refine hQ _ _ _ _ _ (Or.inr (Or.inl ⟨_, _, dX3_isOpen_7, rfl, (by first | rfl | exact nar_bI _), rfl, rfl⟩)) ⟨?_, rfl⟩
  rfl
set_option maxRecDepth 100000 in
set_option maxHeartbeats 4000000 in
theorem ct_X3_countOpen {l : Launch} {D : va_G} {tys : List (ClassId × FieldType)} {cI : ClassId} {h : Nat → Nat} {σ : Nat → Nat → Int32} (hT : tys[0]? = some (cI, .int)) : Cd l D tys yX3_countOpen wsX3_countOpen ({ frames := 3, cells := 0, slots := 0, locals := 70 } : Room) (SW cI h σ) [.ref (h 2)] (some (.int (jCnt (jOpen σ) 6))) (SW cI h σ) := by
  refine Ct.of [some (.ref (h 2)), none, none] (by decide) rfl rfl (Nat.le_of_ble_eq_true rfl) rfl (fun κ C hQ => ?_)
  refine V.iconst C (v := nI 0) dX3_countOpen_0 (by decide) ?_
  refine V.istore_n C dX3_countOpen_1 (by decide) rfl ?_
  dsimp only [List.set, Fin.val]
  refine V.iconst C (v := nI 0) dX3_countOpen_2 (by decide) ?_
  refine V.istore_n C dX3_countOpen_3 (by decide) rfl ?_
  dsimp only [List.set, Fin.val]
  refine V.loop (6) (fun k => SW cI h σ) (fun k => [some (.ref (h 2)), some (.int (jCnt (jOpen σ) k)), some (.int (nI k))]) (fun k hk ih_k => ?_) ?_ (rfl) (lsub_s rfl (lsub_s rfl (lsub_s rfl (lsub_e))))
  · try dsimp only
    refine V.iload_n C dX3_countOpen_4 rfl ?_
    refine V.bipush C (v := nI 6) dX3_countOpen_5 (by decide) ?_
    refine V.icmp_ge C (tgt := 27) dX3_countOpen_7 (by decide) (fun c_1 => ?_) (fun c_1 => ?_)
    · exfalso
      exact c_1 (nI_lt hk (by decide))
    · refine V.aload_n C dX3_countOpen_10 rfl ?_
      refine V.iload_n C dX3_countOpen_11 rfl ?_
      refine V.callVi C (ct_X3_isOpen hT (by omega)) gX3_countOpen_X3_isOpen (n := 1) ⟨rfl, by decide, by decide, by decide +kernel⟩ rfl (q0 := 2) rfl rfl rfl rfl ⟨Nat.le_of_ble_eq_true rfl, Nat.le_of_ble_eq_true rfl⟩ ⟨rfl, rfl, Nat.zero_le _, Nat.zero_le _⟩ (Nat.le_of_ble_eq_true rfl) dX3_countOpen_12 ?_
      refine V.if_eq C (tgt := 21) dX3_countOpen_15 (by decide) (fun c_2 => ?_) (fun c_2 => ?_)
      · refine V.iinc C (v := nI (k + 1)) dX3_countOpen_21 rfl (nI_inc k) (by decide) rfl ?_
        dsimp only [List.set]
        refine V.goto C (tgt := 4) dX3_countOpen_24 (by decide) ?_
        exact V.sub (M := [some (.ref (h 2)), some (.int (jCnt (jOpen σ) (k + 1))), some (.int (nI (k + 1)))]) (lsub_s rfl (lsub_si (by (clear hQ C; (try simp only [bI_0] at *); first | (simp [jCnt, bI_t2, bI_f2, *]; done) | (simp_all; done))) rfl (lsub_s rfl (lsub_e)))) ih_k
      · refine V.iinc C dX3_countOpen_18 rfl rfl (by decide) rfl ?_
        dsimp only [List.set]
        refine V.iinc C (v := nI (k + 1)) dX3_countOpen_21 rfl (nI_inc k) (by decide) rfl ?_
        dsimp only [List.set]
        refine V.goto C (tgt := 4) dX3_countOpen_24 (by decide) ?_
        exact V.sub (M := [some (.ref (h 2)), some (.int (jCnt (jOpen σ) (k + 1))), some (.int (nI (k + 1)))]) (lsub_s rfl (lsub_si (by (clear hQ C; (try simp only [bI_0] at *); first | (simp [jCnt, bI_t2, bI_f2, *]; done) | (simp_all; done))) rfl (lsub_s rfl (lsub_e)))) ih_k
  · try dsimp only
    refine V.iload_n C dX3_countOpen_4 rfl ?_
    refine V.bipush C (v := nI 6) dX3_countOpen_5 (by decide) ?_
    refine V.icmp_ge C (tgt := 27) dX3_countOpen_7 (by decide) (fun c_3 => ?_) (fun c_3 => ?_)
    · refine V.iload_n C dX3_countOpen_27 rfl ?_
      refine hQ _ _ _ _ _ (Or.inr (Or.inl ⟨_, _, dX3_countOpen_28, rfl, rfl, rfl, rfl⟩)) ⟨?_, rfl⟩
      rfl
    · exfalso
      exact absurd c_3 (nI_nlt (Nat.le_refl _) (by decide))
