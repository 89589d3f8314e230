set_option maxRecDepth 100000 in
set_option maxHeartbeats 4000000 in
theorem ct_X1_size {l : Launch} {D : va_G} {tys : List (ClassId × FieldType)} {cI : ClassId} {h : Nat → Nat} {σ : Nat → Nat → Int32} : Cd l D tys yX1_size wsX1_size ({ frames := 0, cells := 0, slots := 0, locals := 0 } : Room) (SW cI h σ) [.ref (h 3)] (some (.int (σ 3 0))) (SW cI h σ) := by
  refine Ct.of [some (.ref (h 3))] (by decide) rfl rfl (Nat.le_of_ble_eq_true rfl) rfl (fun κ C hQ => ?_)
  have iX1 : ∀ z ∈ u_ws RX1 TX1 6, z ∈ wsX1_size := by decide +kernel
  refine V.aload_n C dX1_size_0 rfl ?_
  refine V.get C (q0 := 3) (k := 0) rfl rfl (by decide) iX1 (by decide +kernel) rfl rfl dX1_size_1 ?_
  refine hQ _ _ _ _ _ (Or.inr (Or.inl ⟨_, _, dX1_size_4, rfl, rfl, rfl, rfl⟩)) ⟨?_, rfl⟩
  rfl
set_option maxRecDepth 100000 in
set_option maxHeartbeats 4000000 in
theorem ct_X1_today {l : Launch} {D : va_G} {tys : List (ClassId × FieldType)} {cI : ClassId} {h : Nat → Nat} {σ : Nat → Nat → Int32} : Cd l D tys yX1_today wsX1_today ({ frames := 0, cells := 0, slots := 0, locals := 0 } : Room) (SW cI h σ) [.ref (h 3)] (some (.int (σ 3 1))) (SW cI h σ) := by
  refine Ct.of [some (.ref (h 3))] (by decide) rfl rfl (Nat.le_of_ble_eq_true rfl) rfl (fun κ C hQ => ?_)
  have iX1 : ∀ z ∈ u_ws RX1 TX1 6, z ∈ wsX1_today := by decide +kernel
  refine V.aload_n C dX1_today_0 rfl ?_
  refine V.get C (q0 := 3) (k := 1) rfl rfl (by decide) iX1 (by decide +kernel) rfl rfl dX1_today_1 ?_
  refine hQ _ _ _ _ _ (Or.inr (Or.inl ⟨_, _, dX1_today_4, rfl, rfl, rfl, rfl⟩)) ⟨?_, rfl⟩
  rfl
set_option maxRecDepth 100000 in
set_option maxHeartbeats 4000000 in
theorem ct_X1_add {l : Launch} {D : va_G} {tys : List (ClassId × FieldType)} {cI : ClassId} {h : Nat → Nat} {σ : Nat → Nat → Int32} (hT : tys[0]? = some (cI, .int)) {P : Nat} {c : Int32} (hP : σ 3 0 = nI P) (hP24 : P < 24) : Cd l D tys yX1_add wsX1_add ({ frames := 0, cells := 0, slots := 0, locals := 0 } : Room) (SW cI h σ) [.ref (h 3), .int c] (some (.int (nI P))) (SW cI h (sW (sW (sW σ 13 P c) 16 P (-1)) 3 0 (nI (P + 1)))) := by
  refine Ct.of [some (.ref (h 3)), some (.int c)] (by decide) rfl rfl (Nat.le_of_ble_eq_true rfl) rfl (fun κ C hQ => ?_)
  have iX1 : ∀ z ∈ u_ws RX1 TX1 6, z ∈ wsX1_add := by decide +kernel
  refine V.aload_n C dX1_add_0 rfl ?_
  refine V.get C (q0 := 3) (k := 2) rfl rfl (by decide) iX1 (by decide +kernel) rfl rfl dX1_add_1 ?_
  refine V.aload_n C dX1_add_4 rfl ?_
  refine V.get C (q0 := 3) (k := 0) rfl rfl (by decide) iX1 (by decide +kernel) rfl rfl dX1_add_5 ?_
  refine V.iload_n C dX1_add_8 rfl ?_
  refine V.iast C (q0 := 13) (t0 := 0) (w' := SW cI h (sW σ 13 P c)) rfl hT (hP) (by omega) (by omega) rfl dX1_add_9 ?_
  refine V.aload_n C dX1_add_10 rfl ?_
  refine V.get C (q0 := 3) (k := 5) rfl rfl (by decide) iX1 (by decide +kernel) rfl rfl dX1_add_11 ?_
  refine V.aload_n C dX1_add_14 rfl ?_
  refine V.get C (q0 := 3) (k := 0) rfl rfl (by decide) iX1 (by decide +kernel) rfl rfl dX1_add_15 ?_
  refine V.iconst C (v := (-1)) dX1_add_18 (by decide) ?_
  refine V.iast C (q0 := 16) (t0 := 0) (w' := SW cI h (sW (sW σ 13 P c) 16 P (-1))) rfl hT (hP) (by omega) (by omega) rfl dX1_add_19 ?_
  refine V.aload_n C dX1_add_20 rfl ?_
  refine V.dup C dX1_add_21 rfl ?_
  refine V.get C (q0 := 3) (k := 0) rfl rfl (by decide) iX1 (by decide +kernel) rfl rfl dX1_add_22 ?_
  refine V.iconst C (v := nI 1) dX1_add_25 (by decide) ?_
  refine V.iadd C dX1_add_26 ?_
  refine V.topi (y := nI (P + 1)) (by rw [show sW (sW σ 13 P c) 16 P (-1) 3 0 = σ 3 0 from rfl, hP]; exact nI_add P 1) ?_
  refine V.put C (q0 := 3) (k := 0) (w' := SW cI h (sW (sW (sW σ 13 P c) 16 P (-1)) 3 0 (nI (P + 1)))) rfl rfl (by decide) iX1 (by decide +kernel) rfl tyX1 tyX1_ok nmX1 rfl rfl rfl rfl (Nat.le_of_ble_eq_true rfl) rfl dX1_add_27 ?_
  refine V.aload_n C dX1_add_30 rfl ?_
  refine V.get C (q0 := 3) (k := 0) rfl rfl (by decide) iX1 (by decide +kernel) rfl rfl dX1_add_31 ?_
  refine V.iconst C (v := nI 1) dX1_add_34 (by decide) ?_
  refine V.isub C dX1_add_35 ?_
  refine V.topi (y := nI P) (by rw [sW_at]; exact nI_sub (a := P + 1) (b := 1) (by omega)) ?_
  refine hQ _ _ _ _ _ (Or.inr (Or.inl ⟨_, _, dX1_add_36, rfl, rfl, rfl, rfl⟩)) ⟨?_, rfl⟩
  rfl
set_option maxRecDepth 100000 in
set_option maxHeartbeats 4000000 in
theorem ct_X1_cellOf {l : Launch} {D : va_G} {tys : List (ClassId × FieldType)} {cI : ClassId} {h : Nat → Nat} {σ : Nat → Nat → Int32} (hT : tys[0]? = some (cI, .int)) {j : Nat} (hj : j < 24) : Cd l D tys yX1_cellOf wsX1_cellOf ({ frames := 0, cells := 0, slots := 0, locals := 0 } : Room) (SW cI h σ) [.ref (h 3), .int (nI j)] (some (.int (σ 13 j))) (SW cI h σ) := by
  refine Ct.of [some (.ref (h 3)), some (.int (nI j))] (by decide) rfl rfl (Nat.le_of_ble_eq_true rfl) rfl (fun κ C hQ => ?_)
  have iX1 : ∀ z ∈ u_ws RX1 TX1 6, z ∈ wsX1_cellOf := by decide +kernel
  refine V.aload_n C dX1_cellOf_0 rfl ?_
  refine V.get C (q0 := 3) (k := 2) rfl rfl (by decide) iX1 (by decide +kernel) rfl rfl dX1_cellOf_1 ?_
  refine V.iload_n C dX1_cellOf_4 rfl ?_
  refine V.iald C (q0 := 13) (t0 := 0) rfl hT (rfl) (by omega) (by omega) dX1_cellOf_5 ?_
  refine hQ _ _ _ _ _ (Or.inr (Or.inl ⟨_, _, dX1_cellOf_6, rfl, rfl, rfl, rfl⟩)) ⟨?_, rfl⟩
  rfl
set_option maxRecDepth 100000 in
set_option maxHeartbeats 4000000 in
theorem ct_X1_latestOf {l : Launch} {D : va_G} {tys : List (ClassId × FieldType)} {cI : ClassId} {h : Nat → Nat} {σ : Nat → Nat → Int32} (hT : tys[0]? = some (cI, .int)) {j : Nat} (hj : j < 24) : Cd l D tys yX1_latestOf wsX1_latestOf ({ frames := 0, cells := 0, slots := 0, locals := 0 } : Room) (SW cI h σ) [.ref (h 3), .int (nI j)] (some (.int (σ 16 j))) (SW cI h σ) := by
  refine Ct.of [some (.ref (h 3)), some (.int (nI j))] (by decide) rfl rfl (Nat.le_of_ble_eq_true rfl) rfl (fun κ C hQ => ?_)
  have iX1 : ∀ z ∈ u_ws RX1 TX1 6, z ∈ wsX1_latestOf := by decide +kernel
  refine V.aload_n C dX1_latestOf_0 rfl ?_
  refine V.get C (q0 := 3) (k := 5) rfl rfl (by decide) iX1 (by decide +kernel) rfl rfl dX1_latestOf_1 ?_
  refine V.iload_n C dX1_latestOf_4 rfl ?_
  refine V.iald C (q0 := 16) (t0 := 0) rfl hT (rfl) (by omega) (by omega) dX1_latestOf_5 ?_
  refine hQ _ _ _ _ _ (Or.inr (Or.inl ⟨_, _, dX1_latestOf_6, rfl, rfl, rfl, rfl⟩)) ⟨?_, rfl⟩
  rfl
set_option maxRecDepth 100000 in
set_option maxHeartbeats 4000000 in
theorem ct_X1_pointsOf {l : Launch} {D : va_G} {tys : List (ClassId × FieldType)} {cI : ClassId} {h : Nat → Nat} {σ : Nat → Nat → Int32} (hT : tys[0]? = some (cI, .int)) {j : Nat} (hj : j < 24) : Cd l D tys yX1_pointsOf wsX1_pointsOf ({ frames := 0, cells := 0, slots := 0, locals := 0 } : Room) (SW cI h σ) [.ref (h 3), .int (nI j)] (some (.int (σ 15 j))) (SW cI h σ) := by
  refine Ct.of [some (.ref (h 3)), some (.int (nI j))] (by decide) rfl rfl (Nat.le_of_ble_eq_true rfl) rfl (fun κ C hQ => ?_)
  have iX1 : ∀ z ∈ u_ws RX1 TX1 6, z ∈ wsX1_pointsOf := by decide +kernel
  refine V.aload_n C dX1_pointsOf_0 rfl ?_
  refine V.get C (q0 := 3) (k := 4) rfl rfl (by decide) iX1 (by decide +kernel) rfl rfl dX1_pointsOf_1 ?_
  refine V.iload_n C dX1_pointsOf_4 rfl ?_
  refine V.iald C (q0 := 15) (t0 := 0) rfl hT (rfl) (by omega) (by omega) dX1_pointsOf_5 ?_
  refine hQ _ _ _ _ _ (Or.inr (Or.inl ⟨_, _, dX1_pointsOf_6, rfl, rfl, rfl, rfl⟩)) ⟨?_, rfl⟩
  rfl
set_option maxRecDepth 100000 in
set_option maxHeartbeats 4000000 in
theorem ct_X1_addPoints {l : Launch} {D : va_G} {tys : List (ClassId × FieldType)} {cI : ClassId} {h : Nat → Nat} {σ : Nat → Nat → Int32} (hT : tys[0]? = some (cI, .int)) {j : Nat} {x : Int32} (hj : j < 24) : Cd l D tys yX1_addPoints wsX1_addPoints ({ frames := 0, cells := 0, slots := 0, locals := 0 } : Room) (SW cI h σ) [.ref (h 3), .int (nI j), .int x] (none) (SW cI h (sW σ 15 j (σ 15 j + x))) := by
  refine Ct.of [some (.ref (h 3)), some (.int (nI j)), some (.int x)] (by decide) rfl rfl (Nat.le_of_ble_eq_true rfl) rfl (fun κ C hQ => ?_)
  have iX1 : ∀ z ∈ u_ws RX1 TX1 6, z ∈ wsX1_addPoints := by decide +kernel
  refine V.aload_n C dX1_addPoints_0 rfl ?_
  refine V.get C (q0 := 3) (k := 4) rfl rfl (by decide) iX1 (by decide +kernel) rfl rfl dX1_addPoints_1 ?_
  refine V.iload_n C dX1_addPoints_4 rfl ?_
  refine V.dup2 C dX1_addPoints_5 rfl rfl ?_
  refine V.iald C (q0 := 15) (t0 := 0) rfl hT (rfl) (by omega) (by omega) dX1_addPoints_6 ?_
  refine V.iload_n C dX1_addPoints_7 rfl ?_
  refine V.iadd C dX1_addPoints_8 ?_
  refine V.iast C (q0 := 15) (t0 := 0) (w' := SW cI h (sW σ 15 j (σ 15 j + x))) rfl hT (rfl) (by omega) (by omega) rfl dX1_addPoints_9 ?_
  exact hQ _ _ _ _ _ (Or.inl ⟨dX1_addPoints_10, rfl, rfl, rfl⟩) ⟨rfl, rfl⟩
set_option maxRecDepth 100000 in
set_option maxHeartbeats 4000000 in
theorem ct_X1_allPoints {l : Launch} {D : va_G} {tys : List (ClassId × FieldType)} {cI : ClassId} {h : Nat → Nat} {σ : Nat → Nat → Int32} (hT : tys[0]? = some (cI, .int)) {P : Nat} (hP : σ 3 0 = nI P) (hP24 : P ≤ 24) : Cd l D tys yX1_allPoints wsX1_allPoints ({ frames := 0, cells := 0, slots := 0, locals := 0 } : Room) (SW cI h σ) [.ref (h 3)] (some (.int (jSum (σ 15) P))) (SW cI h σ) := by
  refine Ct.of [some (.ref (h 3)), none, none] (by decide) rfl rfl (Nat.le_of_ble_eq_true rfl) rfl (fun κ C hQ => ?_)
  have iX1 : ∀ z ∈ u_ws RX1 TX1 6, z ∈ wsX1_allPoints := by decide +kernel
  refine V.iconst C (v := nI 0) dX1_allPoints_0 (by decide) ?_
  refine V.istore_n C dX1_allPoints_1 (by decide) rfl ?_
  dsimp only [List.set, Fin.val]
  refine V.iconst C (v := nI 0) dX1_allPoints_2 (by decide) ?_
  refine V.istore_n C dX1_allPoints_3 (by decide) rfl ?_
  dsimp only [List.set, Fin.val]
  refine V.loop (P) (fun k => SW cI h σ) (fun k => [some (.ref (h 3)), some (.int (jSum (σ 15) k)), some (.int (nI k))]) (fun k hk ih_k => ?_) ?_ (rfl) (lsub_s rfl (lsub_s rfl (lsub_s rfl (lsub_e))))
  · try dsimp only
    refine V.iload_n C dX1_allPoints_4 rfl ?_
    refine V.aload_n C dX1_allPoints_5 rfl ?_
    refine V.get C (q0 := 3) (k := 0) rfl rfl (by decide) iX1 (by decide +kernel) rfl rfl dX1_allPoints_6 ?_
    refine V.topi (hP) ?_
    refine V.icmp_ge C (tgt := 27) dX1_allPoints_9 (by decide) (fun c_1 => ?_) (fun c_1 => ?_)
    · exfalso
      exact c_1 (nI_lt hk (by omega))
    · refine V.iload_n C dX1_allPoints_12 rfl ?_
      refine V.aload_n C dX1_allPoints_13 rfl ?_
      refine V.get C (q0 := 3) (k := 4) rfl rfl (by decide) iX1 (by decide +kernel) rfl rfl dX1_allPoints_14 ?_
      refine V.iload_n C dX1_allPoints_17 rfl ?_
      refine V.iald C (q0 := 15) (t0 := 0) rfl hT (rfl) (by omega) (by omega) dX1_allPoints_18 ?_
      refine V.iadd C dX1_allPoints_19 ?_
      refine V.istore_n C dX1_allPoints_20 (by decide) rfl ?_
      dsimp only [List.set, Fin.val]
      refine V.iinc C (v := nI (k + 1)) dX1_allPoints_21 rfl (nI_inc k) (by decide) rfl ?_
      dsimp only [List.set]
      refine V.goto C (tgt := 4) dX1_allPoints_24 (by decide) ?_
      exact V.sub (M := [some (.ref (h 3)), some (.int (jSum (σ 15) (k + 1))), some (.int (nI (k + 1)))]) (lsub_s rfl (lsub_s rfl (lsub_s rfl (lsub_e)))) ih_k
  · try dsimp only
    refine V.iload_n C dX1_allPoints_4 rfl ?_
    refine V.aload_n C dX1_allPoints_5 rfl ?_
    refine V.get C (q0 := 3) (k := 0) rfl rfl (by decide) iX1 (by decide +kernel) rfl rfl dX1_allPoints_6 ?_
    refine V.topi (hP) ?_
    refine V.icmp_ge C (tgt := 27) dX1_allPoints_9 (by decide) (fun c_2 => ?_) (fun c_2 => ?_)
    · refine V.iload_n C dX1_allPoints_27 rfl ?_
      refine hQ _ _ _ _ _ (Or.inr (Or.inl ⟨_, _, dX1_allPoints_28, rfl, rfl, rfl, rfl⟩)) ⟨?_, rfl⟩
      rfl
    · exfalso
      exact absurd c_2 (nI_nlt (Nat.le_refl _) (by omega))
set_option maxRecDepth 100000 in
set_option maxHeartbeats 4000000 in
theorem ct_X1_countOf {l : Launch} {D : va_G} {tys : List (ClassId × FieldType)} {cI : ClassId} {h : Nat → Nat} {σ : Nat → Nat → Int32} (hT : tys[0]? = some (cI, .int)) {x : Int32} {P : Nat} (hP : σ 3 0 = nI P) (hP24 : P ≤ 24) : Cd l D tys yX1_countOf wsX1_countOf ({ frames := 0, cells := 0, slots := 0, locals := 0 } : Room) (SW cI h σ) [.ref (h 3), .int x] (some (.int (jCnt (fun i => decide (σ 13 i = x)) P))) (SW cI h σ) := by
  refine Ct.of [some (.ref (h 3)), some (.int x), none, none] (by decide) rfl rfl (Nat.le_of_ble_eq_true rfl) rfl (fun κ C hQ => ?_)
  have iX1 : ∀ z ∈ u_ws RX1 TX1 6, z ∈ wsX1_countOf := by decide +kernel
  refine V.iconst C (v := nI 0) dX1_countOf_0 (by decide) ?_
  refine V.istore_n C dX1_countOf_1 (by decide) rfl ?_
  dsimp only [List.set, Fin.val]
  refine V.iconst C (v := nI 0) dX1_countOf_2 (by decide) ?_
  refine V.istore_n C dX1_countOf_3 (by decide) rfl ?_
  dsimp only [List.set, Fin.val]
  refine V.loop (P) (fun k => SW cI h σ) (fun k => [some (.ref (h 3)), some (.int x), some (.int (jCnt (fun i => decide (σ 13 i = x)) k)), some (.int (nI k))]) (fun k hk ih_k => ?_) ?_ (rfl) (lsub_s rfl (lsub_s rfl (lsub_s rfl (lsub_s rfl (lsub_e)))))
  · try dsimp only
    refine V.iload_n C dX1_countOf_4 rfl ?_
    refine V.aload_n C dX1_countOf_5 rfl ?_
    refine V.get C (q0 := 3) (k := 0) rfl rfl (by decide) iX1 (by decide +kernel) rfl rfl dX1_countOf_6 ?_
    refine V.topi (hP) ?_
    refine V.icmp_ge C (tgt := 31) dX1_countOf_9 (by decide) (fun c_1 => ?_) (fun c_1 => ?_)
    · exfalso
      exact c_1 (nI_lt hk (by omega))
    · refine V.aload_n C dX1_countOf_12 rfl ?_
      refine V.get C (q0 := 3) (k := 2) rfl rfl (by decide) iX1 (by decide +kernel) rfl rfl dX1_countOf_13 ?_
      refine V.iload_n C dX1_countOf_16 rfl ?_
      refine V.iald C (q0 := 13) (t0 := 0) rfl hT (rfl) (by omega) (by omega) dX1_countOf_17 ?_
      refine V.iload_n C dX1_countOf_18 rfl ?_
      refine V.icmp_ne C (tgt := 25) dX1_countOf_19 (by decide) (fun c_2 => ?_) (fun c_2 => ?_)
      · refine V.iinc C (v := nI (k + 1)) dX1_countOf_25 rfl (nI_inc k) (by decide) rfl ?_
        dsimp only [List.set]
        refine V.goto C (tgt := 4) dX1_countOf_28 (by decide) ?_
        exact V.sub (M := [some (.ref (h 3)), some (.int x), some (.int (jCnt (fun i => decide (σ 13 i = x)) (k + 1))), some (.int (nI (k + 1)))]) (lsub_s rfl (lsub_s rfl (lsub_si (by (clear hQ C; (try simp only [bI_0] at *); first | (simp [jCnt, bI_t2, bI_f2, *]; done) | (simp_all; done))) rfl (lsub_s rfl (lsub_e))))) ih_k
      · refine V.iinc C dX1_countOf_22 rfl rfl (by decide) rfl ?_
        dsimp only [List.set]
        refine V.iinc C (v := nI (k + 1)) dX1_countOf_25 rfl (nI_inc k) (by decide) rfl ?_
        dsimp only [List.set]
        refine V.goto C (tgt := 4) dX1_countOf_28 (by decide) ?_
        exact V.sub (M := [some (.ref (h 3)), some (.int x), some (.int (jCnt (fun i => decide (σ 13 i = x)) (k + 1))), some (.int (nI (k + 1)))]) (lsub_s rfl (lsub_s rfl (lsub_si (by (clear hQ C; (try simp only [bI_0] at *); first | (simp [jCnt, bI_t2, bI_f2, *]; done) | (simp_all; done))) rfl (lsub_s rfl (lsub_e))))) ih_k
  · try dsimp only
    refine V.iload_n C dX1_countOf_4 rfl ?_
    refine V.aload_n C dX1_countOf_5 rfl ?_
    refine V.get C (q0 := 3) (k := 0) rfl rfl (by decide) iX1 (by decide +kernel) rfl rfl dX1_countOf_6 ?_
    refine V.topi (hP) ?_
    refine V.icmp_ge C (tgt := 31) dX1_countOf_9 (by decide) (fun c_3 => ?_) (fun c_3 => ?_)
    · refine V.iload_n C dX1_countOf_31 rfl ?_
      refine hQ _ _ _ _ _ (Or.inr (Or.inl ⟨_, _, dX1_countOf_32, rfl, rfl, rfl, rfl⟩)) ⟨?_, rfl⟩
      rfl
    · exfalso
      exact absurd c_3 (nI_nlt (Nat.le_refl _) (by omega))
set_option maxRecDepth 100000 in
set_option maxHeartbeats 4000000 in
theorem ct_X1_fatigueIn {l : Launch} {D : va_G} {tys : List (ClassId × FieldType)} {cI : ClassId} {h : Nat → Nat} {σ : Nat → Nat → Int32} (hT : tys[0]? = some (cI, .int)) {j : Nat} {d : Int32} (hj : j < 24) : Cd l D tys yX1_fatigueIn wsX1_fatigueIn ({ frames := 1, cells := 0, slots := 0, locals := 21 } : Room) (SW cI h σ) [.ref (h 3), .int (nI j), .int d] (some (.int (jFat σ j d))) (SW cI h σ) := by
  refine Ct.of [some (.ref (h 3)), some (.int (nI j)), some (.int d)] (by decide) rfl rfl (Nat.le_of_ble_eq_true rfl) rfl (fun κ C hQ => ?_)
  have iX1 : ∀ z ∈ u_ws RX1 TX1 6, z ∈ wsX1_fatigueIn := by decide +kernel
  refine V.iconst C (v := nI 0) dX1_fatigueIn_0 (by decide) ?_
  refine V.aload_n C dX1_fatigueIn_1 rfl ?_
  refine V.get C (q0 := 3) (k := 3) rfl rfl (by decide) iX1 (by decide +kernel) rfl rfl dX1_fatigueIn_2 ?_
  refine V.iload_n C dX1_fatigueIn_5 rfl ?_
  refine V.iald C (q0 := 14) (t0 := 0) rfl hT (rfl) (by omega) (by omega) dX1_fatigueIn_6 ?_
  refine V.iload_n C dX1_fatigueIn_7 rfl ?_
  refine V.isub C dX1_fatigueIn_8 ?_
  refine V.mmax C (by decide +kernel) (by decide +kernel) (by decide +kernel) (by decide +kernel) (by decide) (Nat.le_of_ble_eq_true rfl) (Nat.zero_le _) (Nat.zero_le _) dX1_fatigueIn_9 ?_
  refine hQ _ _ _ _ _ (Or.inr (Or.inl ⟨_, _, dX1_fatigueIn_12, rfl, rfl, rfl, rfl⟩)) ⟨?_, rfl⟩
  rfl
set_option maxRecDepth 100000 in
set_option maxHeartbeats 4000000 in
theorem ct_X1_ask {l : Launch} {D : va_G} {tys : List (ClassId × FieldType)} {cI : ClassId} {h : Nat → Nat} {σ : Nat → Nat → Int32} (hT : tys[0]? = some (cI, .int)) {j : Nat} {i : Int32} (hj : j < 24) : Cd l D tys yX1_ask wsX1_ask ({ frames := 1, cells := 0, slots := 0, locals := 21 } : Room) (SW cI h σ) [.ref (h 3), .int (nI j), .int i] (none) (SW cI h (jAsk σ j i)) := by
  refine Ct.of [some (.ref (h 3)), some (.int (nI j)), some (.int i)] (by decide) rfl rfl (Nat.le_of_ble_eq_true rfl) rfl (fun κ C hQ => ?_)
  have iX1 : ∀ z ∈ u_ws RX1 TX1 6, z ∈ wsX1_ask := by decide +kernel
  refine V.aload_n C dX1_ask_0 rfl ?_
  refine V.get C (q0 := 3) (k := 3) rfl rfl (by decide) iX1 (by decide +kernel) rfl rfl dX1_ask_1 ?_
  refine V.iload_n C dX1_ask_4 rfl ?_
  refine V.bipush C (v := nI 9) dX1_ask_5 (by decide) ?_
  refine V.aload_n C dX1_ask_7 rfl ?_
  refine V.get C (q0 := 3) (k := 3) rfl rfl (by decide) iX1 (by decide +kernel) rfl rfl dX1_ask_8 ?_
  refine V.iload_n C dX1_ask_11 rfl ?_
  refine V.iald C (q0 := 14) (t0 := 0) rfl hT (rfl) (by omega) (by omega) dX1_ask_12 ?_
  refine V.iconst C (v := nI 2) dX1_ask_13 (by decide) ?_
  refine V.iadd C dX1_ask_14 ?_
  refine V.mmin C (by decide +kernel) (by decide +kernel) (by decide +kernel) (by decide +kernel) (by decide) (Nat.le_of_ble_eq_true rfl) (Nat.zero_le _) (Nat.zero_le _) dX1_ask_15 ?_
  refine V.iast C (q0 := 14) (t0 := 0) (w' := SW cI h (sW σ 14 j (if σ 14 j + nI 2 < nI 9 then σ 14 j + nI 2 else nI 9))) rfl hT (rfl) (by omega) (by omega) rfl dX1_ask_18 ?_
  refine V.aload_n C dX1_ask_19 rfl ?_
  refine V.get C (q0 := 3) (k := 5) rfl rfl (by decide) iX1 (by decide +kernel) rfl rfl dX1_ask_20 ?_
  refine V.iload_n C dX1_ask_23 rfl ?_
  refine V.iload_n C dX1_ask_24 rfl ?_
  refine V.iast C (q0 := 16) (t0 := 0) (w' := SW cI h (jAsk σ j i)) rfl hT (rfl) (by omega) (by omega) rfl dX1_ask_25 ?_
  exact hQ _ _ _ _ _ (Or.inl ⟨dX1_ask_26, rfl, rfl, rfl⟩) ⟨rfl, rfl⟩
set_option maxRecDepth 100000 in
set_option maxHeartbeats 4000000 in
theorem ct_X1_beginDay {l : Launch} {D : va_G} {tys : List (ClassId × FieldType)} {cI : ClassId} {h : Nat → Nat} {σ : Nat → Nat → Int32} (hT : tys[0]? = some (cI, .int)) {P : Nat} (hP : σ 3 0 = nI P) (hP24 : P ≤ 24) : Cd l D tys yX1_beginDay wsX1_beginDay ({ frames := 2, cells := 0, slots := 0, locals := 43 } : Room) (SW cI h σ) [.ref (h 3)] (some (.int (σ 3 1 + nI 1))) (SW cI h (jDay σ P)) := by
  refine Ct.of [some (.ref (h 3)), none] (by decide) rfl rfl (Nat.le_of_ble_eq_true rfl) rfl (fun κ C hQ => ?_)
  have iX1 : ∀ z ∈ u_ws RX1 TX1 6, z ∈ wsX1_beginDay := by decide +kernel
  refine V.iconst C (v := nI 0) dX1_beginDay_0 (by decide) ?_
  refine V.istore_n C dX1_beginDay_1 (by decide) rfl ?_
  dsimp only [List.set, Fin.val]
  refine V.loop (P) (fun k => SW cI h (jDayF σ k)) (fun k => [some (.ref (h 3)), some (.int (nI k))]) (fun k hk ih_k => ?_) ?_ (rfl) (lsub_s rfl (lsub_s rfl (lsub_e)))
  · try dsimp only
    refine V.iload_n C dX1_beginDay_2 rfl ?_
    refine V.aload_n C dX1_beginDay_3 rfl ?_
    refine V.get C (q0 := 3) (k := 0) rfl rfl (by decide) iX1 (by decide +kernel) rfl rfl dX1_beginDay_4 ?_
    refine V.topi ((congrFun (jDayF_3 σ _) 0).trans hP) ?_
    refine V.icmp_ge C (tgt := 28) dX1_beginDay_7 (by decide) (fun c_1 => ?_) (fun c_1 => ?_)
    · exfalso
      exact c_1 (nI_lt hk (by omega))
    · refine V.aload_n C dX1_beginDay_10 rfl ?_
      refine V.get C (q0 := 3) (k := 3) rfl rfl (by decide) iX1 (by decide +kernel) rfl rfl dX1_beginDay_11 ?_
      refine V.iload_n C dX1_beginDay_14 rfl ?_
      refine V.aload_n C dX1_beginDay_15 rfl ?_
      refine V.iload_n C dX1_beginDay_16 rfl ?_
      refine V.iconst C (v := nI 1) dX1_beginDay_17 (by decide) ?_
      refine V.callVi C (ct_X1_fatigueIn hT (by omega)) gX1_beginDay_X1_fatigueIn (n := 2) ⟨rfl, by decide, by decide, by decide +kernel⟩ rfl (q0 := 3) rfl rfl rfl rfl ⟨Nat.le_of_ble_eq_true rfl, Nat.le_of_ble_eq_true rfl⟩ ⟨rfl, rfl, Nat.zero_le _, Nat.zero_le _⟩ (Nat.le_of_ble_eq_true rfl) dX1_beginDay_18 ?_
      refine V.iast C (q0 := 14) (t0 := 0) (w' := SW cI h (jDayF σ (k + 1))) rfl hT (rfl) (by omega) (by omega) rfl dX1_beginDay_21 ?_
      refine V.iinc C (v := nI (k + 1)) dX1_beginDay_22 rfl (nI_inc k) (by decide) rfl ?_
      dsimp only [List.set]
      refine V.goto C (tgt := 2) dX1_beginDay_25 (by decide) ?_
      refine V.world (w' := SW cI h (jDayF σ (k + 1))) (rfl) ?_
      exact V.sub (M := [some (.ref (h 3)), some (.int (nI (k + 1)))]) (lsub_s rfl (lsub_s rfl (lsub_e))) ih_k
  · try dsimp only
    refine V.iload_n C dX1_beginDay_2 rfl ?_
    refine V.aload_n C dX1_beginDay_3 rfl ?_
    refine V.get C (q0 := 3) (k := 0) rfl rfl (by decide) iX1 (by decide +kernel) rfl rfl dX1_beginDay_4 ?_
    refine V.topi ((congrFun (jDayF_3 σ _) 0).trans hP) ?_
    refine V.icmp_ge C (tgt := 28) dX1_beginDay_7 (by decide) (fun c_2 => ?_) (fun c_2 => ?_)
    · refine V.aload_n C dX1_beginDay_28 rfl ?_
      refine V.dup C dX1_beginDay_29 rfl ?_
      refine V.get C (q0 := 3) (k := 1) rfl rfl (by decide) iX1 (by decide +kernel) rfl rfl dX1_beginDay_30 ?_
      refine V.iconst C (v := nI 1) dX1_beginDay_33 (by decide) ?_
      refine V.iadd C dX1_beginDay_34 ?_
      refine V.put C (q0 := 3) (k := 1) (w' := SW cI h (jDay σ P)) rfl rfl (by decide) iX1 (by decide +kernel) rfl tyX1 tyX1_ok nmX1 rfl rfl rfl rfl (Nat.le_of_ble_eq_true rfl) rfl dX1_beginDay_35 ?_
      refine V.aload_n C dX1_beginDay_38 rfl ?_
      refine V.get C (q0 := 3) (k := 1) rfl rfl (by decide) iX1 (by decide +kernel) rfl rfl dX1_beginDay_39 ?_
      refine hQ _ _ _ _ _ (Or.inr (Or.inl ⟨_, _, dX1_beginDay_42, rfl, rfl, rfl, rfl⟩)) ⟨?_, rfl⟩
      rw [show jDay σ P 3 1 = jDayF σ P 3 1 + nI 1 from sW_at _ _ _ _, jDayF_3 σ P]
    · exfalso
      exact absurd c_2 (nI_nlt (Nat.le_refl _) (by omega))
