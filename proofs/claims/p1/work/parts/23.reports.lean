set_option maxRecDepth 100000 in
set_option maxHeartbeats 4000000 in
theorem ct_X4_size {l : Launch} {D : va_G} {tys : List (ClassId × FieldType)} {cI : ClassId} {h : Nat → Nat} {σ : Nat → Nat → Int32} : Cd l D tys yX4_size wsX4_size ({ frames := 0, cells := 0, slots := 0, locals := 0 } : Room) (SW cI h σ) [.ref (h 7)] (some (.int (σ 7 0))) (SW cI h σ) := by
  refine Ct.of [some (.ref (h 7))] (by decide) rfl rfl (Nat.le_of_ble_eq_true rfl) rfl (fun κ C hQ => ?_)
  have iX4 : ∀ z ∈ u_ws RX4 TX4 2, z ∈ wsX4_size := by decide +kernel
  refine V.aload_n C dX4_size_0 rfl ?_
  refine V.get C (q0 := 7) (k := 0) rfl rfl (by decide) iX4 (by decide +kernel) rfl rfl dX4_size_1 ?_
  refine hQ _ _ _ _ _ (Or.inr (Or.inl ⟨_, _, dX4_size_4, rfl, rfl, rfl, rfl⟩)) ⟨?_, rfl⟩
  rfl
set_option maxRecDepth 100000 in
set_option maxHeartbeats 4000000 in
theorem ct_X4_add {l : Launch} {D : va_G} {tys : List (ClassId × FieldType)} {cI : ClassId} {h : Nat → Nat} {σ : Nat → Nat → Int32} {n : Nat} (hR : σ 7 0 = nI n) : Cd l D tys yX4_add wsX4_add ({ frames := 0, cells := 0, slots := 0, locals := 0 } : Room) (SW cI h σ) [.ref (h 7)] (some (.int (nI n))) (SW cI h (sW σ 7 0 (nI (n + 1)))) := by
  refine Ct.of [some (.ref (h 7))] (by decide) rfl rfl (Nat.le_of_ble_eq_true rfl) rfl (fun κ C hQ => ?_)
  have iX4 : ∀ z ∈ u_ws RX4 TX4 2, z ∈ wsX4_add := by decide +kernel
  refine V.aload_n C dX4_add_0 rfl ?_
  refine V.dup C dX4_add_1 rfl ?_
  refine V.get C (q0 := 7) (k := 0) rfl rfl (by decide) iX4 (by decide +kernel) rfl rfl dX4_add_2 ?_
  refine V.iconst C (v := nI 1) dX4_add_5 (by decide) ?_
  refine V.iadd C dX4_add_6 ?_
  refine V.topi (y := nI (n + 1)) (by rw [hR]; exact nI_add n 1) ?_
  refine V.put C (q0 := 7) (k := 0) (w' := SW cI h (sW σ 7 0 (nI (n + 1)))) rfl rfl (by decide) iX4 (by decide +kernel) rfl tyX4 tyX4_ok nmX4 rfl rfl rfl rfl (Nat.le_of_ble_eq_true rfl) rfl dX4_add_7 ?_
  refine V.aload_n C dX4_add_10 rfl ?_
  refine V.get C (q0 := 7) (k := 0) rfl rfl (by decide) iX4 (by decide +kernel) rfl rfl dX4_add_11 ?_
  refine V.iconst C (v := nI 1) dX4_add_14 (by decide) ?_
  refine V.isub C dX4_add_15 ?_
  refine V.topi (y := nI n) (by rw [sW_at]; exact nI_sub (a := n + 1) (b := 1) (by omega)) ?_
  refine hQ _ _ _ _ _ (Or.inr (Or.inl ⟨_, _, dX4_add_16, rfl, rfl, rfl, rfl⟩)) ⟨?_, rfl⟩
  rfl
set_option maxRecDepth 100000 in
set_option maxHeartbeats 4000000 in
theorem ct_X4_placeOf {l : Launch} {D : va_G} {tys : List (ClassId × FieldType)} {w : va_W} {r q a : Nat} : Cd l D tys yX4_placeOf wsX4_placeOf ({ frames := 0, cells := 0, slots := 0, locals := 0 } : Room) (w) [.int (nI r), .int (nI q), .int (nI a)] (some (.int (nI (jPlace r q a)))) (w) := by
  refine Ct.of [some (.int (nI r)), some (.int (nI q)), some (.int (nI a))] (by decide) rfl rfl (Nat.le_of_ble_eq_true rfl) rfl (fun κ C hQ => ?_)
  refine V.iload_n C dX4_placeOf_0 rfl ?_
  refine V.bipush C (v := nI 10) dX4_placeOf_1 (by decide) ?_
  refine V.imul C dX4_placeOf_3 ?_
  refine V.iload_n C dX4_placeOf_4 rfl ?_
  refine V.iadd C dX4_placeOf_5 ?_
  refine V.iconst C (v := nI 5) dX4_placeOf_6 (by decide) ?_
  refine V.imul C dX4_placeOf_7 ?_
  refine V.iload_n C dX4_placeOf_8 rfl ?_
  refine V.iadd C dX4_placeOf_9 ?_
  refine hQ _ _ _ _ _ (Or.inr (Or.inl ⟨_, _, dX4_placeOf_10, rfl, rfl, rfl, rfl⟩)) ⟨?_, rfl⟩
  rw [nI_mul, nI_add, nI_mul, nI_add]; rfl
set_option maxRecDepth 100000 in
set_option maxHeartbeats 4000000 in
theorem ct_X4_put {l : Launch} {D : va_G} {tys : List (ClassId × FieldType)} {cI : ClassId} {h : Nat → Nat} {σ : Nat → Nat → Int32} (hT : tys[0]? = some (cI, .int)) {r q a : Nat} {x : Int32} (hr : r < 5) (hq : q < 10) (ha : a < 5) : Cd l D tys yX4_put wsX4_put ({ frames := 1, cells := 0, slots := 0, locals := 22 } : Room) (SW cI h σ) [.ref (h 7), .int (nI r), .int (nI q), .int (nI a), .int x] (none) (SW cI h (sW σ 26 (jPlace r q a) x)) := by
  refine Ct.of [some (.ref (h 7)), some (.int (nI r)), some (.int (nI q)), some (.int (nI a)), some (.int x)] (by decide) rfl rfl (Nat.le_of_ble_eq_true rfl) rfl (fun κ C hQ => ?_)
  have iX4 : ∀ z ∈ u_ws RX4 TX4 2, z ∈ wsX4_put := by decide +kernel
  refine V.aload_n C dX4_put_0 rfl ?_
  refine V.get C (q0 := 7) (k := 1) rfl rfl (by decide) iX4 (by decide +kernel) rfl rfl dX4_put_1 ?_
  refine V.iload_n C dX4_put_4 rfl ?_
  refine V.iload_n C dX4_put_5 rfl ?_
  refine V.iload_n C dX4_put_6 rfl ?_
  refine V.callSi C (ct_X4_placeOf) gX4_put_X4_placeOf (n := 3) ⟨rfl, by decide, by decide, by decide +kernel⟩ rfl rfl rfl ⟨Nat.le_of_ble_eq_true rfl, Nat.le_of_ble_eq_true rfl⟩ ⟨rfl, rfl, Nat.zero_le _, Nat.zero_le _⟩ (Nat.le_of_ble_eq_true rfl) dX4_put_7 ?_
  refine V.iload C dX4_put_10 rfl ?_
  refine V.iast C (q0 := 26) (t0 := 0) (w' := SW cI h (sW σ 26 (jPlace r q a) x)) rfl hT (rfl) (by unfold jPlace; omega) (by omega) rfl dX4_put_12 ?_
  exact hQ _ _ _ _ _ (Or.inl ⟨dX4_put_13, rfl, rfl, rfl⟩) ⟨rfl, rfl⟩
set_option maxRecDepth 100000 in
set_option maxHeartbeats 4000000 in
theorem ct_X4_shareIn {l : Launch} {D : va_G} {tys : List (ClassId × FieldType)} {cI : ClassId} {h : Nat → Nat} {σ : Nat → Nat → Int32} (hT : tys[0]? = some (cI, .int)) {r q a : Nat} (hr : r < 5) (hq : q < 10) (ha : a < 5) : Cd l D tys yX4_shareIn wsX4_shareIn ({ frames := 1, cells := 0, slots := 0, locals := 22 } : Room) (SW cI h σ) [.ref (h 7), .int (nI r), .int (nI q), .int (nI a)] (some (.int (σ 26 (jPlace r q a)))) (SW cI h σ) := by
  refine Ct.of [some (.ref (h 7)), some (.int (nI r)), some (.int (nI q)), some (.int (nI a))] (by decide) rfl rfl (Nat.le_of_ble_eq_true rfl) rfl (fun κ C hQ => ?_)
  have iX4 : ∀ z ∈ u_ws RX4 TX4 2, z ∈ wsX4_shareIn := by decide +kernel
  refine V.aload_n C dX4_shareIn_0 rfl ?_
  refine V.get C (q0 := 7) (k := 1) rfl rfl (by decide) iX4 (by decide +kernel) rfl rfl dX4_shareIn_1 ?_
  refine V.iload_n C dX4_shareIn_4 rfl ?_
  refine V.iload_n C dX4_shareIn_5 rfl ?_
  refine V.iload_n C dX4_shareIn_6 rfl ?_
  refine V.callSi C (ct_X4_placeOf) gX4_shareIn_X4_placeOf (n := 3) ⟨rfl, by decide, by decide, by decide +kernel⟩ rfl rfl rfl ⟨Nat.le_of_ble_eq_true rfl, Nat.le_of_ble_eq_true rfl⟩ ⟨rfl, rfl, Nat.zero_le _, Nat.zero_le _⟩ (Nat.le_of_ble_eq_true rfl) dX4_shareIn_7 ?_
  refine V.iald C (q0 := 26) (t0 := 0) rfl hT (rfl) (by unfold jPlace; omega) (by omega) dX4_shareIn_10 ?_
  refine hQ _ _ _ _ _ (Or.inr (Or.inl ⟨_, _, dX4_shareIn_11, rfl, rfl, rfl, rfl⟩)) ⟨?_, rfl⟩
  rfl
