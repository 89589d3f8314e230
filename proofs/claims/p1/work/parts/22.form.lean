set_option maxRecDepth 100000 in
set_option maxHeartbeats 4000000 in
theorem ct_X2_size {l : Launch} {D : va_G} {tys : List (ClassId × FieldType)} {cI : ClassId} {h : Nat → Nat} {σ : Nat → Nat → Int32} : Cd l D tys yX2_size wsX2_size ({ frames := 0, cells := 0, slots := 0, locals := 0 } : Room) (SW cI h σ) [.ref (h 1)] (some (.int (σ 1 0))) (SW cI h σ) := by
  refine Ct.of [some (.ref (h 1))] (by decide) rfl rfl (Nat.le_of_ble_eq_true rfl) rfl (fun κ C hQ => ?_)
  have iX2 : ∀ z ∈ u_ws RX2 TX2 5, z ∈ wsX2_size := by decide +kernel
  refine V.aload_n C dX2_size_0 rfl ?_
  refine V.get C (q0 := 1) (k := 0) rfl rfl (by decide) iX2 (by decide +kernel) rfl rfl dX2_size_1 ?_
  refine hQ _ _ _ _ _ (Or.inr (Or.inl ⟨_, _, dX2_size_4, rfl, rfl, rfl, rfl⟩)) ⟨?_, rfl⟩
  rfl
set_option maxRecDepth 100000 in
set_option maxHeartbeats 4000000 in
theorem ct_X2_rotation {l : Launch} {D : va_G} {tys : List (ClassId × FieldType)} {cI : ClassId} {h : Nat → Nat} {σ : Nat → Nat → Int32} : Cd l D tys yX2_rotation wsX2_rotation ({ frames := 0, cells := 0, slots := 0, locals := 0 } : Room) (SW cI h σ) [.ref (h 1)] (some (.int (σ 1 1))) (SW cI h σ) := by
  refine Ct.of [some (.ref (h 1))] (by decide) rfl rfl (Nat.le_of_ble_eq_true rfl) rfl (fun κ C hQ => ?_)
  have iX2 : ∀ z ∈ u_ws RX2 TX2 5, z ∈ wsX2_rotation := by decide +kernel
  refine V.aload_n C dX2_rotation_0 rfl ?_
  refine V.get C (q0 := 1) (k := 1) rfl rfl (by decide) iX2 (by decide +kernel) rfl rfl dX2_rotation_1 ?_
  refine hQ _ _ _ _ _ (Or.inr (Or.inl ⟨_, _, dX2_rotation_4, rfl, rfl, rfl, rfl⟩)) ⟨?_, rfl⟩
  rfl
set_option maxRecDepth 100000 in
set_option maxHeartbeats 4000000 in
theorem ct_X2_setRotation {l : Launch} {D : va_G} {tys : List (ClassId × FieldType)} {cI : ClassId} {h : Nat → Nat} {σ : Nat → Nat → Int32} {x : Int32} : Cd l D tys yX2_setRotation wsX2_setRotation ({ frames := 0, cells := 0, slots := 0, locals := 0 } : Room) (SW cI h σ) [.ref (h 1), .int x] (none) (SW cI h (sW σ 1 1 x)) := by
  refine Ct.of [some (.ref (h 1)), some (.int x)] (by decide) rfl rfl (Nat.le_of_ble_eq_true rfl) rfl (fun κ C hQ => ?_)
  have iX2 : ∀ z ∈ u_ws RX2 TX2 5, z ∈ wsX2_setRotation := by decide +kernel
  refine V.aload_n C dX2_setRotation_0 rfl ?_
  refine V.iload_n C dX2_setRotation_1 rfl ?_
  refine V.put C (q0 := 1) (k := 1) (w' := SW cI h (sW σ 1 1 x)) rfl rfl (by decide) iX2 (by decide +kernel) rfl tyX2 tyX2_ok nmX2 rfl rfl rfl rfl (Nat.le_of_ble_eq_true rfl) rfl dX2_setRotation_2 ?_
  exact hQ _ _ _ _ _ (Or.inl ⟨dX2_setRotation_5, rfl, rfl, rfl⟩) ⟨rfl, rfl⟩
set_option maxRecDepth 100000 in
set_option maxHeartbeats 4000000 in
theorem ct_X2_has {l : Launch} {D : va_G} {tys : List (ClassId × FieldType)} {cI : ClassId} {h : Nat → Nat} {σ : Nat → Nat → Int32} {q : Int32} : Cd l D tys yX2_has wsX2_has ({ frames := 0, cells := 0, slots := 0, locals := 0 } : Room) (SW cI h σ) [.ref (h 1), .int q] (some (.int (bI (jHas σ q)))) (SW cI h σ) := by
  refine Ct.of [some (.ref (h 1)), some (.int q)] (by decide) rfl rfl (Nat.le_of_ble_eq_true rfl) rfl (fun κ C hQ => ?_)
  have iX2 : ∀ z ∈ u_ws RX2 TX2 5, z ∈ wsX2_has := by decide +kernel
  refine V.iload_n C dX2_has_0 rfl ?_
  refine V.if_lt C (tgt := 16) dX2_has_1 (by decide) (fun c_1 => ?_) (fun c_1 => ?_)
  · refine V.iconst C (v := nI 0) dX2_has_16 (by decide) ?_
    refine hQ _ _ _ _ _ (Or.inr (Or.inl ⟨_, _, dX2_has_17, rfl, (by first | rfl | exact nar_bI _), rfl, rfl⟩)) ⟨?_, rfl⟩
    (clear hQ C; (try simp only [bI_0] at *); first | (simp [jHas, bI_t2, bI_f2, *]; done) | (simp_all; done))
  · refine V.iload_n C dX2_has_4 rfl ?_
    refine V.aload_n C dX2_has_5 rfl ?_
    refine V.get C (q0 := 1) (k := 0) rfl rfl (by decide) iX2 (by decide +kernel) rfl rfl dX2_has_6 ?_
    refine V.icmp_ge C (tgt := 16) dX2_has_9 (by decide) (fun c_2 => ?_) (fun c_2 => ?_)
    · refine V.iconst C (v := nI 0) dX2_has_16 (by decide) ?_
      refine hQ _ _ _ _ _ (Or.inr (Or.inl ⟨_, _, dX2_has_17, rfl, (by first | rfl | exact nar_bI _), rfl, rfl⟩)) ⟨?_, rfl⟩
      (clear hQ C; (try simp only [bI_0] at *); first | (simp [jHas, bI_t2, bI_f2, *]; done) | (simp_all; done))
    · refine V.iconst C (v := nI 1) dX2_has_12 (by decide) ?_
      refine V.goto C (tgt := 17) dX2_has_13 (by decide) ?_
      refine hQ _ _ _ _ _ (Or.inr (Or.inl ⟨_, _, dX2_has_17, rfl, (by first | rfl | exact nar_bI _), rfl, rfl⟩)) ⟨?_, rfl⟩
      (clear hQ C; (try simp only [bI_0] at *); first | (simp [jHas, bI_t2, bI_f2, *]; done) | (simp_all; done))
set_option maxRecDepth 100000 in
set_option maxHeartbeats 4000000 in
theorem ct_X2_offers {l : Launch} {D : va_G} {tys : List (ClassId × FieldType)} {cI : ClassId} {h : Nat → Nat} {σ : Nat → Nat → Int32} (hT : tys[0]? = some (cI, .int)) {q a : Int32} {j : Nat} (hq : jHas σ q = true → q = nI j ∧ j < 10) : Cd l D tys yX2_offers wsX2_offers ({ frames := 1, cells := 0, slots := 0, locals := 21 } : Room) (SW cI h σ) [.ref (h 1), .int q, .int a] (some (.int (bI (jHas σ q && !decide (a < 0) && decide (a < σ 8 j))))) (SW cI h σ) := by
  refine Ct.of [some (.ref (h 1)), some (.int q), some (.int a)] (by decide) rfl rfl (Nat.le_of_ble_eq_true rfl) rfl (fun κ C hQ => ?_)
  have iX2 : ∀ z ∈ u_ws RX2 TX2 5, z ∈ wsX2_offers := by decide +kernel
  refine V.aload_n C dX2_offers_0 rfl ?_
  refine V.iload_n C dX2_offers_1 rfl ?_
  refine V.callVi C (ct_X2_has) gX2_offers_X2_has (n := 1) ⟨rfl, by decide, by decide, by decide +kernel⟩ rfl (q0 := 1) rfl rfl rfl rfl ⟨Nat.le_of_ble_eq_true rfl, Nat.le_of_ble_eq_true rfl⟩ ⟨rfl, rfl, Nat.zero_le _, Nat.zero_le _⟩ (Nat.le_of_ble_eq_true rfl) dX2_offers_2 ?_
  refine V.if_eq C (tgt := 26) dX2_offers_5 (by decide) (fun c_1 => ?_) (fun c_1 => ?_)
  · refine V.iconst C (v := nI 0) dX2_offers_26 (by decide) ?_
    refine hQ _ _ _ _ _ (Or.inr (Or.inl ⟨_, _, dX2_offers_27, rfl, (by first | rfl | exact nar_bI _), rfl, rfl⟩)) ⟨?_, rfl⟩
    (clear hQ C; (try simp only [bI_0] at *); first | (simp [bI_t2, bI_f2, *]; done) | (simp_all; done))
  · refine V.iload_n C dX2_offers_8 rfl ?_
    refine V.if_lt C (tgt := 26) dX2_offers_9 (by decide) (fun c_2 => ?_) (fun c_2 => ?_)
    · refine V.iconst C (v := nI 0) dX2_offers_26 (by decide) ?_
      refine hQ _ _ _ _ _ (Or.inr (Or.inl ⟨_, _, dX2_offers_27, rfl, (by first | rfl | exact nar_bI _), rfl, rfl⟩)) ⟨?_, rfl⟩
      (clear hQ C; (try simp only [bI_0] at *); first | (simp [bI_t2, bI_f2, *]; done) | (simp_all; done))
    · refine V.iload_n C dX2_offers_12 rfl ?_
      refine V.aload_n C dX2_offers_13 rfl ?_
      refine V.get C (q0 := 1) (k := 2) rfl rfl (by decide) iX2 (by decide +kernel) rfl rfl dX2_offers_14 ?_
      refine V.iload_n C dX2_offers_17 rfl ?_
      refine V.iald C (q0 := 8) (t0 := 0) rfl hT ((hq (by (clear hQ C; (try simp only [bI_0] at *); first | (simp [bI_t2, bI_f2, *]; done) | (simp_all; done)))).1) ((hq (by (clear hQ C; (try simp only [bI_0] at *); first | (simp [bI_t2, bI_f2, *]; done) | (simp_all; done)))).2) (by omega) dX2_offers_18 ?_
      refine V.icmp_ge C (tgt := 26) dX2_offers_19 (by decide) (fun c_3 => ?_) (fun c_3 => ?_)
      · refine V.iconst C (v := nI 0) dX2_offers_26 (by decide) ?_
        refine hQ _ _ _ _ _ (Or.inr (Or.inl ⟨_, _, dX2_offers_27, rfl, (by first | rfl | exact nar_bI _), rfl, rfl⟩)) ⟨?_, rfl⟩
        (clear hQ C; (try simp only [bI_0] at *); first | (simp [bI_t2, bI_f2, *]; done) | (simp_all; done))
      · refine V.iconst C (v := nI 1) dX2_offers_22 (by decide) ?_
        refine V.goto C (tgt := 27) dX2_offers_23 (by decide) ?_
        refine hQ _ _ _ _ _ (Or.inr (Or.inl ⟨_, _, dX2_offers_27, rfl, (by first | rfl | exact nar_bI _), rfl, rfl⟩)) ⟨?_, rfl⟩
        (clear hQ C; (try simp only [bI_0] at *); first | (simp [bI_t2, bI_f2, *]; done) | (simp_all; done))
set_option maxRecDepth 100000 in
set_option maxHeartbeats 4000000 in
theorem ct_X2_answersOf {l : Launch} {D : va_G} {tys : List (ClassId × FieldType)} {cI : ClassId} {h : Nat → Nat} {σ : Nat → Nat → Int32} (hT : tys[0]? = some (cI, .int)) {q : Nat} (hq : q < 10) : Cd l D tys yX2_answersOf wsX2_answersOf ({ frames := 0, cells := 0, slots := 0, locals := 0 } : Room) (SW cI h σ) [.ref (h 1), .int (nI q)] (some (.int (σ 8 q))) (SW cI h σ) := by
  refine Ct.of [some (.ref (h 1)), some (.int (nI q))] (by decide) rfl rfl (Nat.le_of_ble_eq_true rfl) rfl (fun κ C hQ => ?_)
  have iX2 : ∀ z ∈ u_ws RX2 TX2 5, z ∈ wsX2_answersOf := by decide +kernel
  refine V.aload_n C dX2_answersOf_0 rfl ?_
  refine V.get C (q0 := 1) (k := 2) rfl rfl (by decide) iX2 (by decide +kernel) rfl rfl dX2_answersOf_1 ?_
  refine V.iload_n C dX2_answersOf_4 rfl ?_
  refine V.iald C (q0 := 8) (t0 := 0) rfl hT (rfl) (by omega) (by omega) dX2_answersOf_5 ?_
  refine hQ _ _ _ _ _ (Or.inr (Or.inl ⟨_, _, dX2_answersOf_6, rfl, rfl, rfl, rfl⟩)) ⟨?_, rfl⟩
  rfl
set_option maxRecDepth 100000 in
set_option maxHeartbeats 4000000 in
theorem ct_X2_add {l : Launch} {D : va_G} {tys : List (ClassId × FieldType)} {cI : ClassId} {h : Nat → Nat} {σ : Nat → Nat → Int32} (hT : tys[0]? = some (cI, .int)) {Q : Nat} {x : Int32} (hQz : σ 1 0 = nI Q) (hQ10 : Q < 10) : Cd l D tys yX2_add wsX2_add ({ frames := 0, cells := 0, slots := 0, locals := 0 } : Room) (SW cI h σ) [.ref (h 1), .int x] (some (.int (nI Q))) (SW cI h (sW (sW σ 8 Q x) 1 0 (nI (Q + 1)))) := by
  refine Ct.of [some (.ref (h 1)), some (.int x)] (by decide) rfl rfl (Nat.le_of_ble_eq_true rfl) rfl (fun κ C hQ => ?_)
  have iX2 : ∀ z ∈ u_ws RX2 TX2 5, z ∈ wsX2_add := by decide +kernel
  refine V.aload_n C dX2_add_0 rfl ?_
  refine V.get C (q0 := 1) (k := 2) rfl rfl (by decide) iX2 (by decide +kernel) rfl rfl dX2_add_1 ?_
  refine V.aload_n C dX2_add_4 rfl ?_
  refine V.get C (q0 := 1) (k := 0) rfl rfl (by decide) iX2 (by decide +kernel) rfl rfl dX2_add_5 ?_
  refine V.iload_n C dX2_add_8 rfl ?_
  refine V.iast C (q0 := 8) (t0 := 0) (w' := SW cI h (sW σ 8 Q x)) rfl hT (hQz) (by omega) (by omega) rfl dX2_add_9 ?_
  refine V.aload_n C dX2_add_10 rfl ?_
  refine V.dup C dX2_add_11 rfl ?_
  refine V.get C (q0 := 1) (k := 0) rfl rfl (by decide) iX2 (by decide +kernel) rfl rfl dX2_add_12 ?_
  refine V.iconst C (v := nI 1) dX2_add_15 (by decide) ?_
  refine V.iadd C dX2_add_16 ?_
  refine V.topi (y := nI (Q + 1)) (by rw [show sW σ 8 Q x 1 0 = σ 1 0 from rfl, hQz]; exact nI_add Q 1) ?_
  refine V.put C (q0 := 1) (k := 0) (w' := SW cI h (sW (sW σ 8 Q x) 1 0 (nI (Q + 1)))) rfl rfl (by decide) iX2 (by decide +kernel) rfl tyX2 tyX2_ok nmX2 rfl rfl rfl rfl (Nat.le_of_ble_eq_true rfl) rfl dX2_add_17 ?_
  refine V.aload_n C dX2_add_20 rfl ?_
  refine V.get C (q0 := 1) (k := 0) rfl rfl (by decide) iX2 (by decide +kernel) rfl rfl dX2_add_21 ?_
  refine V.iconst C (v := nI 1) dX2_add_24 (by decide) ?_
  refine V.isub C dX2_add_25 ?_
  refine V.topi (y := nI Q) (by rw [sW_at]; exact nI_sub (a := Q + 1) (b := 1) (by omega)) ?_
  refine hQ _ _ _ _ _ (Or.inr (Or.inl ⟨_, _, dX2_add_26, rfl, rfl, rfl, rfl⟩)) ⟨?_, rfl⟩
  rfl
set_option maxRecDepth 100000 in
set_option maxHeartbeats 4000000 in
theorem ct_X2_orEnd {l : Launch} {D : va_G} {tys : List (ClassId × FieldType)} {cI : ClassId} {h : Nat → Nat} {σ : Nat → Nat → Int32} {q : Int32} : Cd l D tys yX2_orEnd wsX2_orEnd ({ frames := 0, cells := 0, slots := 0, locals := 0 } : Room) (SW cI h σ) [.ref (h 1), .int q] (some (.int (jEnd σ q))) (SW cI h σ) := by
  refine Ct.of [some (.ref (h 1)), some (.int q)] (by decide) rfl rfl (Nat.le_of_ble_eq_true rfl) rfl (fun κ C hQ => ?_)
  have iX2 : ∀ z ∈ u_ws RX2 TX2 5, z ∈ wsX2_orEnd := by decide +kernel
  refine V.iload_n C dX2_orEnd_0 rfl ?_
  refine V.aload_n C dX2_orEnd_1 rfl ?_
  refine V.get C (q0 := 1) (k := 0) rfl rfl (by decide) iX2 (by decide +kernel) rfl rfl dX2_orEnd_2 ?_
  refine V.icmp_ge C (tgt := 12) dX2_orEnd_5 (by decide) (fun c_1 => ?_) (fun c_1 => ?_)
  · refine V.iconst C (v := (-1)) dX2_orEnd_12 (by decide) ?_
    refine hQ _ _ _ _ _ (Or.inr (Or.inl ⟨_, _, dX2_orEnd_13, rfl, rfl, rfl, rfl⟩)) ⟨?_, rfl⟩
    (clear hQ C; (try simp only [bI_0] at *); first | (simp [jEnd, bI_t2, bI_f2, *]; done) | (simp_all; done))
  · refine V.iload_n C dX2_orEnd_8 rfl ?_
    refine V.goto C (tgt := 13) dX2_orEnd_9 (by decide) ?_
    refine hQ _ _ _ _ _ (Or.inr (Or.inl ⟨_, _, dX2_orEnd_13, rfl, rfl, rfl, rfl⟩)) ⟨?_, rfl⟩
    (clear hQ C; (try simp only [bI_0] at *); first | (simp [jEnd, bI_t2, bI_f2, *]; done) | (simp_all; done))
set_option maxRecDepth 100000 in
set_option maxHeartbeats 4000000 in
theorem ct_X2_wayFrom {l : Launch} {D : va_G} {tys : List (ClassId × FieldType)} {cI : ClassId} {h : Nat → Nat} {σ : Nat → Nat → Int32} (hT : tys[0]? = some (cI, .int)) {q a : Nat} (hq : q < 10) (ha : a < 5) : Cd l D tys yX2_wayFrom wsX2_wayFrom ({ frames := 1, cells := 0, slots := 0, locals := 21 } : Room) (SW cI h σ) [.ref (h 1), .int (nI q), .int (nI a)] (some (.int (jWay σ q a))) (SW cI h σ) := by
  refine Ct.of [some (.ref (h 1)), some (.int (nI q)), some (.int (nI a)), none] (by decide) rfl rfl (Nat.le_of_ble_eq_true rfl) rfl (fun κ C hQ => ?_)
  have iX2 : ∀ z ∈ u_ws RX2 TX2 5, z ∈ wsX2_wayFrom := by decide +kernel
  refine V.aload_n C dX2_wayFrom_0 rfl ?_
  refine V.get C (q0 := 1) (k := 3) rfl rfl (by decide) iX2 (by decide +kernel) rfl rfl dX2_wayFrom_1 ?_
  refine V.iload_n C dX2_wayFrom_4 rfl ?_
  refine V.iconst C (v := nI 5) dX2_wayFrom_5 (by decide) ?_
  refine V.imul C dX2_wayFrom_6 ?_
  refine V.iload_n C dX2_wayFrom_7 rfl ?_
  refine V.iadd C dX2_wayFrom_8 ?_
  refine V.topi (y := nI (q * 5 + a)) (by rw [nI_mul, nI_add]) ?_
  refine V.iald C (q0 := 9) (t0 := 0) rfl hT (rfl) (by omega) (by omega) dX2_wayFrom_9 ?_
  refine V.istore_n C dX2_wayFrom_10 (by decide) rfl ?_
  dsimp only [List.set, Fin.val]
  refine V.iload_n C dX2_wayFrom_11 rfl ?_
  refine V.bipush C (v := (-2)) dX2_wayFrom_12 (by decide) ?_
  refine V.icmp_ne C (tgt := 27) dX2_wayFrom_14 (by decide) (fun c_1 => ?_) (fun c_1 => ?_)
  · refine V.iload_n C dX2_wayFrom_27 rfl ?_
    refine hQ _ _ _ _ _ (Or.inr (Or.inl ⟨_, _, dX2_wayFrom_28, rfl, rfl, rfl, rfl⟩)) ⟨?_, rfl⟩
    (clear hQ C; (try simp only [bI_0] at *); first | (simp [jWay, bI_t2, bI_f2, *]; done) | (simp_all; done))
  · refine V.aload_n C dX2_wayFrom_17 rfl ?_
    refine V.iload_n C dX2_wayFrom_18 rfl ?_
    refine V.iconst C (v := nI 1) dX2_wayFrom_19 (by decide) ?_
    refine V.iadd C dX2_wayFrom_20 ?_
    refine V.topi (y := nI (q + 1)) (nI_add q 1) ?_
    refine V.callVi C (ct_X2_orEnd) gX2_wayFrom_X2_orEnd (n := 1) ⟨rfl, by decide, by decide, by decide +kernel⟩ rfl (q0 := 1) rfl rfl rfl rfl ⟨Nat.le_of_ble_eq_true rfl, Nat.le_of_ble_eq_true rfl⟩ ⟨rfl, rfl, Nat.zero_le _, Nat.zero_le _⟩ (Nat.le_of_ble_eq_true rfl) dX2_wayFrom_21 ?_
    refine V.goto C (tgt := 28) dX2_wayFrom_24 (by decide) ?_
    refine hQ _ _ _ _ _ (Or.inr (Or.inl ⟨_, _, dX2_wayFrom_28, rfl, rfl, rfl, rfl⟩)) ⟨?_, rfl⟩
    (clear hQ C; (try simp only [bI_0] at *); first | (simp [jWay, bI_t2, bI_f2, *]; done) | (simp_all; done))
set_option maxRecDepth 100000 in
set_option maxHeartbeats 4000000 in
theorem ct_X2_setWay {l : Launch} {D : va_G} {tys : List (ClassId × FieldType)} {cI : ClassId} {h : Nat → Nat} {σ : Nat → Nat → Int32} (hT : tys[0]? = some (cI, .int)) {q a : Nat} {x : Int32} (hq : q < 10) (ha : a < 5) : Cd l D tys yX2_setWay wsX2_setWay ({ frames := 0, cells := 0, slots := 0, locals := 0 } : Room) (SW cI h σ) [.ref (h 1), .int (nI q), .int (nI a), .int x] (none) (SW cI h (sW σ 9 (q * 5 + a) x)) := by
  refine Ct.of [some (.ref (h 1)), some (.int (nI q)), some (.int (nI a)), some (.int x)] (by decide) rfl rfl (Nat.le_of_ble_eq_true rfl) rfl (fun κ C hQ => ?_)
  have iX2 : ∀ z ∈ u_ws RX2 TX2 5, z ∈ wsX2_setWay := by decide +kernel
  refine V.aload_n C dX2_setWay_0 rfl ?_
  refine V.get C (q0 := 1) (k := 3) rfl rfl (by decide) iX2 (by decide +kernel) rfl rfl dX2_setWay_1 ?_
  refine V.iload_n C dX2_setWay_4 rfl ?_
  refine V.iconst C (v := nI 5) dX2_setWay_5 (by decide) ?_
  refine V.imul C dX2_setWay_6 ?_
  refine V.iload_n C dX2_setWay_7 rfl ?_
  refine V.iadd C dX2_setWay_8 ?_
  refine V.topi (y := nI (q * 5 + a)) (by rw [nI_mul, nI_add]) ?_
  refine V.iload_n C dX2_setWay_9 rfl ?_
  refine V.iast C (q0 := 9) (t0 := 0) (w' := SW cI h (sW σ 9 (q * 5 + a) x)) rfl hT (rfl) (by omega) (by omega) rfl dX2_setWay_10 ?_
  exact hQ _ _ _ _ _ (Or.inl ⟨dX2_setWay_11, rfl, rfl, rfl⟩) ⟨rfl, rfl⟩
set_option maxRecDepth 100000 in
set_option maxHeartbeats 4000000 in
theorem ct_X2_firstOf {l : Launch} {D : va_G} {tys : List (ClassId × FieldType)} {cI : ClassId} {h : Nat → Nat} {σ : Nat → Nat → Int32} {i : Int32} : Cd l D tys yX2_firstOf wsX2_firstOf ({ frames := 0, cells := 0, slots := 0, locals := 0 } : Room) (SW cI h σ) [.ref (h 1), .int i] (some (.int (jFirst σ i))) (SW cI h σ) := by
  refine Ct.of [some (.ref (h 1)), some (.int i)] (by decide) rfl rfl (Nat.le_of_ble_eq_true rfl) rfl (fun κ C hQ => ?_)
  have iX2 : ∀ z ∈ u_ws RX2 TX2 5, z ∈ wsX2_firstOf := by decide +kernel
  refine V.aload_n C dX2_firstOf_0 rfl ?_
  refine V.get C (q0 := 1) (k := 1) rfl rfl (by decide) iX2 (by decide +kernel) rfl rfl dX2_firstOf_1 ?_
  refine V.if_le C (tgt := 16) dX2_firstOf_4 (by decide) (fun c_1 => ?_) (fun c_1 => ?_)
  · refine V.iconst C (v := nI 0) dX2_firstOf_16 (by decide) ?_
    refine hQ _ _ _ _ _ (Or.inr (Or.inl ⟨_, _, dX2_firstOf_17, rfl, rfl, rfl, rfl⟩)) ⟨?_, rfl⟩
    (clear hQ C; (try simp only [bI_0] at *); first | (simp [jFirst, bI_t2, bI_f2, *]; done) | (simp_all; done))
  · refine V.iload_n C dX2_firstOf_7 rfl ?_
    refine V.aload_n C dX2_firstOf_8 rfl ?_
    refine V.get C (q0 := 1) (k := 1) rfl rfl (by decide) iX2 (by decide +kernel) rfl rfl dX2_firstOf_9 ?_
    refine V.irem C dX2_firstOf_12 (ne_pos (by assumption)) ?_
    refine V.goto C (tgt := 17) dX2_firstOf_13 (by decide) ?_
    refine hQ _ _ _ _ _ (Or.inr (Or.inl ⟨_, _, dX2_firstOf_17, rfl, rfl, rfl, rfl⟩)) ⟨?_, rfl⟩
    (clear hQ C; (try simp only [bI_0] at *); first | (simp [jFirst, bI_t2, bI_f2, *]; done) | (simp_all; done))
set_option maxRecDepth 100000 in
set_option maxHeartbeats 4000000 in
theorem ct_X2_nextOf {l : Launch} {D : va_G} {tys : List (ClassId × FieldType)} {cI : ClassId} {h : Nat → Nat} {σ : Nat → Nat → Int32} (hT : tys[0]? = some (cI, .int)) {i c : Int32} {q a : Nat} (hq : q < 10) (ha : a < 5) : Cd l D tys yX2_nextOf wsX2_nextOf ({ frames := 2, cells := 0, slots := 0, locals := 44 } : Room) (SW cI h σ) [.ref (h 1), .int i, .int c, .int (nI q), .int (nI a)] (some (.int (jNext σ i c q a))) (SW cI h σ) := by
  refine Ct.of [some (.ref (h 1)), some (.int i), some (.int c), some (.int (nI q)), some (.int (nI a))] (by decide) rfl rfl (Nat.le_of_ble_eq_true rfl) rfl (fun κ C hQ => ?_)
  have iX2 : ∀ z ∈ u_ws RX2 TX2 5, z ∈ wsX2_nextOf := by decide +kernel
  refine V.aload_n C dX2_nextOf_0 rfl ?_
  refine V.get C (q0 := 1) (k := 1) rfl rfl (by decide) iX2 (by decide +kernel) rfl rfl dX2_nextOf_1 ?_
  refine V.if_le C (tgt := 24) dX2_nextOf_4 (by decide) (fun c_1 => ?_) (fun c_1 => ?_)
  · refine V.aload_n C dX2_nextOf_24 rfl ?_
    refine V.get C (q0 := 1) (k := 1) rfl rfl (by decide) iX2 (by decide +kernel) rfl rfl dX2_nextOf_25 ?_
    refine V.if_le C (tgt := 48) dX2_nextOf_28 (by decide) (fun c_2 => ?_) (fun c_2 => ?_)
    · refine V.aload_n C dX2_nextOf_48 rfl ?_
      refine V.iload_n C dX2_nextOf_49 rfl ?_
      refine V.iload C dX2_nextOf_50 rfl ?_
      refine V.callVi C (ct_X2_wayFrom hT hq ha) gX2_nextOf_X2_wayFrom (n := 2) ⟨rfl, by decide, by decide, by decide +kernel⟩ rfl (q0 := 1) rfl rfl rfl rfl ⟨Nat.le_of_ble_eq_true rfl, Nat.le_of_ble_eq_true rfl⟩ ⟨rfl, rfl, Nat.zero_le _, Nat.zero_le _⟩ (Nat.le_of_ble_eq_true rfl) dX2_nextOf_52 ?_
      refine hQ _ _ _ _ _ (Or.inr (Or.inl ⟨_, _, dX2_nextOf_55, rfl, rfl, rfl, rfl⟩)) ⟨?_, rfl⟩
      (clear hQ C; (try simp only [bI_0] at *); first | (simp [jNext, bI_t2, bI_f2, *]; done) | (simp_all; done))
    · refine V.iload_n C dX2_nextOf_31 rfl ?_
      refine V.aload_n C dX2_nextOf_32 rfl ?_
      refine V.get C (q0 := 1) (k := 1) rfl rfl (by decide) iX2 (by decide +kernel) rfl rfl dX2_nextOf_33 ?_
      refine V.icmp_ne C (tgt := 48) dX2_nextOf_36 (by decide) (fun c_3 => ?_) (fun c_3 => ?_)
      · refine V.aload_n C dX2_nextOf_48 rfl ?_
        refine V.iload_n C dX2_nextOf_49 rfl ?_
        refine V.iload C dX2_nextOf_50 rfl ?_
        refine V.callVi C (ct_X2_wayFrom hT hq ha) gX2_nextOf_X2_wayFrom (n := 2) ⟨rfl, by decide, by decide, by decide +kernel⟩ rfl (q0 := 1) rfl rfl rfl rfl ⟨Nat.le_of_ble_eq_true rfl, Nat.le_of_ble_eq_true rfl⟩ ⟨rfl, rfl, Nat.zero_le _, Nat.zero_le _⟩ (Nat.le_of_ble_eq_true rfl) dX2_nextOf_52 ?_
        refine hQ _ _ _ _ _ (Or.inr (Or.inl ⟨_, _, dX2_nextOf_55, rfl, rfl, rfl, rfl⟩)) ⟨?_, rfl⟩
        (clear hQ C; (try simp only [bI_0] at *); first | (simp [jNext, bI_t2, bI_f2, *]; done) | (simp_all; done))
      · refine V.aload_n C dX2_nextOf_39 rfl ?_
        refine V.aload_n C dX2_nextOf_40 rfl ?_
        refine V.get C (q0 := 1) (k := 1) rfl rfl (by decide) iX2 (by decide +kernel) rfl rfl dX2_nextOf_41 ?_
        refine V.callVi C (ct_X2_orEnd) gX2_nextOf_X2_orEnd (n := 1) ⟨rfl, by decide, by decide, by decide +kernel⟩ rfl (q0 := 1) rfl rfl rfl rfl ⟨Nat.le_of_ble_eq_true rfl, Nat.le_of_ble_eq_true rfl⟩ ⟨rfl, rfl, Nat.zero_le _, Nat.zero_le _⟩ (Nat.le_of_ble_eq_true rfl) dX2_nextOf_44 ?_
        refine hQ _ _ _ _ _ (Or.inr (Or.inl ⟨_, _, dX2_nextOf_47, rfl, rfl, rfl, rfl⟩)) ⟨?_, rfl⟩
        (clear hQ C; (try simp only [bI_0] at *); first | (simp [jNext, bI_t2, bI_f2, *]; done) | (simp_all; done))
  · refine V.iload_n C dX2_nextOf_7 rfl ?_
    refine V.aload_n C dX2_nextOf_8 rfl ?_
    refine V.get C (q0 := 1) (k := 1) rfl rfl (by decide) iX2 (by decide +kernel) rfl rfl dX2_nextOf_9 ?_
    refine V.icmp_ge C (tgt := 24) dX2_nextOf_12 (by decide) (fun c_4 => ?_) (fun c_4 => ?_)
    · refine V.aload_n C dX2_nextOf_24 rfl ?_
      refine V.get C (q0 := 1) (k := 1) rfl rfl (by decide) iX2 (by decide +kernel) rfl rfl dX2_nextOf_25 ?_
      refine V.if_le C (tgt := 48) dX2_nextOf_28 (by decide) (fun c_5 => ?_) (fun c_5 => ?_)
      · refine V.aload_n C dX2_nextOf_48 rfl ?_
        refine V.iload_n C dX2_nextOf_49 rfl ?_
        refine V.iload C dX2_nextOf_50 rfl ?_
        refine V.callVi C (ct_X2_wayFrom hT hq ha) gX2_nextOf_X2_wayFrom (n := 2) ⟨rfl, by decide, by decide, by decide +kernel⟩ rfl (q0 := 1) rfl rfl rfl rfl ⟨Nat.le_of_ble_eq_true rfl, Nat.le_of_ble_eq_true rfl⟩ ⟨rfl, rfl, Nat.zero_le _, Nat.zero_le _⟩ (Nat.le_of_ble_eq_true rfl) dX2_nextOf_52 ?_
        refine hQ _ _ _ _ _ (Or.inr (Or.inl ⟨_, _, dX2_nextOf_55, rfl, rfl, rfl, rfl⟩)) ⟨?_, rfl⟩
        (clear hQ C; (try simp only [bI_0] at *); first | (simp [jNext, bI_t2, bI_f2, *]; done) | (simp_all; done))
      · refine V.iload_n C dX2_nextOf_31 rfl ?_
        refine V.aload_n C dX2_nextOf_32 rfl ?_
        refine V.get C (q0 := 1) (k := 1) rfl rfl (by decide) iX2 (by decide +kernel) rfl rfl dX2_nextOf_33 ?_
        refine V.icmp_ne C (tgt := 48) dX2_nextOf_36 (by decide) (fun c_6 => ?_) (fun c_6 => ?_)
        · refine V.aload_n C dX2_nextOf_48 rfl ?_
          refine V.iload_n C dX2_nextOf_49 rfl ?_
          refine V.iload C dX2_nextOf_50 rfl ?_
          refine V.callVi C (ct_X2_wayFrom hT hq ha) gX2_nextOf_X2_wayFrom (n := 2) ⟨rfl, by decide, by decide, by decide +kernel⟩ rfl (q0 := 1) rfl rfl rfl rfl ⟨Nat.le_of_ble_eq_true rfl, Nat.le_of_ble_eq_true rfl⟩ ⟨rfl, rfl, Nat.zero_le _, Nat.zero_le _⟩ (Nat.le_of_ble_eq_true rfl) dX2_nextOf_52 ?_
          refine hQ _ _ _ _ _ (Or.inr (Or.inl ⟨_, _, dX2_nextOf_55, rfl, rfl, rfl, rfl⟩)) ⟨?_, rfl⟩
          (clear hQ C; (try simp only [bI_0] at *); first | (simp [jNext, bI_t2, bI_f2, *]; done) | (simp_all; done))
        · refine V.aload_n C dX2_nextOf_39 rfl ?_
          refine V.aload_n C dX2_nextOf_40 rfl ?_
          refine V.get C (q0 := 1) (k := 1) rfl rfl (by decide) iX2 (by decide +kernel) rfl rfl dX2_nextOf_41 ?_
          refine V.callVi C (ct_X2_orEnd) gX2_nextOf_X2_orEnd (n := 1) ⟨rfl, by decide, by decide, by decide +kernel⟩ rfl (q0 := 1) rfl rfl rfl rfl ⟨Nat.le_of_ble_eq_true rfl, Nat.le_of_ble_eq_true rfl⟩ ⟨rfl, rfl, Nat.zero_le _, Nat.zero_le _⟩ (Nat.le_of_ble_eq_true rfl) dX2_nextOf_44 ?_
          refine hQ _ _ _ _ _ (Or.inr (Or.inl ⟨_, _, dX2_nextOf_47, rfl, rfl, rfl, rfl⟩)) ⟨?_, rfl⟩
          (clear hQ C; (try simp only [bI_0] at *); first | (simp [jNext, bI_t2, bI_f2, *]; done) | (simp_all; done))
    · refine V.iload_n C dX2_nextOf_15 rfl ?_
      refine V.iload_n C dX2_nextOf_16 rfl ?_
      refine V.iadd C dX2_nextOf_17 ?_
      refine V.aload_n C dX2_nextOf_18 rfl ?_
      refine V.get C (q0 := 1) (k := 1) rfl rfl (by decide) iX2 (by decide +kernel) rfl rfl dX2_nextOf_19 ?_
      refine V.irem C dX2_nextOf_22 (ne_pos (by assumption)) ?_
      refine hQ _ _ _ _ _ (Or.inr (Or.inl ⟨_, _, dX2_nextOf_23, rfl, rfl, rfl, rfl⟩)) ⟨?_, rfl⟩
      (clear hQ C; (try simp only [bI_0] at *); first | (simp [jNext, bI_t2, bI_f2, *]; done) | (simp_all; done))
