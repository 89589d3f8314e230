set_option maxRecDepth 100000 in
set_option maxHeartbeats 4000000 in
theorem ct_X6_needNoInterview {l : Launch} {D : va_G} {tys : List (ClassId × FieldType)} {cI : ClassId} {h : Nat → Nat} {σ : Nat → Nat → Int32} (hN : σ 4 0 = nI 0) : Cd l D tys yX6_needNoInterview wsX6_needNoInterview ({ frames := 1, cells := 0, slots := 0, locals := 20 } : Room) (SW cI h σ) [.ref (h 0)] (none) (SW cI h σ) := by
  refine Ct.of [some (.ref (h 0))] (by decide) rfl rfl (Nat.le_of_ble_eq_true rfl) rfl (fun κ C hQ => ?_)
  have iX6 : ∀ z ∈ u_ws RX6 TX6 8, z ∈ wsX6_needNoInterview := by decide +kernel
  refine V.aload_n C dX6_needNoInterview_0 rfl ?_
  refine V.get C (q0 := 0) (k := 3) rfl rfl (by decide) iX6 (by decide +kernel) rfl rfl dX6_needNoInterview_1 ?_
  refine V.callVi C (ct_X0_size) gX6_needNoInterview_X0_size (n := 0) ⟨rfl, by decide, by decide, by decide +kernel⟩ rfl (q0 := 4) rfl rfl rfl rfl ⟨Nat.le_of_ble_eq_true rfl, Nat.le_of_ble_eq_true rfl⟩ ⟨rfl, rfl, Nat.zero_le _, Nat.zero_le _⟩ (Nat.le_of_ble_eq_true rfl) dX6_needNoInterview_4 ?_
  refine V.topi (y := nI 0) (hN) ?_
  refine V.if_le C (tgt := 21) dX6_needNoInterview_7 (by decide) (fun c_1 => ?_) (fun c_1 => ?_)
  · exact hQ _ _ _ _ _ (Or.inl ⟨dX6_needNoInterview_21, rfl, rfl, rfl⟩) ⟨rfl, rfl⟩
  · exfalso
    exact absurd c_1 (by decide)
set_option maxRecDepth 100000 in
set_option maxHeartbeats 4000000 in
theorem ct_X6_needQuestion {l : Launch} {D : va_G} {tys : List (ClassId × FieldType)} {cI : ClassId} {h : Nat → Nat} {σ : Nat → Nat → Int32} {q : Nat} {Q : Nat} (hQz : σ 1 0 = nI Q) (hQ10 : Q ≤ 10) (hq : q < Q) : Cd l D tys yX6_needQuestion wsX6_needQuestion ({ frames := 1, cells := 0, slots := 0, locals := 21 } : Room) (SW cI h σ) [.ref (h 0), .int (nI q)] (none) (SW cI h σ) := by
  refine Ct.of [some (.ref (h 0)), some (.int (nI q))] (by decide) rfl rfl (Nat.le_of_ble_eq_true rfl) rfl (fun κ C hQ => ?_)
  have iX6 : ∀ z ∈ u_ws RX6 TX6 8, z ∈ wsX6_needQuestion := by decide +kernel
  refine V.aload_n C dX6_needQuestion_0 rfl ?_
  refine V.get C (q0 := 0) (k := 0) rfl rfl (by decide) iX6 (by decide +kernel) rfl rfl dX6_needQuestion_1 ?_
  refine V.iload_n C dX6_needQuestion_4 rfl ?_
  refine V.callVi C (ct_X2_has) gX6_needQuestion_X2_has (n := 1) ⟨rfl, by decide, by decide, by decide +kernel⟩ rfl (q0 := 1) rfl rfl rfl rfl ⟨Nat.le_of_ble_eq_true rfl, Nat.le_of_ble_eq_true rfl⟩ ⟨rfl, rfl, Nat.zero_le _, Nat.zero_le _⟩ (Nat.le_of_ble_eq_true rfl) dX6_needQuestion_5 ?_
  refine V.topi (y := bI true) (by rw [jHas_t hQz hq hQ10]) ?_
  refine V.if_ne C (tgt := 22) dX6_needQuestion_8 (by decide) (fun c_1 => ?_) (fun c_1 => ?_)
  · exact hQ _ _ _ _ _ (Or.inl ⟨dX6_needQuestion_22, rfl, rfl, rfl⟩) ⟨rfl, rfl⟩
  · exfalso
    exact absurd c_1 (by decide)
set_option maxRecDepth 100000 in
set_option maxHeartbeats 4000000 in
theorem ct_X6_needAnswer {l : Launch} {D : va_G} {tys : List (ClassId × FieldType)} {cI : ClassId} {h : Nat → Nat} {σ : Nat → Nat → Int32} (hT : tys[0]? = some (cI, .int)) {q a : Nat} {Q : Nat} (hQz : σ 1 0 = nI Q) (hQ10 : Q ≤ 10) (hq : q < Q) (hA : Nn (σ 8 q) 6) (ha : a < jA σ q) : Cd l D tys yX6_needAnswer wsX6_needAnswer ({ frames := 2, cells := 0, slots := 0, locals := 43 } : Room) (SW cI h σ) [.ref (h 0), .int (nI q), .int (nI a)] (none) (SW cI h σ) := by
  refine Ct.of [some (.ref (h 0)), some (.int (nI q)), some (.int (nI a))] (by decide) rfl rfl (Nat.le_of_ble_eq_true rfl) rfl (fun κ C hQ => ?_)
  have iX6 : ∀ z ∈ u_ws RX6 TX6 8, z ∈ wsX6_needAnswer := by decide +kernel
  refine V.aload_n C dX6_needAnswer_0 rfl ?_
  refine V.get C (q0 := 0) (k := 0) rfl rfl (by decide) iX6 (by decide +kernel) rfl rfl dX6_needAnswer_1 ?_
  refine V.iload_n C dX6_needAnswer_4 rfl ?_
  refine V.iload_n C dX6_needAnswer_5 rfl ?_
  refine V.callVi C (ct_X2_offers hT (fun _ => ⟨rfl, by omega⟩)) gX6_needAnswer_X2_offers (n := 2) ⟨rfl, by decide, by decide, by decide +kernel⟩ rfl (q0 := 1) rfl rfl rfl rfl ⟨Nat.le_of_ble_eq_true rfl, Nat.le_of_ble_eq_true rfl⟩ ⟨rfl, rfl, Nat.zero_le _, Nat.zero_le _⟩ (Nat.le_of_ble_eq_true rfl) dX6_needAnswer_6 ?_
  refine V.topi (y := bI true) (by rw [jOff_t hQz hq hQ10 hA ha]) ?_
  refine V.if_ne C (tgt := 23) dX6_needAnswer_9 (by decide) (fun c_1 => ?_) (fun c_1 => ?_)
  · exact hQ _ _ _ _ _ (Or.inl ⟨dX6_needAnswer_23, rfl, rfl, rfl⟩) ⟨rfl, rfl⟩
  · exfalso
    exact absurd c_1 (by decide)
set_option maxRecDepth 100000 in
set_option maxHeartbeats 4000000 in
theorem ct_X6_needPerson {l : Launch} {D : va_G} {tys : List (ClassId × FieldType)} {cI : ClassId} {h : Nat → Nat} {σ : Nat → Nat → Int32} {j : Nat} {P : Nat} (hP : σ 3 0 = nI P) (hP24 : P ≤ 24) (hj : j < P) : Cd l D tys yX6_needPerson wsX6_needPerson ({ frames := 1, cells := 0, slots := 0, locals := 20 } : Room) (SW cI h σ) [.ref (h 0), .int (nI j)] (none) (SW cI h σ) := by
  refine Ct.of [some (.ref (h 0)), some (.int (nI j))] (by decide) rfl rfl (Nat.le_of_ble_eq_true rfl) rfl (fun κ C hQ => ?_)
  have iX6 : ∀ z ∈ u_ws RX6 TX6 8, z ∈ wsX6_needPerson := by decide +kernel
  refine V.iload_n C dX6_needPerson_0 rfl ?_
  refine V.if_lt C (tgt := 15) dX6_needPerson_1 (by decide) (fun c_1 => ?_) (fun c_1 => ?_)
  · exfalso
    exact nI_pos (by omega) c_1
  · refine V.iload_n C dX6_needPerson_4 rfl ?_
    refine V.aload_n C dX6_needPerson_5 rfl ?_
    refine V.get C (q0 := 0) (k := 2) rfl rfl (by decide) iX6 (by decide +kernel) rfl rfl dX6_needPerson_6 ?_
    refine V.callVi C (ct_X1_size) gX6_needPerson_X1_size (n := 0) ⟨rfl, by decide, by decide, by decide +kernel⟩ rfl (q0 := 3) rfl rfl rfl rfl ⟨Nat.le_of_ble_eq_true rfl, Nat.le_of_ble_eq_true rfl⟩ ⟨rfl, rfl, Nat.zero_le _, Nat.zero_le _⟩ (Nat.le_of_ble_eq_true rfl) dX6_needPerson_9 ?_
    refine V.topi (y := nI P) (hP) ?_
    refine V.icmp_lt C (tgt := 26) dX6_needPerson_12 (by decide) (fun c_2 => ?_) (fun c_2 => ?_)
    · exact hQ _ _ _ _ _ (Or.inl ⟨dX6_needPerson_26, rfl, rfl, rfl⟩) ⟨rfl, rfl⟩
    · exfalso
      exact c_2 (nI_lt (by omega) (by omega))
set_option maxRecDepth 100000 in
set_option maxHeartbeats 4000000 in
theorem ct_X6_needInterview {l : Launch} {D : va_G} {tys : List (ClassId × FieldType)} {cI : ClassId} {h : Nat → Nat} {σ : Nat → Nat → Int32} {i : Nat} {N : Nat} (hN : σ 4 0 = nI N) (hN40 : N ≤ 40) (hi : i < N) : Cd l D tys yX6_needInterview wsX6_needInterview ({ frames := 1, cells := 0, slots := 0, locals := 20 } : Room) (SW cI h σ) [.ref (h 0), .int (nI i)] (none) (SW cI h σ) := by
  refine Ct.of [some (.ref (h 0)), some (.int (nI i))] (by decide) rfl rfl (Nat.le_of_ble_eq_true rfl) rfl (fun κ C hQ => ?_)
  have iX6 : ∀ z ∈ u_ws RX6 TX6 8, z ∈ wsX6_needInterview := by decide +kernel
  refine V.iload_n C dX6_needInterview_0 rfl ?_
  refine V.if_lt C (tgt := 15) dX6_needInterview_1 (by decide) (fun c_1 => ?_) (fun c_1 => ?_)
  · exfalso
    exact nI_pos (by omega) c_1
  · refine V.iload_n C dX6_needInterview_4 rfl ?_
    refine V.aload_n C dX6_needInterview_5 rfl ?_
    refine V.get C (q0 := 0) (k := 3) rfl rfl (by decide) iX6 (by decide +kernel) rfl rfl dX6_needInterview_6 ?_
    refine V.callVi C (ct_X0_size) gX6_needInterview_X0_size (n := 0) ⟨rfl, by decide, by decide, by decide +kernel⟩ rfl (q0 := 4) rfl rfl rfl rfl ⟨Nat.le_of_ble_eq_true rfl, Nat.le_of_ble_eq_true rfl⟩ ⟨rfl, rfl, Nat.zero_le _, Nat.zero_le _⟩ (Nat.le_of_ble_eq_true rfl) dX6_needInterview_9 ?_
    refine V.topi (y := nI N) (hN) ?_
    refine V.icmp_lt C (tgt := 26) dX6_needInterview_12 (by decide) (fun c_2 => ?_) (fun c_2 => ?_)
    · exact hQ _ _ _ _ _ (Or.inl ⟨dX6_needInterview_26, rfl, rfl, rfl⟩) ⟨rfl, rfl⟩
    · exfalso
      exact c_2 (nI_lt (by omega) (by omega))
set_option maxRecDepth 100000 in
set_option maxHeartbeats 4000000 in
theorem ct_X6_needCell {l : Launch} {D : va_G} {tys : List (ClassId × FieldType)} {w : va_W} {a b : Nat} (ha : a < 3) (hb : b < 2) : Cd l D tys yX6_needCell wsX6_needCell ({ frames := 1, cells := 0, slots := 0, locals := 20 } : Room) (w) [.int (nI a), .int (nI b)] (none) (w) := by
  refine Ct.of [some (.int (nI a)), some (.int (nI b))] (by decide) rfl rfl (Nat.le_of_ble_eq_true rfl) rfl (fun κ C hQ => ?_)
  refine V.iload_n C dX6_needCell_0 rfl ?_
  refine V.callSi C (ct_X6_isA) gX6_needCell_X6_isA (n := 1) ⟨rfl, by decide, by decide, by decide +kernel⟩ rfl rfl rfl ⟨Nat.le_of_ble_eq_true rfl, Nat.le_of_ble_eq_true rfl⟩ ⟨rfl, rfl, Nat.zero_le _, Nat.zero_le _⟩ (Nat.le_of_ble_eq_true rfl) dX6_needCell_1 ?_
  refine V.topi (y := bI true) (by simp only [nI_pos (show a < 2 ^ 31 by omega), nI_lt (show a < 3 by omega) (by decide), decide_true, decide_false, Bool.not_false, Bool.and_self]) ?_
  refine V.if_eq C (tgt := 14) dX6_needCell_4 (by decide) (fun c_1 => ?_) (fun c_1 => ?_)
  · exfalso
    exact absurd c_1 (by decide)
  · refine V.iload_n C dX6_needCell_7 rfl ?_
    refine V.callSi C (ct_X6_isB) gX6_needCell_X6_isB (n := 1) ⟨rfl, by decide, by decide, by decide +kernel⟩ rfl rfl rfl ⟨Nat.le_of_ble_eq_true rfl, Nat.le_of_ble_eq_true rfl⟩ ⟨rfl, rfl, Nat.zero_le _, Nat.zero_le _⟩ (Nat.le_of_ble_eq_true rfl) dX6_needCell_8 ?_
    refine V.topi (y := bI true) (by simp only [nI_pos (show b < 2 ^ 31 by omega), nI_lt (show b < 2 by omega) (by decide), decide_true, decide_false, Bool.not_false, Bool.and_self]) ?_
    refine V.if_ne C (tgt := 24) dX6_needCell_11 (by decide) (fun c_2 => ?_) (fun c_2 => ?_)
    · exact hQ _ _ _ _ _ (Or.inl ⟨dX6_needCell_24, rfl, rfl, rfl⟩) ⟨rfl, rfl⟩
    · exfalso
      exact absurd c_2 (by decide)
set_option maxRecDepth 100000 in
set_option maxHeartbeats 4000000 in
theorem ct_X6_needA {l : Launch} {D : va_G} {tys : List (ClassId × FieldType)} {w : va_W} {a : Nat} (ha : a < 3) : Cd l D tys yX6_needA wsX6_needA ({ frames := 1, cells := 0, slots := 0, locals := 20 } : Room) (w) [.int (nI a)] (none) (w) := by
  refine Ct.of [some (.int (nI a))] (by decide) rfl rfl (Nat.le_of_ble_eq_true rfl) rfl (fun κ C hQ => ?_)
  refine V.iload_n C dX6_needA_0 rfl ?_
  refine V.callSi C (ct_X6_isA) gX6_needA_X6_isA (n := 1) ⟨rfl, by decide, by decide, by decide +kernel⟩ rfl rfl rfl ⟨Nat.le_of_ble_eq_true rfl, Nat.le_of_ble_eq_true rfl⟩ ⟨rfl, rfl, Nat.zero_le _, Nat.zero_le _⟩ (Nat.le_of_ble_eq_true rfl) dX6_needA_1 ?_
  refine V.topi (y := bI true) (by simp only [nI_pos (show a < 2 ^ 31 by omega), nI_lt (show a < 3 by omega) (by decide), decide_true, decide_false, Bool.not_false, Bool.and_self]) ?_
  refine V.if_ne C (tgt := 18) dX6_needA_4 (by decide) (fun c_1 => ?_) (fun c_1 => ?_)
  · exact hQ _ _ _ _ _ (Or.inl ⟨dX6_needA_18, rfl, rfl, rfl⟩) ⟨rfl, rfl⟩
  · exfalso
    exact absurd c_1 (by decide)
set_option maxRecDepth 100000 in
set_option maxHeartbeats 4000000 in
theorem ct_X6_needRounds {l : Launch} {D : va_G} {tys : List (ClassId × FieldType)} {w : va_W} {n : Nat} (hn : n ≤ 9) : Cd l D tys yX6_needRounds wsX6_needRounds ({ frames := 0, cells := 0, slots := 0, locals := 0 } : Room) (w) [.int (nI n)] (none) (w) := by
  refine Ct.of [some (.int (nI n))] (by decide) rfl rfl (Nat.le_of_ble_eq_true rfl) rfl (fun κ C hQ => ?_)
  refine V.iload_n C dX6_needRounds_0 rfl ?_
  refine V.if_lt C (tgt := 10) dX6_needRounds_1 (by decide) (fun c_1 => ?_) (fun c_1 => ?_)
  · exfalso
    exact nI_pos (by omega) c_1
  · refine V.iload_n C dX6_needRounds_4 rfl ?_
    refine V.bipush C (v := nI 9) dX6_needRounds_5 (by decide) ?_
    refine V.icmp_le C (tgt := 21) dX6_needRounds_7 (by decide) (fun c_2 => ?_) (fun c_2 => ?_)
    · exact hQ _ _ _ _ _ (Or.inl ⟨dX6_needRounds_21, rfl, rfl, rfl⟩) ⟨rfl, rfl⟩
    · exfalso
      exact absurd c_2 (nI_nlt (by omega) (by omega))
set_option maxRecDepth 100000 in
set_option maxHeartbeats 4000000 in
theorem ct_X6_reweigh {l : Launch} {D : va_G} {tys : List (ClassId × FieldType)} {cI : ClassId} {h : Nat → Nat} {σ : Nat → Nat → Int32} (hT : tys[0]? = some (cI, .int)) {N : Nat} (hN : σ 4 0 = nI N) (hN40 : N ≤ 40) (hce : ∀ i, i < N → Nn (σ 18 i) 6) {n : Nat} (hn0 : σ 0 0 = nI n) (hn9 : n ≤ 9) : Cd l D tys yX6_reweigh wsX6_reweigh ({ frames := 5, cells := 0, slots := 0, locals := 115 } : Room) (SW cI h σ) [.ref (h 0)] (none) (SW cI h (jWeigh σ 24 N n)) := by
  refine Ct.of [some (.ref (h 0))] (by decide) rfl rfl (Nat.le_of_ble_eq_true rfl) rfl (fun κ C hQ => ?_)
  have iX6 : ∀ z ∈ u_ws RX6 TX6 8, z ∈ wsX6_reweigh := by decide +kernel
  refine V.aload_n C dX6_reweigh_0 rfl ?_
  refine V.get C (q0 := 0) (k := 4) rfl rfl (by decide) iX6 (by decide +kernel) rfl rfl dX6_reweigh_1 ?_
  refine V.aload_n C dX6_reweigh_4 rfl ?_
  refine V.get C (q0 := 0) (k := 3) rfl rfl (by decide) iX6 (by decide +kernel) rfl rfl dX6_reweigh_5 ?_
  refine V.aload_n C dX6_reweigh_8 rfl ?_
  refine V.get C (q0 := 0) (k := 1) rfl rfl (by decide) iX6 (by decide +kernel) rfl rfl dX6_reweigh_9 ?_
  refine V.aload_n C dX6_reweigh_12 rfl ?_
  refine V.get C (q0 := 0) (k := 7) rfl rfl (by decide) iX6 (by decide +kernel) rfl rfl dX6_reweigh_13 ?_
  refine V.topi (y := nI n) (hn0) ?_
  refine V.callVv C (ct_X5_weigh_5 hT hN hN40 hce hn9) gX6_reweigh_X5_weigh (n := 3) ⟨rfl, by decide, by decide, by decide +kernel⟩ rfl (q0 := 5) rfl rfl rfl rfl ⟨Nat.le_of_ble_eq_true rfl, Nat.le_of_ble_eq_true rfl⟩ ⟨rfl, rfl, Nat.zero_le _, Nat.zero_le _⟩ (Nat.le_of_ble_eq_true rfl) dX6_reweigh_16 ?_
  exact hQ _ _ _ _ _ (Or.inl ⟨dX6_reweigh_19, rfl, rfl, rfl⟩) ⟨rfl, rfl⟩
