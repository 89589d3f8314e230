set_option maxRecDepth 100000 in
set_option maxHeartbeats 4000000 in
theorem ct_X6_question {l : Launch} {D : va_G} {tys : List (ClassId × FieldType)} {cI : ClassId} {h : Nat → Nat} {σ : Nat → Nat → Int32} (hT : tys[0]? = some (cI, .int)) {a Q : Nat} (hQz : σ 1 0 = nI Q) (hQ10 : Q < 10) (hN : σ 4 0 = nI 0) (ha : 2 ≤ a) (ha5 : a ≤ 5) : Cd l D tys yX6_question wsX6_question ({ frames := 2, cells := 0, slots := 0, locals := 40 } : Room) (SW cI h σ) [.ref (h 0), .int (nI a)] (some (.int (nI Q))) (SW cI h (sW (sW σ 8 Q (nI a)) 1 0 (nI (Q + 1)))) := by
  refine Ct.of [some (.ref (h 0)), some (.int (nI a))] (by decide) rfl rfl (Nat.le_of_ble_eq_true rfl) rfl (fun κ C hQ => ?_)
  have iX6 : ∀ z ∈ u_ws RX6 TX6 8, z ∈ wsX6_question := by decide +kernel
  refine V.iload_n C dX6_question_0 rfl ?_
  refine V.iconst C (v := nI 2) dX6_question_1 (by decide) ?_
  refine V.icmp_lt C (tgt := 10) dX6_question_2 (by decide) (fun c_1 => ?_) (fun c_1 => ?_)
  · exfalso
    exact absurd c_1 (nI_nlt (by omega) (by omega))
  · refine V.iload_n C dX6_question_5 rfl ?_
    refine V.iconst C (v := nI 5) dX6_question_6 (by decide) ?_
    refine V.icmp_le C (tgt := 20) dX6_question_7 (by decide) (fun c_2 => ?_) (fun c_2 => ?_)
    · refine V.aload_n C dX6_question_20 rfl ?_
      refine V.get C (q0 := 0) (k := 0) rfl rfl (by decide) iX6 (by decide +kernel) rfl rfl dX6_question_21 ?_
      refine V.callVi C (ct_X2_size) gX6_question_X2_size (n := 0) ⟨rfl, by decide, by decide, by decide +kernel⟩ rfl (q0 := 1) rfl rfl rfl rfl ⟨Nat.le_of_ble_eq_true rfl, Nat.le_of_ble_eq_true rfl⟩ ⟨rfl, rfl, Nat.zero_le _, Nat.zero_le _⟩ (Nat.le_of_ble_eq_true rfl) dX6_question_24 ?_
      refine V.topi (y := nI Q) (hQz) ?_
      refine V.bipush C (v := nI 10) dX6_question_27 (by decide) ?_
      refine V.icmp_lt C (tgt := 42) dX6_question_29 (by decide) (fun c_3 => ?_) (fun c_3 => ?_)
      · refine V.aload_n C dX6_question_42 rfl ?_
        refine V.callVv C (ct_X6_needNoInterview hN) gX6_question_X6_needNoInterview (n := 0) ⟨rfl, by decide, by decide, by decide +kernel⟩ rfl (q0 := 0) rfl rfl rfl rfl ⟨Nat.le_of_ble_eq_true rfl, Nat.le_of_ble_eq_true rfl⟩ ⟨rfl, rfl, Nat.zero_le _, Nat.zero_le _⟩ (Nat.le_of_ble_eq_true rfl) dX6_question_43 ?_
        refine V.aload_n C dX6_question_46 rfl ?_
        refine V.get C (q0 := 0) (k := 0) rfl rfl (by decide) iX6 (by decide +kernel) rfl rfl dX6_question_47 ?_
        refine V.iload_n C dX6_question_50 rfl ?_
        refine V.callVi C (ct_X2_add hT hQz hQ10) gX6_question_X2_add (n := 1) ⟨rfl, by decide, by decide, by decide +kernel⟩ rfl (q0 := 1) rfl rfl rfl rfl ⟨Nat.le_of_ble_eq_true rfl, Nat.le_of_ble_eq_true rfl⟩ ⟨rfl, rfl, Nat.zero_le _, Nat.zero_le _⟩ (Nat.le_of_ble_eq_true rfl) dX6_question_51 ?_
        refine hQ _ _ _ _ _ (Or.inr (Or.inl ⟨_, _, dX6_question_54, rfl, rfl, rfl, rfl⟩)) ⟨?_, rfl⟩
        rfl
      · exfalso
        exact c_3 (nI_lt (by omega) (by omega))
    · exfalso
      exact absurd c_2 (nI_nlt (by omega) (by omega))
set_option maxRecDepth 100000 in
set_option maxHeartbeats 4000000 in
theorem ct_X6_route {l : Launch} {D : va_G} {tys : List (ClassId × FieldType)} {cI : ClassId} {h : Nat → Nat} {σ : Nat → Nat → Int32} (hT : tys[0]? = some (cI, .int)) {q a : Nat} {t : Int32} {Q : Nat} (hQz : σ 1 0 = nI Q) (hQ10 : Q ≤ 10) (hA : ∀ f, f < Q → Nn (σ 8 f) 6) (hN : σ 4 0 = nI 0) (hq : q < Q) (ha : a < jA σ q) (ht : t = -1 ∨ ∃ j, t = nI j ∧ q < j ∧ j < Q) : Cd l D tys yX6_route wsX6_route ({ frames := 3, cells := 0, slots := 0, locals := 65 } : Room) (SW cI h σ) [.ref (h 0), .int (nI q), .int (nI a), .int t] (some (.int (jWay σ q a))) (SW cI h (sW σ 9 (q * 5 + a) t)) := by
  refine Ct.of [some (.ref (h 0)), some (.int (nI q)), some (.int (nI a)), some (.int t), none] (by decide) rfl rfl (Nat.le_of_ble_eq_true rfl) rfl (fun κ C hQ => ?_)
  have iX6 : ∀ z ∈ u_ws RX6 TX6 8, z ∈ wsX6_route := by decide +kernel
  have ha5 : a < 5 := by have := (hA q hq).2; unfold jA at ha; omega
  refine V.aload_n C dX6_route_0 rfl ?_
  refine V.iload_n C dX6_route_1 rfl ?_
  refine V.iload_n C dX6_route_2 rfl ?_
  refine V.callVv C (ct_X6_needAnswer hT hQz hQ10 hq (hA q hq) ha) gX6_route_X6_needAnswer (n := 2) ⟨rfl, by decide, by decide, by decide +kernel⟩ rfl (q0 := 0) rfl rfl rfl rfl ⟨Nat.le_of_ble_eq_true rfl, Nat.le_of_ble_eq_true rfl⟩ ⟨rfl, rfl, Nat.zero_le _, Nat.zero_le _⟩ (Nat.le_of_ble_eq_true rfl) dX6_route_3 ?_
  refine V.iload_n C dX6_route_6 rfl ?_
  refine V.iconst C (v := (-1)) dX6_route_7 (by decide) ?_
  refine V.icmp_eq C (tgt := 31) dX6_route_8 (by decide) (fun c_1 => ?_) (fun c_1 => ?_)
  · refine V.aload_n C dX6_route_31 rfl ?_
    refine V.callVv C (ct_X6_needNoInterview hN) gX6_route_X6_needNoInterview (n := 0) ⟨rfl, by decide, by decide, by decide +kernel⟩ rfl (q0 := 0) rfl rfl rfl rfl ⟨Nat.le_of_ble_eq_true rfl, Nat.le_of_ble_eq_true rfl⟩ ⟨rfl, rfl, Nat.zero_le _, Nat.zero_le _⟩ (Nat.le_of_ble_eq_true rfl) dX6_route_32 ?_
    refine V.aload_n C dX6_route_35 rfl ?_
    refine V.get C (q0 := 0) (k := 0) rfl rfl (by decide) iX6 (by decide +kernel) rfl rfl dX6_route_36 ?_
    refine V.iload_n C dX6_route_39 rfl ?_
    refine V.iload_n C dX6_route_40 rfl ?_
    refine V.callVi C (ct_X2_wayFrom hT (by omega) ha5) gX6_route_X2_wayFrom (n := 2) ⟨rfl, by decide, by decide, by decide +kernel⟩ rfl (q0 := 1) rfl rfl rfl rfl ⟨Nat.le_of_ble_eq_true rfl, Nat.le_of_ble_eq_true rfl⟩ ⟨rfl, rfl, Nat.zero_le _, Nat.zero_le _⟩ (Nat.le_of_ble_eq_true rfl) dX6_route_41 ?_
    refine V.istore C dX6_route_44 (by decide) rfl ?_
    dsimp only [List.set]
    refine V.aload_n C dX6_route_46 rfl ?_
    refine V.get C (q0 := 0) (k := 0) rfl rfl (by decide) iX6 (by decide +kernel) rfl rfl dX6_route_47 ?_
    refine V.iload_n C dX6_route_50 rfl ?_
    refine V.iload_n C dX6_route_51 rfl ?_
    refine V.iload_n C dX6_route_52 rfl ?_
    refine V.callVv C (ct_X2_setWay hT (by omega) ha5) gX6_route_X2_setWay (n := 3) ⟨rfl, by decide, by decide, by decide +kernel⟩ rfl (q0 := 1) rfl rfl rfl rfl ⟨Nat.le_of_ble_eq_true rfl, Nat.le_of_ble_eq_true rfl⟩ ⟨rfl, rfl, Nat.zero_le _, Nat.zero_le _⟩ (Nat.le_of_ble_eq_true rfl) dX6_route_53 ?_
    refine V.iload C dX6_route_56 rfl ?_
    refine hQ _ _ _ _ _ (Or.inr (Or.inl ⟨_, _, dX6_route_58, rfl, rfl, rfl, rfl⟩)) ⟨?_, rfl⟩
    rfl
  · obtain ⟨j, rfl, hj1, hj2⟩ := ht.resolve_left c_1
    refine V.aload_n C dX6_route_11 rfl ?_
    refine V.iload_n C dX6_route_12 rfl ?_
    refine V.callVv C (ct_X6_needQuestion hQz hQ10 hj2) gX6_route_X6_needQuestion (n := 1) ⟨rfl, by decide, by decide, by decide +kernel⟩ rfl (q0 := 0) rfl rfl rfl rfl ⟨Nat.le_of_ble_eq_true rfl, Nat.le_of_ble_eq_true rfl⟩ ⟨rfl, rfl, Nat.zero_le _, Nat.zero_le _⟩ (Nat.le_of_ble_eq_true rfl) dX6_route_13 ?_
    refine V.iload_n C dX6_route_16 rfl ?_
    refine V.iload_n C dX6_route_17 rfl ?_
    refine V.icmp_gt C (tgt := 31) dX6_route_18 (by decide) (fun c_2 => ?_) (fun c_2 => ?_)
    · refine V.aload_n C dX6_route_31 rfl ?_
      refine V.callVv C (ct_X6_needNoInterview hN) gX6_route_X6_needNoInterview (n := 0) ⟨rfl, by decide, by decide, by decide +kernel⟩ rfl (q0 := 0) rfl rfl rfl rfl ⟨Nat.le_of_ble_eq_true rfl, Nat.le_of_ble_eq_true rfl⟩ ⟨rfl, rfl, Nat.zero_le _, Nat.zero_le _⟩ (Nat.le_of_ble_eq_true rfl) dX6_route_32 ?_
      refine V.aload_n C dX6_route_35 rfl ?_
      refine V.get C (q0 := 0) (k := 0) rfl rfl (by decide) iX6 (by decide +kernel) rfl rfl dX6_route_36 ?_
      refine V.iload_n C dX6_route_39 rfl ?_
      refine V.iload_n C dX6_route_40 rfl ?_
      refine V.callVi C (ct_X2_wayFrom hT (by omega) ha5) gX6_route_X2_wayFrom (n := 2) ⟨rfl, by decide, by decide, by decide +kernel⟩ rfl (q0 := 1) rfl rfl rfl rfl ⟨Nat.le_of_ble_eq_true rfl, Nat.le_of_ble_eq_true rfl⟩ ⟨rfl, rfl, Nat.zero_le _, Nat.zero_le _⟩ (Nat.le_of_ble_eq_true rfl) dX6_route_41 ?_
      refine V.istore C dX6_route_44 (by decide) rfl ?_
      dsimp only [List.set]
      refine V.aload_n C dX6_route_46 rfl ?_
      refine V.get C (q0 := 0) (k := 0) rfl rfl (by decide) iX6 (by decide +kernel) rfl rfl dX6_route_47 ?_
      refine V.iload_n C dX6_route_50 rfl ?_
      refine V.iload_n C dX6_route_51 rfl ?_
      refine V.iload_n C dX6_route_52 rfl ?_
      refine V.callVv C (ct_X2_setWay hT (by omega) ha5) gX6_route_X2_setWay (n := 3) ⟨rfl, by decide, by decide, by decide +kernel⟩ rfl (q0 := 1) rfl rfl rfl rfl ⟨Nat.le_of_ble_eq_true rfl, Nat.le_of_ble_eq_true rfl⟩ ⟨rfl, rfl, Nat.zero_le _, Nat.zero_le _⟩ (Nat.le_of_ble_eq_true rfl) dX6_route_53 ?_
      refine V.iload C dX6_route_56 rfl ?_
      refine hQ _ _ _ _ _ (Or.inr (Or.inl ⟨_, _, dX6_route_58, rfl, rfl, rfl, rfl⟩)) ⟨?_, rfl⟩
      rfl
    · exfalso
      exact c_2 (nI_lt (by omega) (by omega))
set_option maxRecDepth 100000 in
set_option maxHeartbeats 4000000 in
theorem ct_X6_rotate {l : Launch} {D : va_G} {tys : List (ClassId × FieldType)} {cI : ClassId} {h : Nat → Nat} {σ : Nat → Nat → Int32} (hT : tys[0]? = some (cI, .int)) {r : Nat} {Q : Nat} (hQz : σ 1 0 = nI Q) (hQ10 : Q ≤ 10) (hN : σ 4 0 = nI 0) (hr : r ≤ 3) (hrQ : r ≤ Q) : Cd l D tys yX6_rotate wsX6_rotate ({ frames := 2, cells := 0, slots := 0, locals := 40 } : Room) (SW cI h σ) [.ref (h 0), .int (nI r)] (some (.int (σ 1 1))) (SW cI h (sW σ 1 1 (nI r))) := by
  refine Ct.of [some (.ref (h 0)), some (.int (nI r)), none] (by decide) rfl rfl (Nat.le_of_ble_eq_true rfl) rfl (fun κ C hQ => ?_)
  have iX6 : ∀ z ∈ u_ws RX6 TX6 8, z ∈ wsX6_rotate := by decide +kernel
  refine V.iload_n C dX6_rotate_0 rfl ?_
  refine V.if_lt C (tgt := 20) dX6_rotate_1 (by decide) (fun c_1 => ?_) (fun c_1 => ?_)
  · exfalso
    exact nI_pos (by omega) c_1
  · refine V.iload_n C dX6_rotate_4 rfl ?_
    refine V.iconst C (v := nI 3) dX6_rotate_5 (by decide) ?_
    refine V.icmp_gt C (tgt := 20) dX6_rotate_6 (by decide) (fun c_2 => ?_) (fun c_2 => ?_)
    · exfalso
      exact absurd c_2 (nI_nlt (by omega) (by omega))
    · refine V.iload_n C dX6_rotate_9 rfl ?_
      refine V.aload_n C dX6_rotate_10 rfl ?_
      refine V.get C (q0 := 0) (k := 0) rfl rfl (by decide) iX6 (by decide +kernel) rfl rfl dX6_rotate_11 ?_
      refine V.callVi C (ct_X2_size) gX6_rotate_X2_size (n := 0) ⟨rfl, by decide, by decide, by decide +kernel⟩ rfl (q0 := 1) rfl rfl rfl rfl ⟨Nat.le_of_ble_eq_true rfl, Nat.le_of_ble_eq_true rfl⟩ ⟨rfl, rfl, Nat.zero_le _, Nat.zero_le _⟩ (Nat.le_of_ble_eq_true rfl) dX6_rotate_14 ?_
      refine V.topi (y := nI Q) (hQz) ?_
      refine V.icmp_le C (tgt := 30) dX6_rotate_17 (by decide) (fun c_3 => ?_) (fun c_3 => ?_)
      · refine V.aload_n C dX6_rotate_30 rfl ?_
        refine V.callVv C (ct_X6_needNoInterview hN) gX6_rotate_X6_needNoInterview (n := 0) ⟨rfl, by decide, by decide, by decide +kernel⟩ rfl (q0 := 0) rfl rfl rfl rfl ⟨Nat.le_of_ble_eq_true rfl, Nat.le_of_ble_eq_true rfl⟩ ⟨rfl, rfl, Nat.zero_le _, Nat.zero_le _⟩ (Nat.le_of_ble_eq_true rfl) dX6_rotate_31 ?_
        refine V.aload_n C dX6_rotate_34 rfl ?_
        refine V.get C (q0 := 0) (k := 0) rfl rfl (by decide) iX6 (by decide +kernel) rfl rfl dX6_rotate_35 ?_
        refine V.callVi C (ct_X2_rotation) gX6_rotate_X2_rotation (n := 0) ⟨rfl, by decide, by decide, by decide +kernel⟩ rfl (q0 := 1) rfl rfl rfl rfl ⟨Nat.le_of_ble_eq_true rfl, Nat.le_of_ble_eq_true rfl⟩ ⟨rfl, rfl, Nat.zero_le _, Nat.zero_le _⟩ (Nat.le_of_ble_eq_true rfl) dX6_rotate_38 ?_
        refine V.istore_n C dX6_rotate_41 (by decide) rfl ?_
        dsimp only [List.set, Fin.val]
        refine V.aload_n C dX6_rotate_42 rfl ?_
        refine V.get C (q0 := 0) (k := 0) rfl rfl (by decide) iX6 (by decide +kernel) rfl rfl dX6_rotate_43 ?_
        refine V.iload_n C dX6_rotate_46 rfl ?_
        refine V.callVv C (ct_X2_setRotation) gX6_rotate_X2_setRotation (n := 1) ⟨rfl, by decide, by decide, by decide +kernel⟩ rfl (q0 := 1) rfl rfl rfl rfl ⟨Nat.le_of_ble_eq_true rfl, Nat.le_of_ble_eq_true rfl⟩ ⟨rfl, rfl, Nat.zero_le _, Nat.zero_le _⟩ (Nat.le_of_ble_eq_true rfl) dX6_rotate_47 ?_
        refine V.iload_n C dX6_rotate_50 rfl ?_
        refine hQ _ _ _ _ _ (Or.inr (Or.inl ⟨_, _, dX6_rotate_51, rfl, rfl, rfl, rfl⟩)) ⟨?_, rfl⟩
        rfl
      · exfalso
        exact absurd c_3 (nI_nlt (by omega) (by omega))
set_option maxRecDepth 100000 in
set_option maxHeartbeats 4000000 in
theorem ct_X6_person {l : Launch} {D : va_G} {tys : List (ClassId × FieldType)} {cI : ClassId} {h : Nat → Nat} {σ : Nat → Nat → Int32} (hT : tys[0]? = some (cI, .int)) {a b P : Nat} (hP : σ 3 0 = nI P) (hP24 : P < 24) (ha : a < 3) (hb : b < 2) : Cd l D tys yX6_person wsX6_person ({ frames := 1, cells := 0, slots := 0, locals := 21 } : Room) (SW cI h σ) [.ref (h 0), .int (nI a), .int (nI b)] (some (.int (nI P))) (SW cI h (sW (sW (sW σ 13 P (nI (a * 2 + b))) 16 P (-1)) 3 0 (nI (P + 1)))) := by
  refine Ct.of [some (.ref (h 0)), some (.int (nI a)), some (.int (nI b))] (by decide) rfl rfl (Nat.le_of_ble_eq_true rfl) rfl (fun κ C hQ => ?_)
  have iX6 : ∀ z ∈ u_ws RX6 TX6 8, z ∈ wsX6_person := by decide +kernel
  refine V.iload_n C dX6_person_0 rfl ?_
  refine V.callSi C (ct_X6_isA) gX6_person_X6_isA (n := 1) ⟨rfl, by decide, by decide, by decide +kernel⟩ rfl rfl rfl ⟨Nat.le_of_ble_eq_true rfl, Nat.le_of_ble_eq_true rfl⟩ ⟨rfl, rfl, Nat.zero_le _, Nat.zero_le _⟩ (Nat.le_of_ble_eq_true rfl) dX6_person_1 ?_
  refine V.topi (y := bI true) (by simp only [nI_pos (show a < 2 ^ 31 by omega), nI_lt (show a < 3 by omega) (by decide), decide_true, decide_false, Bool.not_false, Bool.and_self]) ?_
  refine V.if_eq C (tgt := 14) dX6_person_4 (by decide) (fun c_1 => ?_) (fun c_1 => ?_)
  · exfalso
    exact absurd c_1 (by decide)
  · refine V.iload_n C dX6_person_7 rfl ?_
    refine V.callSi C (ct_X6_isB) gX6_person_X6_isB (n := 1) ⟨rfl, by decide, by decide, by decide +kernel⟩ rfl rfl rfl ⟨Nat.le_of_ble_eq_true rfl, Nat.le_of_ble_eq_true rfl⟩ ⟨rfl, rfl, Nat.zero_le _, Nat.zero_le _⟩ (Nat.le_of_ble_eq_true rfl) dX6_person_8 ?_
    refine V.topi (y := bI true) (by simp only [nI_pos (show b < 2 ^ 31 by omega), nI_lt (show b < 2 by omega) (by decide), decide_true, decide_false, Bool.not_false, Bool.and_self]) ?_
    refine V.if_ne C (tgt := 24) dX6_person_11 (by decide) (fun c_2 => ?_) (fun c_2 => ?_)
    · refine V.aload_n C dX6_person_24 rfl ?_
      refine V.get C (q0 := 0) (k := 2) rfl rfl (by decide) iX6 (by decide +kernel) rfl rfl dX6_person_25 ?_
      refine V.callVi C (ct_X1_size) gX6_person_X1_size (n := 0) ⟨rfl, by decide, by decide, by decide +kernel⟩ rfl (q0 := 3) rfl rfl rfl rfl ⟨Nat.le_of_ble_eq_true rfl, Nat.le_of_ble_eq_true rfl⟩ ⟨rfl, rfl, Nat.zero_le _, Nat.zero_le _⟩ (Nat.le_of_ble_eq_true rfl) dX6_person_28 ?_
      refine V.topi (y := nI P) (hP) ?_
      refine V.bipush C (v := nI 24) dX6_person_31 (by decide) ?_
      refine V.icmp_lt C (tgt := 46) dX6_person_33 (by decide) (fun c_3 => ?_) (fun c_3 => ?_)
      · refine V.aload_n C dX6_person_46 rfl ?_
        refine V.get C (q0 := 0) (k := 2) rfl rfl (by decide) iX6 (by decide +kernel) rfl rfl dX6_person_47 ?_
        refine V.iload_n C dX6_person_50 rfl ?_
        refine V.iload_n C dX6_person_51 rfl ?_
        refine V.callSi C (ct_X6_cellAt) gX6_person_X6_cellAt (n := 2) ⟨rfl, by decide, by decide, by decide +kernel⟩ rfl rfl rfl ⟨Nat.le_of_ble_eq_true rfl, Nat.le_of_ble_eq_true rfl⟩ ⟨rfl, rfl, Nat.zero_le _, Nat.zero_le _⟩ (Nat.le_of_ble_eq_true rfl) dX6_person_52 ?_
        refine V.callVi C (ct_X1_add hT hP hP24) gX6_person_X1_add (n := 1) ⟨rfl, by decide, by decide, by decide +kernel⟩ rfl (q0 := 3) rfl rfl rfl rfl ⟨Nat.le_of_ble_eq_true rfl, Nat.le_of_ble_eq_true rfl⟩ ⟨rfl, rfl, Nat.zero_le _, Nat.zero_le _⟩ (Nat.le_of_ble_eq_true rfl) dX6_person_55 ?_
        refine hQ _ _ _ _ _ (Or.inr (Or.inl ⟨_, _, dX6_person_58, rfl, rfl, rfl, rfl⟩)) ⟨?_, rfl⟩
        rfl
      · exfalso
        exact c_3 (nI_lt (by omega) (by omega))
    · exfalso
      exact absurd c_2 (by decide)
set_option maxRecDepth 100000 in
set_option maxHeartbeats 4000000 in
theorem ct_X6_target {l : Launch} {D : va_G} {tys : List (ClassId × FieldType)} {cI : ClassId} {h : Nat → Nat} {σ : Nat → Nat → Int32} (hT : tys[0]? = some (cI, .int)) {a b t : Nat} {N : Nat} (hN : σ 4 0 = nI N) (hN40 : N ≤ 40) (hce : ∀ i, i < N → Nn (σ 18 i) 6) {n : Nat} (hn0 : σ 0 0 = nI n) (hn9 : n ≤ 9) (ha : a < 3) (hb : b < 2) (ht : t ≤ 9) : Cd l D tys yX6_target wsX6_target ({ frames := 6, cells := 0, slots := 0, locals := 135 } : Room) (SW cI h σ) [.ref (h 0), .int (nI a), .int (nI b), .int (nI t)] (some (.int (σ 11 (a * 2 + b)))) (SW cI h (jWeigh (sW σ 11 (a * 2 + b) (nI t)) 24 N n)) := by
  refine Ct.of [some (.ref (h 0)), some (.int (nI a)), some (.int (nI b)), some (.int (nI t)), none, none] (by decide) rfl rfl (Nat.le_of_ble_eq_true rfl) rfl (fun κ C hQ => ?_)
  have iX6 : ∀ z ∈ u_ws RX6 TX6 8, z ∈ wsX6_target := by decide +kernel
  refine V.iload_n C dX6_target_0 rfl ?_
  refine V.iload_n C dX6_target_1 rfl ?_
  refine V.callSv C (ct_X6_needCell ha hb) gX6_target_X6_needCell (n := 2) ⟨rfl, by decide, by decide, by decide +kernel⟩ rfl rfl rfl ⟨Nat.le_of_ble_eq_true rfl, Nat.le_of_ble_eq_true rfl⟩ ⟨rfl, rfl, Nat.zero_le _, Nat.zero_le _⟩ (Nat.le_of_ble_eq_true rfl) dX6_target_2 ?_
  refine V.iload_n C dX6_target_5 rfl ?_
  refine V.if_lt C (tgt := 15) dX6_target_6 (by decide) (fun c_1 => ?_) (fun c_1 => ?_)
  · exfalso
    exact nI_pos (by omega) c_1
  · refine V.iload_n C dX6_target_9 rfl ?_
    refine V.bipush C (v := nI 9) dX6_target_10 (by decide) ?_
    refine V.icmp_le C (tgt := 25) dX6_target_12 (by decide) (fun c_2 => ?_) (fun c_2 => ?_)
    · refine V.iload_n C dX6_target_25 rfl ?_
      refine V.iload_n C dX6_target_26 rfl ?_
      refine V.callSi C (ct_X6_cellAt) gX6_target_X6_cellAt (n := 2) ⟨rfl, by decide, by decide, by decide +kernel⟩ rfl rfl rfl ⟨Nat.le_of_ble_eq_true rfl, Nat.le_of_ble_eq_true rfl⟩ ⟨rfl, rfl, Nat.zero_le _, Nat.zero_le _⟩ (Nat.le_of_ble_eq_true rfl) dX6_target_27 ?_
      refine V.istore C dX6_target_30 (by decide) rfl ?_
      dsimp only [List.set]
      refine V.aload_n C dX6_target_32 rfl ?_
      refine V.get C (q0 := 0) (k := 1) rfl rfl (by decide) iX6 (by decide +kernel) rfl rfl dX6_target_33 ?_
      refine V.iload C dX6_target_36 rfl ?_
      refine V.callVi C (ct_X3_targetOf hT (by omega)) gX6_target_X3_targetOf (n := 1) ⟨rfl, by decide, by decide, by decide +kernel⟩ rfl (q0 := 2) rfl rfl rfl rfl ⟨Nat.le_of_ble_eq_true rfl, Nat.le_of_ble_eq_true rfl⟩ ⟨rfl, rfl, Nat.zero_le _, Nat.zero_le _⟩ (Nat.le_of_ble_eq_true rfl) dX6_target_38 ?_
      refine V.istore C dX6_target_41 (by decide) rfl ?_
      dsimp only [List.set]
      refine V.aload_n C dX6_target_43 rfl ?_
      refine V.get C (q0 := 0) (k := 1) rfl rfl (by decide) iX6 (by decide +kernel) rfl rfl dX6_target_44 ?_
      refine V.iload C dX6_target_47 rfl ?_
      refine V.iload_n C dX6_target_49 rfl ?_
      refine V.callVv C (ct_X3_setTarget hT (by omega)) gX6_target_X3_setTarget (n := 2) ⟨rfl, by decide, by decide, by decide +kernel⟩ rfl (q0 := 2) rfl rfl rfl rfl ⟨Nat.le_of_ble_eq_true rfl, Nat.le_of_ble_eq_true rfl⟩ ⟨rfl, rfl, Nat.zero_le _, Nat.zero_le _⟩ (Nat.le_of_ble_eq_true rfl) dX6_target_50 ?_
      refine V.aload_n C dX6_target_53 rfl ?_
      refine V.callVv C (ct_X6_reweigh (σ := sW σ 11 (a * 2 + b) (nI t)) hT hN hN40 hce hn0 hn9) gX6_target_X6_reweigh (n := 0) ⟨rfl, by decide, by decide, by decide +kernel⟩ rfl (q0 := 0) rfl rfl rfl rfl ⟨Nat.le_of_ble_eq_true rfl, Nat.le_of_ble_eq_true rfl⟩ ⟨rfl, rfl, Nat.zero_le _, Nat.zero_le _⟩ (Nat.le_of_ble_eq_true rfl) dX6_target_54 ?_
      refine V.iload C dX6_target_57 rfl ?_
      refine hQ _ _ _ _ _ (Or.inr (Or.inl ⟨_, _, dX6_target_59, rfl, rfl, rfl, rfl⟩)) ⟨?_, rfl⟩
      rfl
    · exfalso
      exact absurd c_2 (nI_nlt (by omega) (by omega))
set_option maxRecDepth 100000 in
set_option maxHeartbeats 4000000 in
theorem ct_X6_soft {l : Launch} {D : va_G} {tys : List (ClassId × FieldType)} {cI : ClassId} {h : Nat → Nat} {σ : Nat → Nat → Int32} (hT : tys[0]? = some (cI, .int)) {x : Nat} (hx : x ≤ 3) : Cd l D tys yX6_soft wsX6_soft ({ frames := 1, cells := 0, slots := 0, locals := 21 } : Room) (SW cI h σ) [.ref (h 0), .int (nI x)] (some (.int (σ 2 0))) (SW cI h (sW σ 2 0 (nI x))) := by
  refine Ct.of [some (.ref (h 0)), some (.int (nI x)), none] (by decide) rfl rfl (Nat.le_of_ble_eq_true rfl) rfl (fun κ C hQ => ?_)
  have iX6 : ∀ z ∈ u_ws RX6 TX6 8, z ∈ wsX6_soft := by decide +kernel
  refine V.iload_n C dX6_soft_0 rfl ?_
  refine V.if_lt C (tgt := 9) dX6_soft_1 (by decide) (fun c_1 => ?_) (fun c_1 => ?_)
  · exfalso
    exact nI_pos (by omega) c_1
  · refine V.iload_n C dX6_soft_4 rfl ?_
    refine V.iconst C (v := nI 3) dX6_soft_5 (by decide) ?_
    refine V.icmp_le C (tgt := 19) dX6_soft_6 (by decide) (fun c_2 => ?_) (fun c_2 => ?_)
    · refine V.aload_n C dX6_soft_19 rfl ?_
      refine V.get C (q0 := 0) (k := 1) rfl rfl (by decide) iX6 (by decide +kernel) rfl rfl dX6_soft_20 ?_
      refine V.callVi C (ct_X3_softEdge) gX6_soft_X3_softEdge (n := 0) ⟨rfl, by decide, by decide, by decide +kernel⟩ rfl (q0 := 2) rfl rfl rfl rfl ⟨Nat.le_of_ble_eq_true rfl, Nat.le_of_ble_eq_true rfl⟩ ⟨rfl, rfl, Nat.zero_le _, Nat.zero_le _⟩ (Nat.le_of_ble_eq_true rfl) dX6_soft_23 ?_
      refine V.istore_n C dX6_soft_26 (by decide) rfl ?_
      dsimp only [List.set, Fin.val]
      refine V.aload_n C dX6_soft_27 rfl ?_
      refine V.get C (q0 := 0) (k := 1) rfl rfl (by decide) iX6 (by decide +kernel) rfl rfl dX6_soft_28 ?_
      refine V.iload_n C dX6_soft_31 rfl ?_
      refine V.callVv C (ct_X3_setSoftEdge) gX6_soft_X3_setSoftEdge (n := 1) ⟨rfl, by decide, by decide, by decide +kernel⟩ rfl (q0 := 2) rfl rfl rfl rfl ⟨Nat.le_of_ble_eq_true rfl, Nat.le_of_ble_eq_true rfl⟩ ⟨rfl, rfl, Nat.zero_le _, Nat.zero_le _⟩ (Nat.le_of_ble_eq_true rfl) dX6_soft_32 ?_
      refine V.iload_n C dX6_soft_35 rfl ?_
      refine hQ _ _ _ _ _ (Or.inr (Or.inl ⟨_, _, dX6_soft_36, rfl, rfl, rfl, rfl⟩)) ⟨?_, rfl⟩
      rfl
    · exfalso
      exact absurd c_2 (nI_nlt (by omega) (by omega))
set_option maxRecDepth 100000 in
set_option maxHeartbeats 4000000 in
theorem ct_X6_ofCell {l : Launch} {D : va_G} {tys : List (ClassId × FieldType)} {cI : ClassId} {h : Nat → Nat} {σ : Nat → Nat → Int32} (hT : tys[0]? = some (cI, .int)) {a b k : Nat} {N : Nat} (hN : σ 4 0 = nI N) (hN40 : N ≤ 40) {P : Nat} (hP : σ 3 0 = nI P) (hP24 : P ≤ 24) (hpc : ∀ p, p < P → Nn (σ 13 p) 6) (ha : a < 3) (hb : b < 2) (hk : k < 5) : Cd l D tys yX6_ofCell wsX6_ofCell ({ frames := 5, cells := 0, slots := 0, locals := 115 } : Room) (SW cI h σ) [.ref (h 0), .int (nI a), .int (nI b), .int (nI k)] (some (.int (jOfCell σ P (a * 2 + b) k))) (SW cI h σ) := by
  refine Ct.of [some (.ref (h 0)), some (.int (nI a)), some (.int (nI b)), some (.int (nI k)), none] (by decide) rfl rfl (Nat.le_of_ble_eq_true rfl) rfl (fun κ C hQ => ?_)
  have iX6 : ∀ z ∈ u_ws RX6 TX6 8, z ∈ wsX6_ofCell := by decide +kernel
  refine V.iload_n C dX6_ofCell_0 rfl ?_
  refine V.iload_n C dX6_ofCell_1 rfl ?_
  refine V.callSv C (ct_X6_needCell ha hb) gX6_ofCell_X6_needCell (n := 2) ⟨rfl, by decide, by decide, by decide +kernel⟩ rfl rfl rfl ⟨Nat.le_of_ble_eq_true rfl, Nat.le_of_ble_eq_true rfl⟩ ⟨rfl, rfl, Nat.zero_le _, Nat.zero_le _⟩ (Nat.le_of_ble_eq_true rfl) dX6_ofCell_2 ?_
  refine V.iload_n C dX6_ofCell_5 rfl ?_
  refine V.iload_n C dX6_ofCell_6 rfl ?_
  refine V.callSi C (ct_X6_cellAt) gX6_ofCell_X6_cellAt (n := 2) ⟨rfl, by decide, by decide, by decide +kernel⟩ rfl rfl rfl ⟨Nat.le_of_ble_eq_true rfl, Nat.le_of_ble_eq_true rfl⟩ ⟨rfl, rfl, Nat.zero_le _, Nat.zero_le _⟩ (Nat.le_of_ble_eq_true rfl) dX6_ofCell_7 ?_
  refine V.istore C dX6_ofCell_10 (by decide) rfl ?_
  dsimp only [List.set]
  refine V.iload_n C dX6_ofCell_12 rfl ?_
  rcases (show k = 0 ∨ k = 1 ∨ k = 2 ∨ k = 3 ∨ k = 4 by omega) with rfl | rfl | rfl | rfl | rfl
  · refine V.tableIn C (off := 35) (tgt := 48) dX6_ofCell_13 (by decide +kernel) (by decide +kernel) (by decide +kernel) (by decide) ?_
    refine V.aload_n C dX6_ofCell_48 rfl ?_
    refine V.get C (q0 := 0) (k := 1) rfl rfl (by decide) iX6 (by decide +kernel) rfl rfl dX6_ofCell_49 ?_
    refine V.iload C dX6_ofCell_52 rfl ?_
    refine V.callVi C (ct_X3_targetOf hT (by omega)) gX6_ofCell_X3_targetOf (n := 1) ⟨rfl, by decide, by decide, by decide +kernel⟩ rfl (q0 := 2) rfl rfl rfl rfl ⟨Nat.le_of_ble_eq_true rfl, Nat.le_of_ble_eq_true rfl⟩ ⟨rfl, rfl, Nat.zero_le _, Nat.zero_le _⟩ (Nat.le_of_ble_eq_true rfl) dX6_ofCell_54 ?_
    refine hQ _ _ _ _ _ (Or.inr (Or.inl ⟨_, _, dX6_ofCell_57, rfl, rfl, rfl, rfl⟩)) ⟨?_, rfl⟩
    first | rfl | (clear hQ C; (try simp only [bI_0] at *); first | (simp [jOfCell, bI_t2, bI_f2, *]; done) | (simp_all; done))
  · refine V.tableIn C (off := 45) (tgt := 58) dX6_ofCell_13 (by decide +kernel) (by decide +kernel) (by decide +kernel) (by decide) ?_
    refine V.aload_n C dX6_ofCell_58 rfl ?_
    refine V.get C (q0 := 0) (k := 1) rfl rfl (by decide) iX6 (by decide +kernel) rfl rfl dX6_ofCell_59 ?_
    refine V.iload C dX6_ofCell_62 rfl ?_
    refine V.callVi C (ct_X3_filledOf hT (by omega)) gX6_ofCell_X3_filledOf (n := 1) ⟨rfl, by decide, by decide, by decide +kernel⟩ rfl (q0 := 2) rfl rfl rfl rfl ⟨Nat.le_of_ble_eq_true rfl, Nat.le_of_ble_eq_true rfl⟩ ⟨rfl, rfl, Nat.zero_le _, Nat.zero_le _⟩ (Nat.le_of_ble_eq_true rfl) dX6_ofCell_64 ?_
    refine hQ _ _ _ _ _ (Or.inr (Or.inl ⟨_, _, dX6_ofCell_67, rfl, rfl, rfl, rfl⟩)) ⟨?_, rfl⟩
    first | rfl | (clear hQ C; (try simp only [bI_0] at *); first | (simp [jOfCell, bI_t2, bI_f2, *]; done) | (simp_all; done))
  · refine V.tableIn C (off := 55) (tgt := 68) dX6_ofCell_13 (by decide +kernel) (by decide +kernel) (by decide +kernel) (by decide) ?_
    refine V.aload_n C dX6_ofCell_68 rfl ?_
    refine V.get C (q0 := 0) (k := 1) rfl rfl (by decide) iX6 (by decide +kernel) rfl rfl dX6_ofCell_69 ?_
    refine V.iload C dX6_ofCell_72 rfl ?_
    refine V.callVi C (ct_X3_isOpen hT (by omega)) gX6_ofCell_X3_isOpen (n := 1) ⟨rfl, by decide, by decide, by decide +kernel⟩ rfl (q0 := 2) rfl rfl rfl rfl ⟨Nat.le_of_ble_eq_true rfl, Nat.le_of_ble_eq_true rfl⟩ ⟨rfl, rfl, Nat.zero_le _, Nat.zero_le _⟩ (Nat.le_of_ble_eq_true rfl) dX6_ofCell_74 ?_
    refine V.if_eq C (tgt := 84) dX6_ofCell_77 (by decide) (fun c_1 => ?_) (fun c_1 => ?_)
    · refine V.iconst C (v := nI 0) dX6_ofCell_84 (by decide) ?_
      refine hQ _ _ _ _ _ (Or.inr (Or.inl ⟨_, _, dX6_ofCell_85, rfl, rfl, rfl, rfl⟩)) ⟨?_, rfl⟩
      first | rfl | (clear hQ C; (try simp only [bI_0] at *); first | (simp [jOfCell, bI_t2, bI_f2, *]; done) | (simp_all; done))
    · refine V.iconst C (v := nI 1) dX6_ofCell_80 (by decide) ?_
      refine V.goto C (tgt := 85) dX6_ofCell_81 (by decide) ?_
      refine hQ _ _ _ _ _ (Or.inr (Or.inl ⟨_, _, dX6_ofCell_85, rfl, rfl, rfl, rfl⟩)) ⟨?_, rfl⟩
      first | rfl | (clear hQ C; (try simp only [bI_0] at *); first | (simp [jOfCell, bI_t2, bI_f2, *]; done) | (simp_all; done))
  · refine V.tableIn C (off := 73) (tgt := 86) dX6_ofCell_13 (by decide +kernel) (by decide +kernel) (by decide +kernel) (by decide) ?_
    refine V.aload_n C dX6_ofCell_86 rfl ?_
    refine V.get C (q0 := 0) (k := 2) rfl rfl (by decide) iX6 (by decide +kernel) rfl rfl dX6_ofCell_87 ?_
    refine V.iload C dX6_ofCell_90 rfl ?_
    refine V.callVi C (ct_X1_countOf hT hP hP24) gX6_ofCell_X1_countOf (n := 1) ⟨rfl, by decide, by decide, by decide +kernel⟩ rfl (q0 := 3) rfl rfl rfl rfl ⟨Nat.le_of_ble_eq_true rfl, Nat.le_of_ble_eq_true rfl⟩ ⟨rfl, rfl, Nat.zero_le _, Nat.zero_le _⟩ (Nat.le_of_ble_eq_true rfl) dX6_ofCell_92 ?_
    refine hQ _ _ _ _ _ (Or.inr (Or.inl ⟨_, _, dX6_ofCell_95, rfl, rfl, rfl, rfl⟩)) ⟨?_, rfl⟩
    first | rfl | (clear hQ C; (try simp only [bI_0] at *); first | (simp [jOfCell, bI_t2, bI_f2, *]; done) | (simp_all; done))
  · refine V.tableIn C (off := 83) (tgt := 96) dX6_ofCell_13 (by decide +kernel) (by decide +kernel) (by decide +kernel) (by decide) ?_
    refine V.aload_n C dX6_ofCell_96 rfl ?_
    refine V.iload C dX6_ofCell_97 rfl ?_
    refine V.callVi C (ct_X6_countToAsk hT hN hN40 hP hP24 hpc) gX6_ofCell_X6_countToAsk (n := 1) ⟨rfl, by decide, by decide, by decide +kernel⟩ rfl (q0 := 0) rfl rfl rfl rfl ⟨Nat.le_of_ble_eq_true rfl, Nat.le_of_ble_eq_true rfl⟩ ⟨rfl, rfl, Nat.zero_le _, Nat.zero_le _⟩ (Nat.le_of_ble_eq_true rfl) dX6_ofCell_99 ?_
    refine hQ _ _ _ _ _ (Or.inr (Or.inl ⟨_, _, dX6_ofCell_102, rfl, rfl, rfl, rfl⟩)) ⟨?_, rfl⟩
    first | rfl | (clear hQ C; (try simp only [bI_0] at *); first | (simp [jOfCell, bI_t2, bI_f2, *]; done) | (simp_all; done))
set_option maxRecDepth 100000 in
set_option maxHeartbeats 4000000 in
theorem ct_X6_ofPerson {l : Launch} {D : va_G} {tys : List (ClassId × FieldType)} {cI : ClassId} {h : Nat → Nat} {σ : Nat → Nat → Int32} (hT : tys[0]? = some (cI, .int)) {j k : Nat} {N : Nat} (hN : σ 4 0 = nI N) (hN40 : N ≤ 40) {P : Nat} (hP : σ 3 0 = nI P) (hP24 : P ≤ 24) (hpc : ∀ p, p < P → Nn (σ 13 p) 6) (hj : j < P) (hk : k < 6) : Cd l D tys yX6_ofPerson wsX6_ofPerson ({ frames := 4, cells := 0, slots := 0, locals := 92 } : Room) (SW cI h σ) [.ref (h 0), .int (nI j), .int (nI k)] (some (.int (jOfPerson σ j k))) (SW cI h σ) := by
  refine Ct.of [some (.ref (h 0)), some (.int (nI j)), some (.int (nI k))] (by decide) rfl rfl (Nat.le_of_ble_eq_true rfl) rfl (fun κ C hQ => ?_)
  have iX6 : ∀ z ∈ u_ws RX6 TX6 8, z ∈ wsX6_ofPerson := by decide +kernel
  refine V.aload_n C dX6_ofPerson_0 rfl ?_
  refine V.iload_n C dX6_ofPerson_1 rfl ?_
  refine V.callVv C (ct_X6_needPerson hP hP24 hj) gX6_ofPerson_X6_needPerson (n := 1) ⟨rfl, by decide, by decide, by decide +kernel⟩ rfl (q0 := 0) rfl rfl rfl rfl ⟨Nat.le_of_ble_eq_true rfl, Nat.le_of_ble_eq_true rfl⟩ ⟨rfl, rfl, Nat.zero_le _, Nat.zero_le _⟩ (Nat.le_of_ble_eq_true rfl) dX6_ofPerson_2 ?_
  refine V.iload_n C dX6_ofPerson_5 rfl ?_
  rcases (show k = 0 ∨ k = 1 ∨ k = 2 ∨ k = 3 ∨ k = 4 ∨ k = 5 by omega) with rfl | rfl | rfl | rfl | rfl | rfl
  · refine V.tableIn C (off := 38) (tgt := 44) dX6_ofPerson_6 (by decide +kernel) (by decide +kernel) (by decide +kernel) (by decide) ?_
    refine V.aload_n C dX6_ofPerson_44 rfl ?_
    refine V.get C (q0 := 0) (k := 2) rfl rfl (by decide) iX6 (by decide +kernel) rfl rfl dX6_ofPerson_45 ?_
    refine V.iload_n C dX6_ofPerson_48 rfl ?_
    refine V.callVi C (ct_X1_cellOf hT (by omega)) gX6_ofPerson_X1_cellOf (n := 1) ⟨rfl, by decide, by decide, by decide +kernel⟩ rfl (q0 := 3) rfl rfl rfl rfl ⟨Nat.le_of_ble_eq_true rfl, Nat.le_of_ble_eq_true rfl⟩ ⟨rfl, rfl, Nat.zero_le _, Nat.zero_le _⟩ (Nat.le_of_ble_eq_true rfl) dX6_ofPerson_49 ?_
    refine V.topi (y := nI (jPc σ j)) ((hpc j hj).1) ?_
    refine V.callSi C (ct_X6_aOf (hpc j hj).2) gX6_ofPerson_X6_aOf (n := 1) ⟨rfl, by decide, by decide, by decide +kernel⟩ rfl rfl rfl ⟨Nat.le_of_ble_eq_true rfl, Nat.le_of_ble_eq_true rfl⟩ ⟨rfl, rfl, Nat.zero_le _, Nat.zero_le _⟩ (Nat.le_of_ble_eq_true rfl) dX6_ofPerson_52 ?_
    refine hQ _ _ _ _ _ (Or.inr (Or.inl ⟨_, _, dX6_ofPerson_55, rfl, rfl, rfl, rfl⟩)) ⟨?_, rfl⟩
    first | rfl | (clear hQ C; (try simp only [bI_0] at *); first | (simp [jOfPerson, bI_t2, bI_f2, *]; done) | (simp_all; done))
  · refine V.tableIn C (off := 50) (tgt := 56) dX6_ofPerson_6 (by decide +kernel) (by decide +kernel) (by decide +kernel) (by decide) ?_
    refine V.aload_n C dX6_ofPerson_56 rfl ?_
    refine V.get C (q0 := 0) (k := 2) rfl rfl (by decide) iX6 (by decide +kernel) rfl rfl dX6_ofPerson_57 ?_
    refine V.iload_n C dX6_ofPerson_60 rfl ?_
    refine V.callVi C (ct_X1_cellOf hT (by omega)) gX6_ofPerson_X1_cellOf (n := 1) ⟨rfl, by decide, by decide, by decide +kernel⟩ rfl (q0 := 3) rfl rfl rfl rfl ⟨Nat.le_of_ble_eq_true rfl, Nat.le_of_ble_eq_true rfl⟩ ⟨rfl, rfl, Nat.zero_le _, Nat.zero_le _⟩ (Nat.le_of_ble_eq_true rfl) dX6_ofPerson_61 ?_
    refine V.topi (y := nI (jPc σ j)) ((hpc j hj).1) ?_
    refine V.callSi C (ct_X6_bOf (hpc j hj).2) gX6_ofPerson_X6_bOf (n := 1) ⟨rfl, by decide, by decide, by decide +kernel⟩ rfl rfl rfl ⟨Nat.le_of_ble_eq_true rfl, Nat.le_of_ble_eq_true rfl⟩ ⟨rfl, rfl, Nat.zero_le _, Nat.zero_le _⟩ (Nat.le_of_ble_eq_true rfl) dX6_ofPerson_64 ?_
    refine hQ _ _ _ _ _ (Or.inr (Or.inl ⟨_, _, dX6_ofPerson_67, rfl, rfl, rfl, rfl⟩)) ⟨?_, rfl⟩
    first | rfl | (clear hQ C; (try simp only [bI_0] at *); first | (simp [jOfPerson, bI_t2, bI_f2, *]; done) | (simp_all; done))
  · refine V.tableIn C (off := 62) (tgt := 68) dX6_ofPerson_6 (by decide +kernel) (by decide +kernel) (by decide +kernel) (by decide) ?_
    refine V.aload_n C dX6_ofPerson_68 rfl ?_
    refine V.get C (q0 := 0) (k := 2) rfl rfl (by decide) iX6 (by decide +kernel) rfl rfl dX6_ofPerson_69 ?_
    refine V.iload_n C dX6_ofPerson_72 rfl ?_
    refine V.iconst C (v := nI 0) dX6_ofPerson_73 (by decide) ?_
    refine V.callVi C (ct_X1_fatigueIn hT (by omega)) gX6_ofPerson_X1_fatigueIn (n := 2) ⟨rfl, by decide, by decide, by decide +kernel⟩ rfl (q0 := 3) rfl rfl rfl rfl ⟨Nat.le_of_ble_eq_true rfl, Nat.le_of_ble_eq_true rfl⟩ ⟨rfl, rfl, Nat.zero_le _, Nat.zero_le _⟩ (Nat.le_of_ble_eq_true rfl) dX6_ofPerson_74 ?_
    refine hQ _ _ _ _ _ (Or.inr (Or.inl ⟨_, _, dX6_ofPerson_77, rfl, rfl, rfl, rfl⟩)) ⟨?_, rfl⟩
    first | rfl | (clear hQ C; (try simp only [bI_0] at *); first | (simp [jOfPerson, bI_t2, bI_f2, *]; done) | (simp_all; done))
  · refine V.tableIn C (off := 72) (tgt := 78) dX6_ofPerson_6 (by decide +kernel) (by decide +kernel) (by decide +kernel) (by decide) ?_
    refine V.aload_n C dX6_ofPerson_78 rfl ?_
    refine V.get C (q0 := 0) (k := 2) rfl rfl (by decide) iX6 (by decide +kernel) rfl rfl dX6_ofPerson_79 ?_
    refine V.iload_n C dX6_ofPerson_82 rfl ?_
    refine V.callVi C (ct_X1_pointsOf hT (by omega)) gX6_ofPerson_X1_pointsOf (n := 1) ⟨rfl, by decide, by decide, by decide +kernel⟩ rfl (q0 := 3) rfl rfl rfl rfl ⟨Nat.le_of_ble_eq_true rfl, Nat.le_of_ble_eq_true rfl⟩ ⟨rfl, rfl, Nat.zero_le _, Nat.zero_le _⟩ (Nat.le_of_ble_eq_true rfl) dX6_ofPerson_83 ?_
    refine hQ _ _ _ _ _ (Or.inr (Or.inl ⟨_, _, dX6_ofPerson_86, rfl, rfl, rfl, rfl⟩)) ⟨?_, rfl⟩
    first | rfl | (clear hQ C; (try simp only [bI_0] at *); first | (simp [jOfPerson, bI_t2, bI_f2, *]; done) | (simp_all; done))
  · refine V.tableIn C (off := 81) (tgt := 87) dX6_ofPerson_6 (by decide +kernel) (by decide +kernel) (by decide +kernel) (by decide) ?_
    refine V.aload_n C dX6_ofPerson_87 rfl ?_
    refine V.iload_n C dX6_ofPerson_88 rfl ?_
    refine V.iconst C (v := nI 0) dX6_ofPerson_89 (by decide) ?_
    refine V.callVi C (ct_X6_canBeAsked hT hN hN40 (by omega) (hpc j hj)) gX6_ofPerson_X6_canBeAsked (n := 2) ⟨rfl, by decide, by decide, by decide +kernel⟩ rfl (q0 := 0) rfl rfl rfl rfl ⟨Nat.le_of_ble_eq_true rfl, Nat.le_of_ble_eq_true rfl⟩ ⟨rfl, rfl, Nat.zero_le _, Nat.zero_le _⟩ (Nat.le_of_ble_eq_true rfl) dX6_ofPerson_90 ?_
    refine V.if_eq C (tgt := 100) dX6_ofPerson_93 (by decide) (fun c_1 => ?_) (fun c_1 => ?_)
    · refine V.iconst C (v := nI 0) dX6_ofPerson_100 (by decide) ?_
      refine hQ _ _ _ _ _ (Or.inr (Or.inl ⟨_, _, dX6_ofPerson_101, rfl, rfl, rfl, rfl⟩)) ⟨?_, rfl⟩
      first | rfl | (clear hQ C; (try simp only [bI_0] at *); first | (simp [jOfPerson, bI_t2, bI_f2, *]; done) | (simp_all; done))
    · refine V.iconst C (v := nI 1) dX6_ofPerson_96 (by decide) ?_
      refine V.goto C (tgt := 101) dX6_ofPerson_97 (by decide) ?_
      refine hQ _ _ _ _ _ (Or.inr (Or.inl ⟨_, _, dX6_ofPerson_101, rfl, rfl, rfl, rfl⟩)) ⟨?_, rfl⟩
      first | rfl | (clear hQ C; (try simp only [bI_0] at *); first | (simp [jOfPerson, bI_t2, bI_f2, *]; done) | (simp_all; done))
  · refine V.tableIn C (off := 96) (tgt := 102) dX6_ofPerson_6 (by decide +kernel) (by decide +kernel) (by decide +kernel) (by decide) ?_
    refine V.aload_n C dX6_ofPerson_102 rfl ?_
    refine V.get C (q0 := 0) (k := 2) rfl rfl (by decide) iX6 (by decide +kernel) rfl rfl dX6_ofPerson_103 ?_
    refine V.iload_n C dX6_ofPerson_106 rfl ?_
    refine V.callVi C (ct_X1_latestOf hT (by omega)) gX6_ofPerson_X1_latestOf (n := 1) ⟨rfl, by decide, by decide, by decide +kernel⟩ rfl (q0 := 3) rfl rfl rfl rfl ⟨Nat.le_of_ble_eq_true rfl, Nat.le_of_ble_eq_true rfl⟩ ⟨rfl, rfl, Nat.zero_le _, Nat.zero_le _⟩ (Nat.le_of_ble_eq_true rfl) dX6_ofPerson_107 ?_
    refine hQ _ _ _ _ _ (Or.inr (Or.inl ⟨_, _, dX6_ofPerson_110, rfl, rfl, rfl, rfl⟩)) ⟨?_, rfl⟩
    first | rfl | (clear hQ C; (try simp only [bI_0] at *); first | (simp [jOfPerson, bI_t2, bI_f2, *]; done) | (simp_all; done))
set_option maxRecDepth 100000 in
set_option maxHeartbeats 4000000 in
theorem ct_X6_next {l : Launch} {D : va_G} {tys : List (ClassId × FieldType)} {cI : ClassId} {h : Nat → Nat} {σ : Nat → Nat → Int32} (hT : tys[0]? = some (cI, .int)) {N : Nat} (hN : σ 4 0 = nI N) (hN40 : N ≤ 40) {P : Nat} (hP : σ 3 0 = nI P) (hP24 : P ≤ 24) (hpc : ∀ p, p < P → Nn (σ 13 p) 6) : Cd l D tys yX6_next wsX6_next ({ frames := 5, cells := 0, slots := 0, locals := 115 } : Room) (SW cI h σ) [.ref (h 0)] (some (.int (jNxt σ (nI 0) P))) (SW cI h σ) := by
  refine Ct.of [some (.ref (h 0))] (by decide) rfl rfl (Nat.le_of_ble_eq_true rfl) rfl (fun κ C hQ => ?_)
  refine V.aload_n C dX6_next_0 rfl ?_
  refine V.iconst C (v := nI 0) dX6_next_1 (by decide) ?_
  refine V.callVi C (ct_X6_firstToAsk hT hN hN40 hP hP24 hpc) gX6_next_X6_firstToAsk (n := 1) ⟨rfl, by decide, by decide, by decide +kernel⟩ rfl (q0 := 0) rfl rfl rfl rfl ⟨Nat.le_of_ble_eq_true rfl, Nat.le_of_ble_eq_true rfl⟩ ⟨rfl, rfl, Nat.zero_le _, Nat.zero_le _⟩ (Nat.le_of_ble_eq_true rfl) dX6_next_2 ?_
  refine hQ _ _ _ _ _ (Or.inr (Or.inl ⟨_, _, dX6_next_5, rfl, rfl, rfl, rfl⟩)) ⟨?_, rfl⟩
  rfl
set_option maxRecDepth 100000 in
set_option maxHeartbeats 4000000 in
theorem ct_X6_day {l : Launch} {D : va_G} {tys : List (ClassId × FieldType)} {cI : ClassId} {h : Nat → Nat} {σ : Nat → Nat → Int32} (hT : tys[0]? = some (cI, .int)) {P : Nat} (hP : σ 3 0 = nI P) (hP24 : P ≤ 24) : Cd l D tys yX6_day wsX6_day ({ frames := 3, cells := 0, slots := 0, locals := 64 } : Room) (SW cI h σ) [.ref (h 0)] (some (.int (σ 3 1 + nI 1))) (SW cI h (jDay σ P)) := by
  refine Ct.of [some (.ref (h 0))] (by decide) rfl rfl (Nat.le_of_ble_eq_true rfl) rfl (fun κ C hQ => ?_)
  have iX6 : ∀ z ∈ u_ws RX6 TX6 8, z ∈ wsX6_day := by decide +kernel
  refine V.aload_n C dX6_day_0 rfl ?_
  refine V.get C (q0 := 0) (k := 2) rfl rfl (by decide) iX6 (by decide +kernel) rfl rfl dX6_day_1 ?_
  refine V.callVi C (ct_X1_beginDay hT hP hP24) gX6_day_X1_beginDay (n := 0) ⟨rfl, by decide, by decide, by decide +kernel⟩ rfl (q0 := 3) rfl rfl rfl rfl ⟨Nat.le_of_ble_eq_true rfl, Nat.le_of_ble_eq_true rfl⟩ ⟨rfl, rfl, Nat.zero_le _, Nat.zero_le _⟩ (Nat.le_of_ble_eq_true rfl) dX6_day_4 ?_
  refine hQ _ _ _ _ _ (Or.inr (Or.inl ⟨_, _, dX6_day_7, rfl, rfl, rfl, rfl⟩)) ⟨?_, rfl⟩
  rfl
set_option maxRecDepth 100000 in
set_option maxHeartbeats 4000000 in
theorem ct_X6_begin {l : Launch} {D : va_G} {tys : List (ClassId × FieldType)} {cI : ClassId} {h : Nat → Nat} {σ : Nat → Nat → Int32} (hT : tys[0]? = some (cI, .int)) {j N : Nat} (hN : σ 4 0 = nI N) (hN40 : N < 40) {P : Nat} (hP : σ 3 0 = nI P) (hP24 : P ≤ 24) (hpc : ∀ p, p < P → Nn (σ 13 p) 6) {Q : Nat} (hQz : σ 1 0 = nI Q) (hQ10 : Q ≤ 10) (hj : j < P) (hc : jCan σ j (nI 0) = true) (hQ0 : 0 < Q) : Cd l D tys yX6_begin wsX6_begin ({ frames := 4, cells := 0, slots := 0, locals := 92 } : Room) (SW cI h σ) [.ref (h 0), .int (nI j)] (some (.int (nI N))) (SW cI h (jBegin σ N j)) := by
  refine Ct.of [some (.ref (h 0)), some (.int (nI j)), none] (by decide) rfl rfl (Nat.le_of_ble_eq_true rfl) rfl (fun κ C hQ => ?_)
  have iX6 : ∀ z ∈ u_ws RX6 TX6 8, z ∈ wsX6_begin := by decide +kernel
  refine V.aload_n C dX6_begin_0 rfl ?_
  refine V.iload_n C dX6_begin_1 rfl ?_
  refine V.callVv C (ct_X6_needPerson hP hP24 hj) gX6_begin_X6_needPerson (n := 1) ⟨rfl, by decide, by decide, by decide +kernel⟩ rfl (q0 := 0) rfl rfl rfl rfl ⟨Nat.le_of_ble_eq_true rfl, Nat.le_of_ble_eq_true rfl⟩ ⟨rfl, rfl, Nat.zero_le _, Nat.zero_le _⟩ (Nat.le_of_ble_eq_true rfl) dX6_begin_2 ?_
  refine V.aload_n C dX6_begin_5 rfl ?_
  refine V.iload_n C dX6_begin_6 rfl ?_
  refine V.iconst C (v := nI 0) dX6_begin_7 (by decide) ?_
  refine V.callVi C (ct_X6_canBeAsked hT hN (by omega) (by omega) (hpc j hj)) gX6_begin_X6_canBeAsked (n := 2) ⟨rfl, by decide, by decide, by decide +kernel⟩ rfl (q0 := 0) rfl rfl rfl rfl ⟨Nat.le_of_ble_eq_true rfl, Nat.le_of_ble_eq_true rfl⟩ ⟨rfl, rfl, Nat.zero_le _, Nat.zero_le _⟩ (Nat.le_of_ble_eq_true rfl) dX6_begin_8 ?_
  refine V.topi (y := bI true) (by rw [hc]) ?_
  refine V.if_ne C (tgt := 24) dX6_begin_11 (by decide) (fun c_1 => ?_) (fun c_1 => ?_)
  · refine V.aload_n C dX6_begin_24 rfl ?_
    refine V.get C (q0 := 0) (k := 0) rfl rfl (by decide) iX6 (by decide +kernel) rfl rfl dX6_begin_25 ?_
    refine V.callVi C (ct_X2_size) gX6_begin_X2_size (n := 0) ⟨rfl, by decide, by decide, by decide +kernel⟩ rfl (q0 := 1) rfl rfl rfl rfl ⟨Nat.le_of_ble_eq_true rfl, Nat.le_of_ble_eq_true rfl⟩ ⟨rfl, rfl, Nat.zero_le _, Nat.zero_le _⟩ (Nat.le_of_ble_eq_true rfl) dX6_begin_28 ?_
    refine V.topi (y := nI Q) (hQz) ?_
    refine V.if_ne C (tgt := 44) dX6_begin_31 (by decide) (fun c_2 => ?_) (fun c_2 => ?_)
    · refine V.aload_n C dX6_begin_44 rfl ?_
      refine V.get C (q0 := 0) (k := 3) rfl rfl (by decide) iX6 (by decide +kernel) rfl rfl dX6_begin_45 ?_
      refine V.callVi C (ct_X0_size) gX6_begin_X0_size (n := 0) ⟨rfl, by decide, by decide, by decide +kernel⟩ rfl (q0 := 4) rfl rfl rfl rfl ⟨Nat.le_of_ble_eq_true rfl, Nat.le_of_ble_eq_true rfl⟩ ⟨rfl, rfl, Nat.zero_le _, Nat.zero_le _⟩ (Nat.le_of_ble_eq_true rfl) dX6_begin_48 ?_
      refine V.topi (y := nI N) (hN) ?_
      refine V.bipush C (v := nI 40) dX6_begin_51 (by decide) ?_
      refine V.icmp_lt C (tgt := 66) dX6_begin_53 (by decide) (fun c_3 => ?_) (fun c_3 => ?_)
      · refine V.aload_n C dX6_begin_66 rfl ?_
        refine V.get C (q0 := 0) (k := 3) rfl rfl (by decide) iX6 (by decide +kernel) rfl rfl dX6_begin_67 ?_
        refine V.iload_n C dX6_begin_70 rfl ?_
        refine V.aload_n C dX6_begin_71 rfl ?_
        refine V.get C (q0 := 0) (k := 2) rfl rfl (by decide) iX6 (by decide +kernel) rfl rfl dX6_begin_72 ?_
        refine V.iload_n C dX6_begin_75 rfl ?_
        refine V.callVi C (ct_X1_cellOf hT (by omega)) gX6_begin_X1_cellOf (n := 1) ⟨rfl, by decide, by decide, by decide +kernel⟩ rfl (q0 := 3) rfl rfl rfl rfl ⟨Nat.le_of_ble_eq_true rfl, Nat.le_of_ble_eq_true rfl⟩ ⟨rfl, rfl, Nat.zero_le _, Nat.zero_le _⟩ (Nat.le_of_ble_eq_true rfl) dX6_begin_76 ?_
        refine V.callVi C (ct_X0_add hT hN hN40) gX6_begin_X0_add (n := 2) ⟨rfl, by decide, by decide, by decide +kernel⟩ rfl (q0 := 4) rfl rfl rfl rfl ⟨Nat.le_of_ble_eq_true rfl, Nat.le_of_ble_eq_true rfl⟩ ⟨rfl, rfl, Nat.zero_le _, Nat.zero_le _⟩ (Nat.le_of_ble_eq_true rfl) dX6_begin_79 ?_
        refine V.istore_n C dX6_begin_82 (by decide) rfl ?_
        dsimp only [List.set, Fin.val]
        refine V.aload_n C dX6_begin_83 rfl ?_
        refine V.get C (q0 := 0) (k := 3) rfl rfl (by decide) iX6 (by decide +kernel) rfl rfl dX6_begin_84 ?_
        refine V.iload_n C dX6_begin_87 rfl ?_
        refine V.aload_n C dX6_begin_88 rfl ?_
        refine V.get C (q0 := 0) (k := 0) rfl rfl (by decide) iX6 (by decide +kernel) rfl rfl dX6_begin_89 ?_
        refine V.iload_n C dX6_begin_92 rfl ?_
        refine V.callVi C (ct_X2_firstOf) gX6_begin_X2_firstOf (n := 1) ⟨rfl, by decide, by decide, by decide +kernel⟩ rfl (q0 := 1) rfl rfl rfl rfl ⟨Nat.le_of_ble_eq_true rfl, Nat.le_of_ble_eq_true rfl⟩ ⟨rfl, rfl, Nat.zero_le _, Nat.zero_le _⟩ (Nat.le_of_ble_eq_true rfl) dX6_begin_93 ?_
        refine V.callVv C (ct_X0_moveTo hT (by omega)) gX6_begin_X0_moveTo (n := 2) ⟨rfl, by decide, by decide, by decide +kernel⟩ rfl (q0 := 4) rfl rfl rfl rfl ⟨Nat.le_of_ble_eq_true rfl, Nat.le_of_ble_eq_true rfl⟩ ⟨rfl, rfl, Nat.zero_le _, Nat.zero_le _⟩ (Nat.le_of_ble_eq_true rfl) dX6_begin_96 ?_
        refine V.aload_n C dX6_begin_99 rfl ?_
        refine V.get C (q0 := 0) (k := 2) rfl rfl (by decide) iX6 (by decide +kernel) rfl rfl dX6_begin_100 ?_
        refine V.iload_n C dX6_begin_103 rfl ?_
        refine V.iload_n C dX6_begin_104 rfl ?_
        refine V.callVv C (ct_X1_ask hT (by omega)) gX6_begin_X1_ask (n := 2) ⟨rfl, by decide, by decide, by decide +kernel⟩ rfl (q0 := 3) rfl rfl rfl rfl ⟨Nat.le_of_ble_eq_true rfl, Nat.le_of_ble_eq_true rfl⟩ ⟨rfl, rfl, Nat.zero_le _, Nat.zero_le _⟩ (Nat.le_of_ble_eq_true rfl) dX6_begin_105 ?_
        refine V.iload_n C dX6_begin_108 rfl ?_
        refine hQ _ _ _ _ _ (Or.inr (Or.inl ⟨_, _, dX6_begin_109, rfl, rfl, rfl, rfl⟩)) ⟨?_, rfl⟩
        rfl
      · exfalso
        exact c_3 (nI_lt (by omega) (by omega))
    · exfalso
      exact nI_ne0 hQ0 (by omega) c_2
  · exfalso
    exact absurd c_1 (by decide)
set_option maxRecDepth 100000 in
set_option maxHeartbeats 4000000 in
theorem ct_X6_answer {l : Launch} {D : va_G} {tys : List (ClassId × FieldType)} {cI : ClassId} {h : Nat → Nat} {σ : Nat → Nat → Int32} (hT : tys[0]? = some (cI, .int)) {i pl a s : Nat} {N : Nat} (hN : σ 4 0 = nI N) (hN40 : N ≤ 40) (hce : ∀ i, i < N → Nn (σ 18 i) 6) (hpe : ∀ i, i < N → Nn (σ 17 i) 24) {n : Nat} (hn0 : σ 0 0 = nI n) (hn9 : n ≤ 9) {Q : Nat} (hQz : σ 1 0 = nI Q) (hQ10 : Q ≤ 10) (hA : ∀ f, f < Q → Nn (σ 8 f) 6) (hi : i < N) (hs0 : σ 19 i = 0) (hpl : σ 20 i = nI pl) (hplQ : pl < Q) (ha : a < jA σ pl) (hs1 : 1 ≤ s) (hs99 : s ≤ 99) : Cd l D tys yX6_answer wsX6_answer ({ frames := 7, cells := 0, slots := 0, locals := 158 } : Room) (SW cI h σ) [.ref (h 0), .int (nI i), .int (nI a), .int (nI s)] (some (.int (jAnsT σ i pl a (nI s)))) (SW cI h (jAns σ N n i pl a (nI s))) := by
  refine Ct.of [some (.ref (h 0)), some (.int (nI i)), some (.int (nI a)), some (.int (nI s)), none, none] (by decide) rfl rfl (Nat.le_of_ble_eq_true rfl) rfl (fun κ C hQ => ?_)
  have iX6 : ∀ z ∈ u_ws RX6 TX6 8, z ∈ wsX6_answer := by decide +kernel
  have ha5 : a < 5 := by have := (hA pl hplQ).2; unfold jA at ha; omega
  refine V.aload_n C dX6_answer_0 rfl ?_
  refine V.iload_n C dX6_answer_1 rfl ?_
  refine V.callVv C (ct_X6_needInterview hN hN40 hi) gX6_answer_X6_needInterview (n := 1) ⟨rfl, by decide, by decide, by decide +kernel⟩ rfl (q0 := 0) rfl rfl rfl rfl ⟨Nat.le_of_ble_eq_true rfl, Nat.le_of_ble_eq_true rfl⟩ ⟨rfl, rfl, Nat.zero_le _, Nat.zero_le _⟩ (Nat.le_of_ble_eq_true rfl) dX6_answer_2 ?_
  refine V.aload_n C dX6_answer_5 rfl ?_
  refine V.get C (q0 := 0) (k := 3) rfl rfl (by decide) iX6 (by decide +kernel) rfl rfl dX6_answer_6 ?_
  refine V.iload_n C dX6_answer_9 rfl ?_
  refine V.callVi C (ct_X0_stateOf hT (by omega)) gX6_answer_X0_stateOf (n := 1) ⟨rfl, by decide, by decide, by decide +kernel⟩ rfl (q0 := 4) rfl rfl rfl rfl ⟨Nat.le_of_ble_eq_true rfl, Nat.le_of_ble_eq_true rfl⟩ ⟨rfl, rfl, Nat.zero_le _, Nat.zero_le _⟩ (Nat.le_of_ble_eq_true rfl) dX6_answer_10 ?_
  refine V.topi (y := 0) (hs0) ?_
  refine V.if_eq C (tgt := 26) dX6_answer_13 (by decide) (fun c_1 => ?_) (fun c_1 => ?_)
  · refine V.aload_n C dX6_answer_26 rfl ?_
    refine V.get C (q0 := 0) (k := 3) rfl rfl (by decide) iX6 (by decide +kernel) rfl rfl dX6_answer_27 ?_
    refine V.iload_n C dX6_answer_30 rfl ?_
    refine V.callVi C (ct_X0_placeOf hT (by omega)) gX6_answer_X0_placeOf (n := 1) ⟨rfl, by decide, by decide, by decide +kernel⟩ rfl (q0 := 4) rfl rfl rfl rfl ⟨Nat.le_of_ble_eq_true rfl, Nat.le_of_ble_eq_true rfl⟩ ⟨rfl, rfl, Nat.zero_le _, Nat.zero_le _⟩ (Nat.le_of_ble_eq_true rfl) dX6_answer_31 ?_
    refine V.topi (y := nI pl) (hpl) ?_
    refine V.istore C dX6_answer_34 (by decide) rfl ?_
    dsimp only [List.set]
    refine V.aload_n C dX6_answer_36 rfl ?_
    refine V.get C (q0 := 0) (k := 0) rfl rfl (by decide) iX6 (by decide +kernel) rfl rfl dX6_answer_37 ?_
    refine V.iload C dX6_answer_40 rfl ?_
    refine V.iload_n C dX6_answer_42 rfl ?_
    refine V.callVi C (ct_X2_offers hT (fun _ => ⟨rfl, by omega⟩)) gX6_answer_X2_offers (n := 2) ⟨rfl, by decide, by decide, by decide +kernel⟩ rfl (q0 := 1) rfl rfl rfl rfl ⟨Nat.le_of_ble_eq_true rfl, Nat.le_of_ble_eq_true rfl⟩ ⟨rfl, rfl, Nat.zero_le _, Nat.zero_le _⟩ (Nat.le_of_ble_eq_true rfl) dX6_answer_43 ?_
    refine V.topi (y := bI true) (by rw [jOff_t hQz hplQ hQ10 (hA pl hplQ) ha]) ?_
    refine V.if_ne C (tgt := 59) dX6_answer_46 (by decide) (fun c_2 => ?_) (fun c_2 => ?_)
    · refine V.iload_n C dX6_answer_59 rfl ?_
      refine V.iconst C (v := nI 1) dX6_answer_60 (by decide) ?_
      refine V.icmp_lt C (tgt := 70) dX6_answer_61 (by decide) (fun c_3 => ?_) (fun c_3 => ?_)
      · exfalso
        exact absurd c_3 (nI_nlt (by omega) (by omega))
      · refine V.iload_n C dX6_answer_64 rfl ?_
        refine V.bipush C (v := nI 99) dX6_answer_65 (by decide) ?_
        refine V.icmp_le C (tgt := 80) dX6_answer_67 (by decide) (fun c_4 => ?_) (fun c_4 => ?_)
        · refine V.aload_n C dX6_answer_80 rfl ?_
          refine V.get C (q0 := 0) (k := 3) rfl rfl (by decide) iX6 (by decide +kernel) rfl rfl dX6_answer_81 ?_
          refine V.iload_n C dX6_answer_84 rfl ?_
          refine V.iload C dX6_answer_85 rfl ?_
          refine V.iload_n C dX6_answer_87 rfl ?_
          refine V.iload_n C dX6_answer_88 rfl ?_
          refine V.callVv C (ct_X0_note hT (by omega) (by omega)) gX6_answer_X0_note (n := 4) ⟨rfl, by decide, by decide, by decide +kernel⟩ rfl (q0 := 4) rfl rfl rfl rfl ⟨Nat.le_of_ble_eq_true rfl, Nat.le_of_ble_eq_true rfl⟩ ⟨rfl, rfl, Nat.zero_le _, Nat.zero_le _⟩ (Nat.le_of_ble_eq_true rfl) dX6_answer_89 ?_
          refine V.aload_n C dX6_answer_92 rfl ?_
          refine V.get C (q0 := 0) (k := 0) rfl rfl (by decide) iX6 (by decide +kernel) rfl rfl dX6_answer_93 ?_
          refine V.iload_n C dX6_answer_96 rfl ?_
          refine V.aload_n C dX6_answer_97 rfl ?_
          refine V.get C (q0 := 0) (k := 3) rfl rfl (by decide) iX6 (by decide +kernel) rfl rfl dX6_answer_98 ?_
          refine V.iload_n C dX6_answer_101 rfl ?_
          refine V.callVi C (ct_X0_countOf hT (by omega)) gX6_answer_X0_countOf (n := 1) ⟨rfl, by decide, by decide, by decide +kernel⟩ rfl (q0 := 4) rfl rfl rfl rfl ⟨Nat.le_of_ble_eq_true rfl, Nat.le_of_ble_eq_true rfl⟩ ⟨rfl, rfl, Nat.zero_le _, Nat.zero_le _⟩ (Nat.le_of_ble_eq_true rfl) dX6_answer_102 ?_
          refine V.iload C dX6_answer_105 rfl ?_
          refine V.iload_n C dX6_answer_107 rfl ?_
          refine V.callVi C (ct_X2_nextOf hT (by omega) ha5) gX6_answer_X2_nextOf (n := 4) ⟨rfl, by decide, by decide, by decide +kernel⟩ rfl (q0 := 1) rfl rfl rfl rfl ⟨Nat.le_of_ble_eq_true rfl, Nat.le_of_ble_eq_true rfl⟩ ⟨rfl, rfl, Nat.zero_le _, Nat.zero_le _⟩ (Nat.le_of_ble_eq_true rfl) dX6_answer_108 ?_
          refine V.istore C dX6_answer_111 (by decide) rfl ?_
          dsimp only [List.set]
          refine V.aload_n C dX6_answer_113 rfl ?_
          refine V.get C (q0 := 0) (k := 3) rfl rfl (by decide) iX6 (by decide +kernel) rfl rfl dX6_answer_114 ?_
          refine V.iload_n C dX6_answer_117 rfl ?_
          refine V.iload C dX6_answer_118 rfl ?_
          refine V.callVv C (ct_X0_moveTo hT (by omega)) gX6_answer_X0_moveTo (n := 2) ⟨rfl, by decide, by decide, by decide +kernel⟩ rfl (q0 := 4) rfl rfl rfl rfl ⟨Nat.le_of_ble_eq_true rfl, Nat.le_of_ble_eq_true rfl⟩ ⟨rfl, rfl, Nat.zero_le _, Nat.zero_le _⟩ (Nat.le_of_ble_eq_true rfl) dX6_answer_120 ?_
          refine V.iload C dX6_answer_123 rfl ?_
          refine V.iconst C (v := (-1)) dX6_answer_125 (by decide) ?_
          refine V.icmp_ne C (tgt := 134) dX6_answer_126 (by decide) (fun c_5 => ?_) (fun c_5 => ?_)
          · refine V.iload C dX6_answer_134 rfl ?_
            refine hQ _ _ _ _ _ (Or.inr (Or.inl ⟨_, _, dX6_answer_136, rfl, rfl, rfl, rfl⟩)) ⟨?_, by (clear hQ C; (try simp only [bI_0, Bool.not_eq_false] at *); rw [jAns]; split <;> first | rfl | (exfalso; first | contradiction | (simp_all [jC]; done)))⟩
            rfl
          · refine V.aload_n C dX6_answer_129 rfl ?_
            refine V.iload_n C dX6_answer_130 rfl ?_
            refine V.callVv C (ct_X6_finish (σ := jAns1 σ i pl a (nI s)) hT hN hN40 hce hpe hn0 hn9 hi) gX6_answer_X6_finish (n := 1) ⟨rfl, by decide, by decide, by decide +kernel⟩ rfl (q0 := 0) rfl rfl rfl rfl ⟨Nat.le_of_ble_eq_true rfl, Nat.le_of_ble_eq_true rfl⟩ ⟨rfl, rfl, Nat.zero_le _, Nat.zero_le _⟩ (Nat.le_of_ble_eq_true rfl) dX6_answer_131 ?_
            refine V.iload C dX6_answer_134 rfl ?_
            refine hQ _ _ _ _ _ (Or.inr (Or.inl ⟨_, _, dX6_answer_136, rfl, rfl, rfl, rfl⟩)) ⟨?_, by (clear hQ C; (try simp only [bI_0, Bool.not_eq_false] at *); rw [jAns]; split <;> first | rfl | (exfalso; first | contradiction | (simp_all [jC]; done)))⟩
            rfl
        · exfalso
          exact absurd c_4 (nI_nlt (by omega) (by omega))
    · exfalso
      exact absurd c_2 (by decide)
  · exfalso
    exact c_1 rfl
set_option maxRecDepth 100000 in
set_option maxHeartbeats 4000000 in
theorem ct_X6_ofInterview {l : Launch} {D : va_G} {tys : List (ClassId × FieldType)} {cI : ClassId} {h : Nat → Nat} {σ : Nat → Nat → Int32} (hT : tys[0]? = some (cI, .int)) {i k : Nat} {N : Nat} (hN : σ 4 0 = nI N) (hN40 : N ≤ 40) (hi : i < N) (hk : k < 7) : Cd l D tys yX6_ofInterview wsX6_ofInterview ({ frames := 3, cells := 0, slots := 0, locals := 67 } : Room) (SW cI h σ) [.ref (h 0), .int (nI i), .int (nI k)] (some (.int (jOfIv σ i k))) (SW cI h σ) := by
  refine Ct.of [some (.ref (h 0)), some (.int (nI i)), some (.int (nI k))] (by decide) rfl rfl (Nat.le_of_ble_eq_true rfl) rfl (fun κ C hQ => ?_)
  have iX6 : ∀ z ∈ u_ws RX6 TX6 8, z ∈ wsX6_ofInterview := by decide +kernel
  refine V.aload_n C dX6_ofInterview_0 rfl ?_
  refine V.iload_n C dX6_ofInterview_1 rfl ?_
  refine V.callVv C (ct_X6_needInterview hN hN40 hi) gX6_ofInterview_X6_needInterview (n := 1) ⟨rfl, by decide, by decide, by decide +kernel⟩ rfl (q0 := 0) rfl rfl rfl rfl ⟨Nat.le_of_ble_eq_true rfl, Nat.le_of_ble_eq_true rfl⟩ ⟨rfl, rfl, Nat.zero_le _, Nat.zero_le _⟩ (Nat.le_of_ble_eq_true rfl) dX6_ofInterview_2 ?_
  refine V.iload_n C dX6_ofInterview_5 rfl ?_
  rcases (show k = 0 ∨ k = 1 ∨ k = 2 ∨ k = 3 ∨ k = 4 ∨ k = 5 ∨ k = 6 by omega) with rfl | rfl | rfl | rfl | rfl | rfl | rfl
  · refine V.tableIn C (off := 42) (tgt := 48) dX6_ofInterview_6 (by decide +kernel) (by decide +kernel) (by decide +kernel) (by decide) ?_
    refine V.aload_n C dX6_ofInterview_48 rfl ?_
    refine V.get C (q0 := 0) (k := 3) rfl rfl (by decide) iX6 (by decide +kernel) rfl rfl dX6_ofInterview_49 ?_
    refine V.iload_n C dX6_ofInterview_52 rfl ?_
    refine V.callVi C (ct_X0_personOf hT (by omega)) gX6_ofInterview_X0_personOf (n := 1) ⟨rfl, by decide, by decide, by decide +kernel⟩ rfl (q0 := 4) rfl rfl rfl rfl ⟨Nat.le_of_ble_eq_true rfl, Nat.le_of_ble_eq_true rfl⟩ ⟨rfl, rfl, Nat.zero_le _, Nat.zero_le _⟩ (Nat.le_of_ble_eq_true rfl) dX6_ofInterview_53 ?_
    refine hQ _ _ _ _ _ (Or.inr (Or.inl ⟨_, _, dX6_ofInterview_56, rfl, rfl, rfl, rfl⟩)) ⟨?_, rfl⟩
    first | rfl | (clear hQ C; (try simp only [bI_0] at *); first | (simp [jOfIv, bI_t2, bI_f2, *]; done) | (simp_all; done))
  · refine V.tableIn C (off := 51) (tgt := 57) dX6_ofInterview_6 (by decide +kernel) (by decide +kernel) (by decide +kernel) (by decide) ?_
    refine V.aload_n C dX6_ofInterview_57 rfl ?_
    refine V.get C (q0 := 0) (k := 3) rfl rfl (by decide) iX6 (by decide +kernel) rfl rfl dX6_ofInterview_58 ?_
    refine V.iload_n C dX6_ofInterview_61 rfl ?_
    refine V.callVi C (ct_X0_stateOf hT (by omega)) gX6_ofInterview_X0_stateOf (n := 1) ⟨rfl, by decide, by decide, by decide +kernel⟩ rfl (q0 := 4) rfl rfl rfl rfl ⟨Nat.le_of_ble_eq_true rfl, Nat.le_of_ble_eq_true rfl⟩ ⟨rfl, rfl, Nat.zero_le _, Nat.zero_le _⟩ (Nat.le_of_ble_eq_true rfl) dX6_ofInterview_62 ?_
    refine hQ _ _ _ _ _ (Or.inr (Or.inl ⟨_, _, dX6_ofInterview_65, rfl, rfl, rfl, rfl⟩)) ⟨?_, rfl⟩
    first | rfl | (clear hQ C; (try simp only [bI_0] at *); first | (simp [jOfIv, bI_t2, bI_f2, *]; done) | (simp_all; done))
  · refine V.tableIn C (off := 60) (tgt := 66) dX6_ofInterview_6 (by decide +kernel) (by decide +kernel) (by decide +kernel) (by decide) ?_
    refine V.aload_n C dX6_ofInterview_66 rfl ?_
    refine V.get C (q0 := 0) (k := 3) rfl rfl (by decide) iX6 (by decide +kernel) rfl rfl dX6_ofInterview_67 ?_
    refine V.iload_n C dX6_ofInterview_70 rfl ?_
    refine V.callVi C (ct_X0_placeOf hT (by omega)) gX6_ofInterview_X0_placeOf (n := 1) ⟨rfl, by decide, by decide, by decide +kernel⟩ rfl (q0 := 4) rfl rfl rfl rfl ⟨Nat.le_of_ble_eq_true rfl, Nat.le_of_ble_eq_true rfl⟩ ⟨rfl, rfl, Nat.zero_le _, Nat.zero_le _⟩ (Nat.le_of_ble_eq_true rfl) dX6_ofInterview_71 ?_
    refine hQ _ _ _ _ _ (Or.inr (Or.inl ⟨_, _, dX6_ofInterview_74, rfl, rfl, rfl, rfl⟩)) ⟨?_, rfl⟩
    first | rfl | (clear hQ C; (try simp only [bI_0] at *); first | (simp [jOfIv, bI_t2, bI_f2, *]; done) | (simp_all; done))
  · refine V.tableIn C (off := 69) (tgt := 75) dX6_ofInterview_6 (by decide +kernel) (by decide +kernel) (by decide +kernel) (by decide) ?_
    refine V.aload_n C dX6_ofInterview_75 rfl ?_
    refine V.get C (q0 := 0) (k := 3) rfl rfl (by decide) iX6 (by decide +kernel) rfl rfl dX6_ofInterview_76 ?_
    refine V.iload_n C dX6_ofInterview_79 rfl ?_
    refine V.callVi C (ct_X0_countOf hT (by omega)) gX6_ofInterview_X0_countOf (n := 1) ⟨rfl, by decide, by decide, by decide +kernel⟩ rfl (q0 := 4) rfl rfl rfl rfl ⟨Nat.le_of_ble_eq_true rfl, Nat.le_of_ble_eq_true rfl⟩ ⟨rfl, rfl, Nat.zero_le _, Nat.zero_le _⟩ (Nat.le_of_ble_eq_true rfl) dX6_ofInterview_80 ?_
    refine hQ _ _ _ _ _ (Or.inr (Or.inl ⟨_, _, dX6_ofInterview_83, rfl, rfl, rfl, rfl⟩)) ⟨?_, rfl⟩
    first | rfl | (clear hQ C; (try simp only [bI_0] at *); first | (simp [jOfIv, bI_t2, bI_f2, *]; done) | (simp_all; done))
  · refine V.tableIn C (off := 78) (tgt := 84) dX6_ofInterview_6 (by decide +kernel) (by decide +kernel) (by decide +kernel) (by decide) ?_
    refine V.aload_n C dX6_ofInterview_84 rfl ?_
    refine V.get C (q0 := 0) (k := 3) rfl rfl (by decide) iX6 (by decide +kernel) rfl rfl dX6_ofInterview_85 ?_
    refine V.iload_n C dX6_ofInterview_88 rfl ?_
    refine V.callVi C (ct_X0_secondsOf hT (by omega)) gX6_ofInterview_X0_secondsOf (n := 1) ⟨rfl, by decide, by decide, by decide +kernel⟩ rfl (q0 := 4) rfl rfl rfl rfl ⟨Nat.le_of_ble_eq_true rfl, Nat.le_of_ble_eq_true rfl⟩ ⟨rfl, rfl, Nat.zero_le _, Nat.zero_le _⟩ (Nat.le_of_ble_eq_true rfl) dX6_ofInterview_89 ?_
    refine hQ _ _ _ _ _ (Or.inr (Or.inl ⟨_, _, dX6_ofInterview_92, rfl, rfl, rfl, rfl⟩)) ⟨?_, rfl⟩
    first | rfl | (clear hQ C; (try simp only [bI_0] at *); first | (simp [jOfIv, bI_t2, bI_f2, *]; done) | (simp_all; done))
  · refine V.tableIn C (off := 87) (tgt := 93) dX6_ofInterview_6 (by decide +kernel) (by decide +kernel) (by decide +kernel) (by decide) ?_
    refine V.aload_n C dX6_ofInterview_93 rfl ?_
    refine V.get C (q0 := 0) (k := 4) rfl rfl (by decide) iX6 (by decide +kernel) rfl rfl dX6_ofInterview_94 ?_
    refine V.iload_n C dX6_ofInterview_97 rfl ?_
    refine V.callVi C (ct_X5_of_5 hT (by omega)) gX6_ofInterview_X5_of (n := 1) ⟨rfl, by decide, by decide, by decide +kernel⟩ rfl (q0 := 5) rfl rfl rfl rfl ⟨Nat.le_of_ble_eq_true rfl, Nat.le_of_ble_eq_true rfl⟩ ⟨rfl, rfl, Nat.zero_le _, Nat.zero_le _⟩ (Nat.le_of_ble_eq_true rfl) dX6_ofInterview_98 ?_
    refine hQ _ _ _ _ _ (Or.inr (Or.inl ⟨_, _, dX6_ofInterview_101, rfl, rfl, rfl, rfl⟩)) ⟨?_, rfl⟩
    first | rfl | (clear hQ C; (try simp only [bI_0] at *); first | (simp [jOfIv, bI_t2, bI_f2, *]; done) | (simp_all; done))
  · refine V.tableIn C (off := 96) (tgt := 102) dX6_ofInterview_6 (by decide +kernel) (by decide +kernel) (by decide +kernel) (by decide) ?_
    refine V.aload_n C dX6_ofInterview_102 rfl ?_
    refine V.get C (q0 := 0) (k := 3) rfl rfl (by decide) iX6 (by decide +kernel) rfl rfl dX6_ofInterview_103 ?_
    refine V.iload_n C dX6_ofInterview_106 rfl ?_
    refine V.callVi C (ct_X0_isToClean hT (by omega)) gX6_ofInterview_X0_isToClean (n := 1) ⟨rfl, by decide, by decide, by decide +kernel⟩ rfl (q0 := 4) rfl rfl rfl rfl ⟨Nat.le_of_ble_eq_true rfl, Nat.le_of_ble_eq_true rfl⟩ ⟨rfl, rfl, Nat.zero_le _, Nat.zero_le _⟩ (Nat.le_of_ble_eq_true rfl) dX6_ofInterview_107 ?_
    refine V.if_eq C (tgt := 117) dX6_ofInterview_110 (by decide) (fun c_1 => ?_) (fun c_1 => ?_)
    · refine V.iconst C (v := nI 0) dX6_ofInterview_117 (by decide) ?_
      refine hQ _ _ _ _ _ (Or.inr (Or.inl ⟨_, _, dX6_ofInterview_118, rfl, rfl, rfl, rfl⟩)) ⟨?_, rfl⟩
      first | rfl | (clear hQ C; (try simp only [bI_0] at *); first | (simp [jOfIv, bI_t2, bI_f2, *]; done) | (simp_all; done))
    · refine V.iconst C (v := nI 1) dX6_ofInterview_113 (by decide) ?_
      refine V.goto C (tgt := 118) dX6_ofInterview_114 (by decide) ?_
      refine hQ _ _ _ _ _ (Or.inr (Or.inl ⟨_, _, dX6_ofInterview_118, rfl, rfl, rfl, rfl⟩)) ⟨?_, rfl⟩
      first | rfl | (clear hQ C; (try simp only [bI_0] at *); first | (simp [jOfIv, bI_t2, bI_f2, *]; done) | (simp_all; done))
set_option maxRecDepth 100000 in
set_option maxHeartbeats 4000000 in
theorem ct_X6_given {l : Launch} {D : va_G} {tys : List (ClassId × FieldType)} {cI : ClassId} {h : Nat → Nat} {σ : Nat → Nat → Int32} (hT : tys[0]? = some (cI, .int)) {i q : Nat} {N : Nat} (hN : σ 4 0 = nI N) (hN40 : N ≤ 40) {Q : Nat} (hQz : σ 1 0 = nI Q) (hQ10 : Q ≤ 10) (hi : i < N) (hq : q < Q) : Cd l D tys yX6_given wsX6_given ({ frames := 2, cells := 0, slots := 0, locals := 42 } : Room) (SW cI h σ) [.ref (h 0), .int (nI i), .int (nI q)] (some (.int (jGiven σ i q))) (SW cI h σ) := by
  refine Ct.of [some (.ref (h 0)), some (.int (nI i)), some (.int (nI q))] (by decide) rfl rfl (Nat.le_of_ble_eq_true rfl) rfl (fun κ C hQ => ?_)
  have iX6 : ∀ z ∈ u_ws RX6 TX6 8, z ∈ wsX6_given := by decide +kernel
  refine V.aload_n C dX6_given_0 rfl ?_
  refine V.iload_n C dX6_given_1 rfl ?_
  refine V.callVv C (ct_X6_needInterview hN hN40 hi) gX6_given_X6_needInterview (n := 1) ⟨rfl, by decide, by decide, by decide +kernel⟩ rfl (q0 := 0) rfl rfl rfl rfl ⟨Nat.le_of_ble_eq_true rfl, Nat.le_of_ble_eq_true rfl⟩ ⟨rfl, rfl, Nat.zero_le _, Nat.zero_le _⟩ (Nat.le_of_ble_eq_true rfl) dX6_given_2 ?_
  refine V.aload_n C dX6_given_5 rfl ?_
  refine V.iload_n C dX6_given_6 rfl ?_
  refine V.callVv C (ct_X6_needQuestion hQz hQ10 hq) gX6_given_X6_needQuestion (n := 1) ⟨rfl, by decide, by decide, by decide +kernel⟩ rfl (q0 := 0) rfl rfl rfl rfl ⟨Nat.le_of_ble_eq_true rfl, Nat.le_of_ble_eq_true rfl⟩ ⟨rfl, rfl, Nat.zero_le _, Nat.zero_le _⟩ (Nat.le_of_ble_eq_true rfl) dX6_given_7 ?_
  refine V.aload_n C dX6_given_10 rfl ?_
  refine V.get C (q0 := 0) (k := 3) rfl rfl (by decide) iX6 (by decide +kernel) rfl rfl dX6_given_11 ?_
  refine V.iload_n C dX6_given_14 rfl ?_
  refine V.iload_n C dX6_given_15 rfl ?_
  refine V.callVi C (ct_X0_answerTo hT (by omega) (by omega)) gX6_given_X0_answerTo (n := 2) ⟨rfl, by decide, by decide, by decide +kernel⟩ rfl (q0 := 4) rfl rfl rfl rfl ⟨Nat.le_of_ble_eq_true rfl, Nat.le_of_ble_eq_true rfl⟩ ⟨rfl, rfl, Nat.zero_le _, Nat.zero_le _⟩ (Nat.le_of_ble_eq_true rfl) dX6_given_16 ?_
  refine hQ _ _ _ _ _ (Or.inr (Or.inl ⟨_, _, dX6_given_19, rfl, rfl, rfl, rfl⟩)) ⟨?_, rfl⟩
  rfl
set_option maxRecDepth 100000 in
set_option maxHeartbeats 4000000 in
theorem ct_X6_clean {l : Launch} {D : va_G} {tys : List (ClassId × FieldType)} {cI : ClassId} {h : Nat → Nat} {σ : Nat → Nat → Int32} (hT : tys[0]? = some (cI, .int)) {N : Nat} (hN : σ 4 0 = nI N) (hN40 : N ≤ 40) (hce : ∀ i, i < N → Nn (σ 18 i) 6) (hpe : ∀ i, i < N → Nn (σ 17 i) 24) {n : Nat} (hn0 : σ 0 0 = nI n) (hn9 : n ≤ 9) : Cd l D tys yX6_clean wsX6_clean ({ frames := 6, cells := 0, slots := 0, locals := 135 } : Room) (SW cI h σ) [.ref (h 0)] (some (.int (jClN σ N))) (SW cI h (jWeigh (jCl σ N) 24 N n)) := by
  refine Ct.of [some (.ref (h 0)), none, none] (by decide) rfl rfl (Nat.le_of_ble_eq_true rfl) rfl (fun κ C hQ => ?_)
  have iX6 : ∀ z ∈ u_ws RX6 TX6 8, z ∈ wsX6_clean := by decide +kernel
  refine V.iconst C (v := nI 0) dX6_clean_0 (by decide) ?_
  refine V.istore_n C dX6_clean_1 (by decide) rfl ?_
  dsimp only [List.set, Fin.val]
  refine V.iconst C (v := nI 0) dX6_clean_2 (by decide) ?_
  refine V.istore_n C dX6_clean_3 (by decide) rfl ?_
  dsimp only [List.set, Fin.val]
  refine V.loop (N) (fun k => SW cI h (jCl σ k)) (fun k => [some (.ref (h 0)), some (.int (jClN σ k)), some (.int (nI k))]) (fun k hk ih_k => ?_) ?_ (rfl) (lsub_s rfl (lsub_s rfl (lsub_s rfl (lsub_e))))
  · try dsimp only
    refine V.iload_n C dX6_clean_4 rfl ?_
    refine V.aload_n C dX6_clean_5 rfl ?_
    refine V.get C (q0 := 0) (k := 3) rfl rfl (by decide) iX6 (by decide +kernel) rfl rfl dX6_clean_6 ?_
    refine V.callVi C (ct_X0_size) gX6_clean_X0_size (n := 0) ⟨rfl, by decide, by decide, by decide +kernel⟩ rfl (q0 := 4) rfl rfl rfl rfl ⟨Nat.le_of_ble_eq_true rfl, Nat.le_of_ble_eq_true rfl⟩ ⟨rfl, rfl, Nat.zero_le _, Nat.zero_le _⟩ (Nat.le_of_ble_eq_true rfl) dX6_clean_9 ?_
    refine V.topi (y := nI N) ((congrFun (jCl_ne σ (by decide) (by decide) (by decide) _) 0).trans hN) ?_
    refine V.icmp_ge C (tgt := 77) dX6_clean_12 (by decide) (fun c_1 => ?_) (fun c_1 => ?_)
    · exfalso
      exact c_1 (nI_lt hk (by omega))
    · refine V.aload_n C dX6_clean_15 rfl ?_
      refine V.get C (q0 := 0) (k := 3) rfl rfl (by decide) iX6 (by decide +kernel) rfl rfl dX6_clean_16 ?_
      refine V.iload_n C dX6_clean_19 rfl ?_
      refine V.callVi C (ct_X0_isToClean hT (by omega)) gX6_clean_X0_isToClean (n := 1) ⟨rfl, by decide, by decide, by decide +kernel⟩ rfl (q0 := 4) rfl rfl rfl rfl ⟨Nat.le_of_ble_eq_true rfl, Nat.le_of_ble_eq_true rfl⟩ ⟨rfl, rfl, Nat.zero_le _, Nat.zero_le _⟩ (Nat.le_of_ble_eq_true rfl) dX6_clean_20 ?_
      refine V.if_eq C (tgt := 71) dX6_clean_23 (by decide) (fun c_2 => ?_) (fun c_2 => ?_)
      · refine V.iinc C (v := nI (k + 1)) dX6_clean_71 rfl (nI_inc k) (by decide) rfl ?_
        dsimp only [List.set]
        refine V.goto C (tgt := 4) dX6_clean_74 (by decide) ?_
        refine V.world (w' := SW cI h (jCl σ (k + 1))) (by (clear hQ C; (try simp only [bI_0, Bool.not_eq_false] at *); rw [jCl]; split <;> first | rfl | (exfalso; first | contradiction | (simp_all [jC]; done)))) ?_
        exact V.sub (M := [some (.ref (h 0)), some (.int (jClN σ (k + 1))), some (.int (nI (k + 1)))]) (lsub_s rfl (lsub_si (by (clear hQ C; (try simp only [bI_0] at *); first | (simp [jClN, bI_t2, bI_f2, *]; done) | (simp_all; done))) rfl (lsub_s rfl (lsub_e)))) ih_k
      · refine V.aload_n C dX6_clean_26 rfl ?_
        refine V.get C (q0 := 0) (k := 3) rfl rfl (by decide) iX6 (by decide +kernel) rfl rfl dX6_clean_27 ?_
        refine V.iload_n C dX6_clean_30 rfl ?_
        refine V.iconst C (v := nI 3) dX6_clean_31 (by decide) ?_
        refine V.callVv C (ct_X0_setState hT (by omega)) gX6_clean_X0_setState (n := 2) ⟨rfl, by decide, by decide, by decide +kernel⟩ rfl (q0 := 4) rfl rfl rfl rfl ⟨Nat.le_of_ble_eq_true rfl, Nat.le_of_ble_eq_true rfl⟩ ⟨rfl, rfl, Nat.zero_le _, Nat.zero_le _⟩ (Nat.le_of_ble_eq_true rfl) dX6_clean_32 ?_
        refine V.aload_n C dX6_clean_35 rfl ?_
        refine V.get C (q0 := 0) (k := 1) rfl rfl (by decide) iX6 (by decide +kernel) rfl rfl dX6_clean_36 ?_
        refine V.aload_n C dX6_clean_39 rfl ?_
        refine V.get C (q0 := 0) (k := 3) rfl rfl (by decide) iX6 (by decide +kernel) rfl rfl dX6_clean_40 ?_
        refine V.iload_n C dX6_clean_43 rfl ?_
        refine V.callVi C (ct_X0_cellOf hT (by omega)) gX6_clean_X0_cellOf (n := 1) ⟨rfl, by decide, by decide, by decide +kernel⟩ rfl (q0 := 4) rfl rfl rfl rfl ⟨Nat.le_of_ble_eq_true rfl, Nat.le_of_ble_eq_true rfl⟩ ⟨rfl, rfl, Nat.zero_le _, Nat.zero_le _⟩ (Nat.le_of_ble_eq_true rfl) dX6_clean_44 ?_
        refine V.topi (y := nI (jC (jCl σ k) k)) (by unfold jC; rw [show sW (jCl σ k) 19 k (nI 3) 18 = jCl σ k 18 from rfl, (jCl_ne σ (by decide) (by decide) (by decide) _)]; exact (hce k hk).1) ?_
        refine V.iconst C (v := (-1)) dX6_clean_47 (by decide) ?_
        refine V.callVv C (ct_X3_fill hT (by unfold jC; rw [(jCl_ne σ (by decide) (by decide) (by decide) _)]; exact (hce k hk).2)) gX6_clean_X3_fill (n := 2) ⟨rfl, by decide, by decide, by decide +kernel⟩ rfl (q0 := 2) rfl rfl rfl rfl ⟨Nat.le_of_ble_eq_true rfl, Nat.le_of_ble_eq_true rfl⟩ ⟨rfl, rfl, Nat.zero_le _, Nat.zero_le _⟩ (Nat.le_of_ble_eq_true rfl) dX6_clean_48 ?_
        refine V.aload_n C dX6_clean_51 rfl ?_
        refine V.get C (q0 := 0) (k := 2) rfl rfl (by decide) iX6 (by decide +kernel) rfl rfl dX6_clean_52 ?_
        refine V.aload_n C dX6_clean_55 rfl ?_
        refine V.get C (q0 := 0) (k := 3) rfl rfl (by decide) iX6 (by decide +kernel) rfl rfl dX6_clean_56 ?_
        refine V.iload_n C dX6_clean_59 rfl ?_
        refine V.callVi C (ct_X0_personOf hT (by omega)) gX6_clean_X0_personOf (n := 1) ⟨rfl, by decide, by decide, by decide +kernel⟩ rfl (q0 := 4) rfl rfl rfl rfl ⟨Nat.le_of_ble_eq_true rfl, Nat.le_of_ble_eq_true rfl⟩ ⟨rfl, rfl, Nat.zero_le _, Nat.zero_le _⟩ (Nat.le_of_ble_eq_true rfl) dX6_clean_60 ?_
        refine V.topi (y := nI (jP (jCl σ k) k)) (by unfold jP; rw [show sW (sW (jCl σ k) 19 k (nI 3)) 12 _ _ 17 = jCl σ k 17 from rfl, (jCl_ne σ (by decide) (by decide) (by decide) _)]; exact (hpe k hk).1) ?_
        refine V.bipush C (v := (-10)) dX6_clean_63 (by decide) ?_
        refine V.callVv C (ct_X1_addPoints hT (by unfold jP; rw [(jCl_ne σ (by decide) (by decide) (by decide) _)]; exact (hpe k hk).2)) gX6_clean_X1_addPoints (n := 2) ⟨rfl, by decide, by decide, by decide +kernel⟩ rfl (q0 := 3) rfl rfl rfl rfl ⟨Nat.le_of_ble_eq_true rfl, Nat.le_of_ble_eq_true rfl⟩ ⟨rfl, rfl, Nat.zero_le _, Nat.zero_le _⟩ (Nat.le_of_ble_eq_true rfl) dX6_clean_65 ?_
        refine V.iinc C dX6_clean_68 rfl rfl (by decide) rfl ?_
        dsimp only [List.set]
        refine V.iinc C (v := nI (k + 1)) dX6_clean_71 rfl (nI_inc k) (by decide) rfl ?_
        dsimp only [List.set]
        refine V.goto C (tgt := 4) dX6_clean_74 (by decide) ?_
        refine V.world (w' := SW cI h (jCl σ (k + 1))) (by (clear hQ C; (try simp only [bI_0, Bool.not_eq_false] at *); rw [jCl]; split <;> first | rfl | (exfalso; first | contradiction | (simp_all [jC]; done)))) ?_
        exact V.sub (M := [some (.ref (h 0)), some (.int (jClN σ (k + 1))), some (.int (nI (k + 1)))]) (lsub_s rfl (lsub_si (by (clear hQ C; (try simp only [bI_0] at *); first | (simp [jClN, bI_t2, bI_f2, *]; done) | (simp_all; done))) rfl (lsub_s rfl (lsub_e)))) ih_k
  · try dsimp only
    refine V.iload_n C dX6_clean_4 rfl ?_
    refine V.aload_n C dX6_clean_5 rfl ?_
    refine V.get C (q0 := 0) (k := 3) rfl rfl (by decide) iX6 (by decide +kernel) rfl rfl dX6_clean_6 ?_
    refine V.callVi C (ct_X0_size) gX6_clean_X0_size (n := 0) ⟨rfl, by decide, by decide, by decide +kernel⟩ rfl (q0 := 4) rfl rfl rfl rfl ⟨Nat.le_of_ble_eq_true rfl, Nat.le_of_ble_eq_true rfl⟩ ⟨rfl, rfl, Nat.zero_le _, Nat.zero_le _⟩ (Nat.le_of_ble_eq_true rfl) dX6_clean_9 ?_
    refine V.topi (y := nI N) ((congrFun (jCl_ne σ (by decide) (by decide) (by decide) _) 0).trans hN) ?_
    refine V.icmp_ge C (tgt := 77) dX6_clean_12 (by decide) (fun c_3 => ?_) (fun c_3 => ?_)
    · refine V.aload_n C dX6_clean_77 rfl ?_
      refine V.callVv C (ct_X6_reweigh hT ((congrFun (jCl_ne σ (by decide) (by decide) (by decide) _) 0).trans hN) hN40 (fun i hi => by rw [(jCl_ne σ (by decide) (by decide) (by decide) _)]; exact hce i hi) ((congrFun (jCl_ne σ (by decide) (by decide) (by decide) _) 0).trans hn0) hn9) gX6_clean_X6_reweigh (n := 0) ⟨rfl, by decide, by decide, by decide +kernel⟩ rfl (q0 := 0) rfl rfl rfl rfl ⟨Nat.le_of_ble_eq_true rfl, Nat.le_of_ble_eq_true rfl⟩ ⟨rfl, rfl, Nat.zero_le _, Nat.zero_le _⟩ (Nat.le_of_ble_eq_true rfl) dX6_clean_78 ?_
      refine V.iload_n C dX6_clean_81 rfl ?_
      refine hQ _ _ _ _ _ (Or.inr (Or.inl ⟨_, _, dX6_clean_82, rfl, rfl, rfl, rfl⟩)) ⟨?_, rfl⟩
      rfl
    · exfalso
      exact absurd c_3 (nI_nlt (Nat.le_refl _) (by omega))
set_option maxRecDepth 100000 in
set_option maxHeartbeats 4000000 in
theorem ct_X6_many {l : Launch} {D : va_G} {tys : List (ClassId × FieldType)} {cI : ClassId} {h : Nat → Nat} {σ : Nat → Nat → Int32} (hT : tys[0]? = some (cI, .int)) {k : Nat} {N : Nat} (hN : σ 4 0 = nI N) (hN40 : N ≤ 40) {P : Nat} (hP : σ 3 0 = nI P) (hP24 : P ≤ 24) (hpc : ∀ p, p < P → Nn (σ 13 p) 6) (hk : k < 12) : Cd l D tys yX6_many wsX6_many ({ frames := 6, cells := 0, slots := 0, locals := 137 } : Room) (SW cI h σ) [.ref (h 0), .int (nI k)] (some (.int (jMany σ N P k))) (SW cI h σ) := by
  refine Ct.of [some (.ref (h 0)), some (.int (nI k))] (by decide) rfl rfl (Nat.le_of_ble_eq_true rfl) rfl (fun κ C hQ => ?_)
  have iX6 : ∀ z ∈ u_ws RX6 TX6 8, z ∈ wsX6_many := by decide +kernel
  refine V.iload_n C dX6_many_0 rfl ?_
  rcases (show k = 0 ∨ k = 1 ∨ k = 2 ∨ k = 3 ∨ k = 4 ∨ k = 5 ∨ k = 6 ∨ k = 7 ∨ k = 8 ∨ k = 9 ∨ k = 10 ∨ k = 11 by omega) with rfl | rfl | rfl | rfl | rfl | rfl | rfl | rfl | rfl | rfl | rfl | rfl
  · refine V.tableIn C (off := 63) (tgt := 64) dX6_many_1 (by decide +kernel) (by decide +kernel) (by decide +kernel) (by decide) ?_
    refine V.aload_n C dX6_many_64 rfl ?_
    refine V.get C (q0 := 0) (k := 0) rfl rfl (by decide) iX6 (by decide +kernel) rfl rfl dX6_many_65 ?_
    refine V.callVi C (ct_X2_size) gX6_many_X2_size (n := 0) ⟨rfl, by decide, by decide, by decide +kernel⟩ rfl (q0 := 1) rfl rfl rfl rfl ⟨Nat.le_of_ble_eq_true rfl, Nat.le_of_ble_eq_true rfl⟩ ⟨rfl, rfl, Nat.zero_le _, Nat.zero_le _⟩ (Nat.le_of_ble_eq_true rfl) dX6_many_68 ?_
    refine hQ _ _ _ _ _ (Or.inr (Or.inl ⟨_, _, dX6_many_71, rfl, rfl, rfl, rfl⟩)) ⟨?_, rfl⟩
    first | rfl | (clear hQ C; (try simp only [bI_0] at *); first | (simp [jMany, bI_t2, bI_f2, *]; done) | (simp_all; done))
  · refine V.tableIn C (off := 71) (tgt := 72) dX6_many_1 (by decide +kernel) (by decide +kernel) (by decide +kernel) (by decide) ?_
    refine V.aload_n C dX6_many_72 rfl ?_
    refine V.get C (q0 := 0) (k := 2) rfl rfl (by decide) iX6 (by decide +kernel) rfl rfl dX6_many_73 ?_
    refine V.callVi C (ct_X1_size) gX6_many_X1_size (n := 0) ⟨rfl, by decide, by decide, by decide +kernel⟩ rfl (q0 := 3) rfl rfl rfl rfl ⟨Nat.le_of_ble_eq_true rfl, Nat.le_of_ble_eq_true rfl⟩ ⟨rfl, rfl, Nat.zero_le _, Nat.zero_le _⟩ (Nat.le_of_ble_eq_true rfl) dX6_many_76 ?_
    refine hQ _ _ _ _ _ (Or.inr (Or.inl ⟨_, _, dX6_many_79, rfl, rfl, rfl, rfl⟩)) ⟨?_, rfl⟩
    first | rfl | (clear hQ C; (try simp only [bI_0] at *); first | (simp [jMany, bI_t2, bI_f2, *]; done) | (simp_all; done))
  · refine V.tableIn C (off := 79) (tgt := 80) dX6_many_1 (by decide +kernel) (by decide +kernel) (by decide +kernel) (by decide) ?_
    refine V.aload_n C dX6_many_80 rfl ?_
    refine V.get C (q0 := 0) (k := 3) rfl rfl (by decide) iX6 (by decide +kernel) rfl rfl dX6_many_81 ?_
    refine V.iconst C (v := nI 0) dX6_many_84 (by decide) ?_
    refine V.callVi C (ct_X0_countIn hT hN hN40) gX6_many_X0_countIn (n := 1) ⟨rfl, by decide, by decide, by decide +kernel⟩ rfl (q0 := 4) rfl rfl rfl rfl ⟨Nat.le_of_ble_eq_true rfl, Nat.le_of_ble_eq_true rfl⟩ ⟨rfl, rfl, Nat.zero_le _, Nat.zero_le _⟩ (Nat.le_of_ble_eq_true rfl) dX6_many_85 ?_
    refine hQ _ _ _ _ _ (Or.inr (Or.inl ⟨_, _, dX6_many_88, rfl, rfl, rfl, rfl⟩)) ⟨?_, rfl⟩
    first | rfl | (clear hQ C; (try simp only [bI_0] at *); first | (simp [jMany, bI_t2, bI_f2, *]; done) | (simp_all; done))
  · refine V.tableIn C (off := 88) (tgt := 89) dX6_many_1 (by decide +kernel) (by decide +kernel) (by decide +kernel) (by decide) ?_
    refine V.aload_n C dX6_many_89 rfl ?_
    refine V.get C (q0 := 0) (k := 3) rfl rfl (by decide) iX6 (by decide +kernel) rfl rfl dX6_many_90 ?_
    refine V.iconst C (v := nI 1) dX6_many_93 (by decide) ?_
    refine V.callVi C (ct_X0_countIn hT hN hN40) gX6_many_X0_countIn (n := 1) ⟨rfl, by decide, by decide, by decide +kernel⟩ rfl (q0 := 4) rfl rfl rfl rfl ⟨Nat.le_of_ble_eq_true rfl, Nat.le_of_ble_eq_true rfl⟩ ⟨rfl, rfl, Nat.zero_le _, Nat.zero_le _⟩ (Nat.le_of_ble_eq_true rfl) dX6_many_94 ?_
    refine hQ _ _ _ _ _ (Or.inr (Or.inl ⟨_, _, dX6_many_97, rfl, rfl, rfl, rfl⟩)) ⟨?_, rfl⟩
    first | rfl | (clear hQ C; (try simp only [bI_0] at *); first | (simp [jMany, bI_t2, bI_f2, *]; done) | (simp_all; done))
  · refine V.tableIn C (off := 97) (tgt := 98) dX6_many_1 (by decide +kernel) (by decide +kernel) (by decide +kernel) (by decide) ?_
    refine V.aload_n C dX6_many_98 rfl ?_
    refine V.get C (q0 := 0) (k := 3) rfl rfl (by decide) iX6 (by decide +kernel) rfl rfl dX6_many_99 ?_
    refine V.iconst C (v := nI 2) dX6_many_102 (by decide) ?_
    refine V.callVi C (ct_X0_countIn hT hN hN40) gX6_many_X0_countIn (n := 1) ⟨rfl, by decide, by decide, by decide +kernel⟩ rfl (q0 := 4) rfl rfl rfl rfl ⟨Nat.le_of_ble_eq_true rfl, Nat.le_of_ble_eq_true rfl⟩ ⟨rfl, rfl, Nat.zero_le _, Nat.zero_le _⟩ (Nat.le_of_ble_eq_true rfl) dX6_many_103 ?_
    refine hQ _ _ _ _ _ (Or.inr (Or.inl ⟨_, _, dX6_many_106, rfl, rfl, rfl, rfl⟩)) ⟨?_, rfl⟩
    first | rfl | (clear hQ C; (try simp only [bI_0] at *); first | (simp [jMany, bI_t2, bI_f2, *]; done) | (simp_all; done))
  · refine V.tableIn C (off := 106) (tgt := 107) dX6_many_1 (by decide +kernel) (by decide +kernel) (by decide +kernel) (by decide) ?_
    refine V.aload_n C dX6_many_107 rfl ?_
    refine V.get C (q0 := 0) (k := 3) rfl rfl (by decide) iX6 (by decide +kernel) rfl rfl dX6_many_108 ?_
    refine V.iconst C (v := nI 3) dX6_many_111 (by decide) ?_
    refine V.callVi C (ct_X0_countIn hT hN hN40) gX6_many_X0_countIn (n := 1) ⟨rfl, by decide, by decide, by decide +kernel⟩ rfl (q0 := 4) rfl rfl rfl rfl ⟨Nat.le_of_ble_eq_true rfl, Nat.le_of_ble_eq_true rfl⟩ ⟨rfl, rfl, Nat.zero_le _, Nat.zero_le _⟩ (Nat.le_of_ble_eq_true rfl) dX6_many_112 ?_
    refine hQ _ _ _ _ _ (Or.inr (Or.inl ⟨_, _, dX6_many_115, rfl, rfl, rfl, rfl⟩)) ⟨?_, rfl⟩
    first | rfl | (clear hQ C; (try simp only [bI_0] at *); first | (simp [jMany, bI_t2, bI_f2, *]; done) | (simp_all; done))
  · refine V.tableIn C (off := 115) (tgt := 116) dX6_many_1 (by decide +kernel) (by decide +kernel) (by decide +kernel) (by decide) ?_
    refine V.aload_n C dX6_many_116 rfl ?_
    refine V.get C (q0 := 0) (k := 1) rfl rfl (by decide) iX6 (by decide +kernel) rfl rfl dX6_many_117 ?_
    refine V.callVi C (ct_X3_allTargets hT) gX6_many_X3_allTargets (n := 0) ⟨rfl, by decide, by decide, by decide +kernel⟩ rfl (q0 := 2) rfl rfl rfl rfl ⟨Nat.le_of_ble_eq_true rfl, Nat.le_of_ble_eq_true rfl⟩ ⟨rfl, rfl, Nat.zero_le _, Nat.zero_le _⟩ (Nat.le_of_ble_eq_true rfl) dX6_many_120 ?_
    refine hQ _ _ _ _ _ (Or.inr (Or.inl ⟨_, _, dX6_many_123, rfl, rfl, rfl, rfl⟩)) ⟨?_, rfl⟩
    first | rfl | (clear hQ C; (try simp only [bI_0] at *); first | (simp [jMany, bI_t2, bI_f2, *]; done) | (simp_all; done))
  · refine V.tableIn C (off := 123) (tgt := 124) dX6_many_1 (by decide +kernel) (by decide +kernel) (by decide +kernel) (by decide) ?_
    refine V.aload_n C dX6_many_124 rfl ?_
    refine V.get C (q0 := 0) (k := 1) rfl rfl (by decide) iX6 (by decide +kernel) rfl rfl dX6_many_125 ?_
    refine V.callVi C (ct_X3_countOpen hT) gX6_many_X3_countOpen (n := 0) ⟨rfl, by decide, by decide, by decide +kernel⟩ rfl (q0 := 2) rfl rfl rfl rfl ⟨Nat.le_of_ble_eq_true rfl, Nat.le_of_ble_eq_true rfl⟩ ⟨rfl, rfl, Nat.zero_le _, Nat.zero_le _⟩ (Nat.le_of_ble_eq_true rfl) dX6_many_128 ?_
    refine hQ _ _ _ _ _ (Or.inr (Or.inl ⟨_, _, dX6_many_131, rfl, rfl, rfl, rfl⟩)) ⟨?_, rfl⟩
    first | rfl | (clear hQ C; (try simp only [bI_0] at *); first | (simp [jMany, bI_t2, bI_f2, *]; done) | (simp_all; done))
  · refine V.tableIn C (off := 131) (tgt := 132) dX6_many_1 (by decide +kernel) (by decide +kernel) (by decide +kernel) (by decide) ?_
    refine V.aload_n C dX6_many_132 rfl ?_
    refine V.callVi C (ct_X6_countAllToAsk hT hN hN40 hP hP24 hpc) gX6_many_X6_countAllToAsk (n := 0) ⟨rfl, by decide, by decide, by decide +kernel⟩ rfl (q0 := 0) rfl rfl rfl rfl ⟨Nat.le_of_ble_eq_true rfl, Nat.le_of_ble_eq_true rfl⟩ ⟨rfl, rfl, Nat.zero_le _, Nat.zero_le _⟩ (Nat.le_of_ble_eq_true rfl) dX6_many_133 ?_
    refine hQ _ _ _ _ _ (Or.inr (Or.inl ⟨_, _, dX6_many_136, rfl, rfl, rfl, rfl⟩)) ⟨?_, rfl⟩
    first | rfl | (clear hQ C; (try simp only [bI_0] at *); first | (simp [jMany, bI_t2, bI_f2, *]; done) | (simp_all; done))
  · refine V.tableIn C (off := 136) (tgt := 137) dX6_many_1 (by decide +kernel) (by decide +kernel) (by decide +kernel) (by decide) ?_
    refine V.aload_n C dX6_many_137 rfl ?_
    refine V.get C (q0 := 0) (k := 2) rfl rfl (by decide) iX6 (by decide +kernel) rfl rfl dX6_many_138 ?_
    refine V.callVi C (ct_X1_allPoints hT hP hP24) gX6_many_X1_allPoints (n := 0) ⟨rfl, by decide, by decide, by decide +kernel⟩ rfl (q0 := 3) rfl rfl rfl rfl ⟨Nat.le_of_ble_eq_true rfl, Nat.le_of_ble_eq_true rfl⟩ ⟨rfl, rfl, Nat.zero_le _, Nat.zero_le _⟩ (Nat.le_of_ble_eq_true rfl) dX6_many_141 ?_
    refine hQ _ _ _ _ _ (Or.inr (Or.inl ⟨_, _, dX6_many_144, rfl, rfl, rfl, rfl⟩)) ⟨?_, rfl⟩
    first | rfl | (clear hQ C; (try simp only [bI_0] at *); first | (simp [jMany, bI_t2, bI_f2, *]; done) | (simp_all; done))
  · refine V.tableIn C (off := 144) (tgt := 145) dX6_many_1 (by decide +kernel) (by decide +kernel) (by decide +kernel) (by decide) ?_
    refine V.aload_n C dX6_many_145 rfl ?_
    refine V.get C (q0 := 0) (k := 6) rfl rfl (by decide) iX6 (by decide +kernel) rfl rfl dX6_many_146 ?_
    refine V.callVi C (ct_X4_size) gX6_many_X4_size (n := 0) ⟨rfl, by decide, by decide, by decide +kernel⟩ rfl (q0 := 7) rfl rfl rfl rfl ⟨Nat.le_of_ble_eq_true rfl, Nat.le_of_ble_eq_true rfl⟩ ⟨rfl, rfl, Nat.zero_le _, Nat.zero_le _⟩ (Nat.le_of_ble_eq_true rfl) dX6_many_149 ?_
    refine hQ _ _ _ _ _ (Or.inr (Or.inl ⟨_, _, dX6_many_152, rfl, rfl, rfl, rfl⟩)) ⟨?_, rfl⟩
    first | rfl | (clear hQ C; (try simp only [bI_0] at *); first | (simp [jMany, bI_t2, bI_f2, *]; done) | (simp_all; done))
  · refine V.tableIn C (off := 152) (tgt := 153) dX6_many_1 (by decide +kernel) (by decide +kernel) (by decide +kernel) (by decide) ?_
    refine V.aload_n C dX6_many_153 rfl ?_
    refine V.get C (q0 := 0) (k := 2) rfl rfl (by decide) iX6 (by decide +kernel) rfl rfl dX6_many_154 ?_
    refine V.callVi C (ct_X1_today) gX6_many_X1_today (n := 0) ⟨rfl, by decide, by decide, by decide +kernel⟩ rfl (q0 := 3) rfl rfl rfl rfl ⟨Nat.le_of_ble_eq_true rfl, Nat.le_of_ble_eq_true rfl⟩ ⟨rfl, rfl, Nat.zero_le _, Nat.zero_le _⟩ (Nat.le_of_ble_eq_true rfl) dX6_many_157 ?_
    refine hQ _ _ _ _ _ (Or.inr (Or.inl ⟨_, _, dX6_many_160, rfl, rfl, rfl, rfl⟩)) ⟨?_, rfl⟩
    first | rfl | (clear hQ C; (try simp only [bI_0] at *); first | (simp [jMany, bI_t2, bI_f2, *]; done) | (simp_all; done))
set_option maxRecDepth 100000 in
set_option maxHeartbeats 4000000 in
theorem ct_X6_off {l : Launch} {D : va_G} {tys : List (ClassId × FieldType)} {cI : ClassId} {h : Nat → Nat} {σ : Nat → Nat → Int32} (hT : tys[0]? = some (cI, .int)) {N : Nat} (hN : σ 4 0 = nI N) (hN40 : N ≤ 40) (hce : ∀ i, i < N → Nn (σ 18 i) 6) : Cd l D tys yX6_off wsX6_off ({ frames := 4, cells := 0, slots := 0, locals := 90 } : Room) (SW cI h σ) [.ref (h 0)] (some (.int (jFar σ 24 N 5))) (SW cI h σ) := by
  refine Ct.of [some (.ref (h 0))] (by decide) rfl rfl (Nat.le_of_ble_eq_true rfl) rfl (fun κ C hQ => ?_)
  have iX6 : ∀ z ∈ u_ws RX6 TX6 8, z ∈ wsX6_off := by decide +kernel
  refine V.aload_n C dX6_off_0 rfl ?_
  refine V.get C (q0 := 0) (k := 4) rfl rfl (by decide) iX6 (by decide +kernel) rfl rfl dX6_off_1 ?_
  refine V.aload_n C dX6_off_4 rfl ?_
  refine V.get C (q0 := 0) (k := 3) rfl rfl (by decide) iX6 (by decide +kernel) rfl rfl dX6_off_5 ?_
  refine V.aload_n C dX6_off_8 rfl ?_
  refine V.get C (q0 := 0) (k := 1) rfl rfl (by decide) iX6 (by decide +kernel) rfl rfl dX6_off_9 ?_
  refine V.callVi C (ct_X5_farthest_5 hT hN hN40 hce) gX6_off_X5_farthest (n := 2) ⟨rfl, by decide, by decide, by decide +kernel⟩ rfl (q0 := 5) rfl rfl rfl rfl ⟨Nat.le_of_ble_eq_true rfl, Nat.le_of_ble_eq_true rfl⟩ ⟨rfl, rfl, Nat.zero_le _, Nat.zero_le _⟩ (Nat.le_of_ble_eq_true rfl) dX6_off_12 ?_
  refine hQ _ _ _ _ _ (Or.inr (Or.inl ⟨_, _, dX6_off_15, rfl, rfl, rfl, rfl⟩)) ⟨?_, rfl⟩
  rfl
set_option maxRecDepth 100000 in
set_option maxHeartbeats 4000000 in
theorem ct_X6_share {l : Launch} {D : va_G} {tys : List (ClassId × FieldType)} {cI : ClassId} {h : Nat → Nat} {σ : Nat → Nat → Int32} (hT : tys[0]? = some (cI, .int)) {q a : Nat} {N : Nat} (hN : σ 4 0 = nI N) (hN40 : N ≤ 40) (hce : ∀ i, i < N → Nn (σ 18 i) 6) {Q : Nat} (hQz : σ 1 0 = nI Q) (hQ10 : Q ≤ 10) (hA : ∀ f, f < Q → Nn (σ 8 f) 6) (hq : q < Q) (ha : a < jA σ q) : Cd l D tys yX6_share wsX6_share ({ frames := 3, cells := 0, slots := 0, locals := 72 } : Room) (SW cI h σ) [.ref (h 0), .int (nI q), .int (nI a), .int (-1)] (some (.int (jShare σ 24 N q (nI a) (-1)))) (SW cI h σ) := by
  refine Ct.of [some (.ref (h 0)), some (.int (nI q)), some (.int (nI a)), some (.int (-1))] (by decide) rfl rfl (Nat.le_of_ble_eq_true rfl) rfl (fun κ C hQ => ?_)
  have iX6 : ∀ z ∈ u_ws RX6 TX6 8, z ∈ wsX6_share := by decide +kernel
  refine V.aload_n C dX6_share_0 rfl ?_
  refine V.iload_n C dX6_share_1 rfl ?_
  refine V.iload_n C dX6_share_2 rfl ?_
  refine V.callVv C (ct_X6_needAnswer hT hQz hQ10 hq (hA q hq) ha) gX6_share_X6_needAnswer (n := 2) ⟨rfl, by decide, by decide, by decide +kernel⟩ rfl (q0 := 0) rfl rfl rfl rfl ⟨Nat.le_of_ble_eq_true rfl, Nat.le_of_ble_eq_true rfl⟩ ⟨rfl, rfl, Nat.zero_le _, Nat.zero_le _⟩ (Nat.le_of_ble_eq_true rfl) dX6_share_3 ?_
  refine V.iload_n C dX6_share_6 rfl ?_
  refine V.iconst C (v := (-1)) dX6_share_7 (by decide) ?_
  refine V.icmp_eq C (tgt := 15) dX6_share_8 (by decide) (fun c_1 => ?_) (fun c_1 => ?_)
  · refine V.aload_n C dX6_share_15 rfl ?_
    refine V.get C (q0 := 0) (k := 4) rfl rfl (by decide) iX6 (by decide +kernel) rfl rfl dX6_share_16 ?_
    refine V.aload_n C dX6_share_19 rfl ?_
    refine V.get C (q0 := 0) (k := 3) rfl rfl (by decide) iX6 (by decide +kernel) rfl rfl dX6_share_20 ?_
    refine V.iload_n C dX6_share_23 rfl ?_
    refine V.iload_n C dX6_share_24 rfl ?_
    refine V.iload_n C dX6_share_25 rfl ?_
    refine V.callVi C (ct_X5_shareOf_5 hT hN hN40 hce (by omega)) gX6_share_X5_shareOf (n := 4) ⟨rfl, by decide, by decide, by decide +kernel⟩ rfl (q0 := 5) rfl rfl rfl rfl ⟨Nat.le_of_ble_eq_true rfl, Nat.le_of_ble_eq_true rfl⟩ ⟨rfl, rfl, Nat.zero_le _, Nat.zero_le _⟩ (Nat.le_of_ble_eq_true rfl) dX6_share_26 ?_
    refine hQ _ _ _ _ _ (Or.inr (Or.inl ⟨_, _, dX6_share_29, rfl, rfl, rfl, rfl⟩)) ⟨?_, rfl⟩
    rfl
  · exfalso
    exact c_1 rfl
set_option maxRecDepth 100000 in
set_option maxHeartbeats 4000000 in
theorem ct_X6_held {l : Launch} {D : va_G} {tys : List (ClassId × FieldType)} {cI : ClassId} {h : Nat → Nat} {σ : Nat → Nat → Int32} (hT : tys[0]? = some (cI, .int)) {r q a R : Nat} {Q : Nat} (hQz : σ 1 0 = nI Q) (hQ10 : Q ≤ 10) (hA : ∀ f, f < Q → Nn (σ 8 f) 6) (hR : σ 7 0 = nI R) (hR5 : R ≤ 5) (hr : r < R) (hq : q < Q) (ha : a < jA σ q) : Cd l D tys yX6_held wsX6_held ({ frames := 3, cells := 0, slots := 0, locals := 65 } : Room) (SW cI h σ) [.ref (h 0), .int (nI r), .int (nI q), .int (nI a)] (some (.int (σ 26 (jPlace r q a)))) (SW cI h σ) := by
  refine Ct.of [some (.ref (h 0)), some (.int (nI r)), some (.int (nI q)), some (.int (nI a))] (by decide) rfl rfl (Nat.le_of_ble_eq_true rfl) rfl (fun κ C hQ => ?_)
  have iX6 : ∀ z ∈ u_ws RX6 TX6 8, z ∈ wsX6_held := by decide +kernel
  have ha5 : a < 5 := by have := (hA q hq).2; unfold jA at ha; omega
  refine V.iload_n C dX6_held_0 rfl ?_
  refine V.if_lt C (tgt := 15) dX6_held_1 (by decide) (fun c_1 => ?_) (fun c_1 => ?_)
  · exfalso
    exact nI_pos (by omega) c_1
  · refine V.iload_n C dX6_held_4 rfl ?_
    refine V.aload_n C dX6_held_5 rfl ?_
    refine V.get C (q0 := 0) (k := 6) rfl rfl (by decide) iX6 (by decide +kernel) rfl rfl dX6_held_6 ?_
    refine V.callVi C (ct_X4_size) gX6_held_X4_size (n := 0) ⟨rfl, by decide, by decide, by decide +kernel⟩ rfl (q0 := 7) rfl rfl rfl rfl ⟨Nat.le_of_ble_eq_true rfl, Nat.le_of_ble_eq_true rfl⟩ ⟨rfl, rfl, Nat.zero_le _, Nat.zero_le _⟩ (Nat.le_of_ble_eq_true rfl) dX6_held_9 ?_
    refine V.topi (y := nI R) (hR) ?_
    refine V.icmp_lt C (tgt := 26) dX6_held_12 (by decide) (fun c_2 => ?_) (fun c_2 => ?_)
    · refine V.aload_n C dX6_held_26 rfl ?_
      refine V.iload_n C dX6_held_27 rfl ?_
      refine V.iload_n C dX6_held_28 rfl ?_
      refine V.callVv C (ct_X6_needAnswer hT hQz hQ10 hq (hA q hq) ha) gX6_held_X6_needAnswer (n := 2) ⟨rfl, by decide, by decide, by decide +kernel⟩ rfl (q0 := 0) rfl rfl rfl rfl ⟨Nat.le_of_ble_eq_true rfl, Nat.le_of_ble_eq_true rfl⟩ ⟨rfl, rfl, Nat.zero_le _, Nat.zero_le _⟩ (Nat.le_of_ble_eq_true rfl) dX6_held_29 ?_
      refine V.aload_n C dX6_held_32 rfl ?_
      refine V.get C (q0 := 0) (k := 6) rfl rfl (by decide) iX6 (by decide +kernel) rfl rfl dX6_held_33 ?_
      refine V.iload_n C dX6_held_36 rfl ?_
      refine V.iload_n C dX6_held_37 rfl ?_
      refine V.iload_n C dX6_held_38 rfl ?_
      refine V.callVi C (ct_X4_shareIn hT (by omega) (by omega) ha5) gX6_held_X4_shareIn (n := 3) ⟨rfl, by decide, by decide, by decide +kernel⟩ rfl (q0 := 7) rfl rfl rfl rfl ⟨Nat.le_of_ble_eq_true rfl, Nat.le_of_ble_eq_true rfl⟩ ⟨rfl, rfl, Nat.zero_le _, Nat.zero_le _⟩ (Nat.le_of_ble_eq_true rfl) dX6_held_39 ?_
      refine hQ _ _ _ _ _ (Or.inr (Or.inl ⟨_, _, dX6_held_42, rfl, rfl, rfl, rfl⟩)) ⟨?_, rfl⟩
      rfl
    · exfalso
      exact c_2 (nI_lt (by omega) (by omega))
set_option maxRecDepth 100000 in
set_option maxHeartbeats 4000000 in
theorem ct_X6_hold {l : Launch} {D : va_G} {tys : List (ClassId × FieldType)} {cI : ClassId} {h : Nat → Nat} {σ : Nat → Nat → Int32} (hT : tys[0]? = some (cI, .int)) {R : Nat} {N : Nat} (hN : σ 4 0 = nI N) (hN40 : N ≤ 40) (hce : ∀ i, i < N → Nn (σ 18 i) 6) {Q : Nat} (hQz : σ 1 0 = nI Q) (hQ10 : Q ≤ 10) (hA : ∀ f, f < Q → Nn (σ 8 f) 6) (hR : σ 7 0 = nI R) (hR5 : R < 5) : Cd l D tys yX6_hold wsX6_hold ({ frames := 3, cells := 0, slots := 0, locals := 72 } : Room) (SW cI h σ) [.ref (h 0)] (some (.int (nI R))) (SW cI h (jHoldQ (sW σ 7 0 (nI (R + 1))) N R Q)) := by
  refine Ct.of [some (.ref (h 0)), none, none, none] (by decide) rfl rfl (Nat.le_of_ble_eq_true rfl) rfl (fun κ C hQ => ?_)
  have iX6 : ∀ z ∈ u_ws RX6 TX6 8, z ∈ wsX6_hold := by decide +kernel
  refine V.aload_n C dX6_hold_0 rfl ?_
  refine V.get C (q0 := 0) (k := 6) rfl rfl (by decide) iX6 (by decide +kernel) rfl rfl dX6_hold_1 ?_
  refine V.callVi C (ct_X4_size) gX6_hold_X4_size (n := 0) ⟨rfl, by decide, by decide, by decide +kernel⟩ rfl (q0 := 7) rfl rfl rfl rfl ⟨Nat.le_of_ble_eq_true rfl, Nat.le_of_ble_eq_true rfl⟩ ⟨rfl, rfl, Nat.zero_le _, Nat.zero_le _⟩ (Nat.le_of_ble_eq_true rfl) dX6_hold_4 ?_
  refine V.topi (y := nI R) (hR) ?_
  refine V.iconst C (v := nI 5) dX6_hold_7 (by decide) ?_
  refine V.icmp_lt C (tgt := 22) dX6_hold_8 (by decide) (fun c_1 => ?_) (fun c_1 => ?_)
  · refine V.aload_n C dX6_hold_22 rfl ?_
    refine V.get C (q0 := 0) (k := 6) rfl rfl (by decide) iX6 (by decide +kernel) rfl rfl dX6_hold_23 ?_
    refine V.callVi C (ct_X4_add hR) gX6_hold_X4_add (n := 0) ⟨rfl, by decide, by decide, by decide +kernel⟩ rfl (q0 := 7) rfl rfl rfl rfl ⟨Nat.le_of_ble_eq_true rfl, Nat.le_of_ble_eq_true rfl⟩ ⟨rfl, rfl, Nat.zero_le _, Nat.zero_le _⟩ (Nat.le_of_ble_eq_true rfl) dX6_hold_26 ?_
    refine V.istore_n C dX6_hold_29 (by decide) rfl ?_
    dsimp only [List.set, Fin.val]
    refine V.iconst C (v := nI 0) dX6_hold_30 (by decide) ?_
    refine V.istore_n C dX6_hold_31 (by decide) rfl ?_
    dsimp only [List.set, Fin.val]
    refine V.loop (Q) (fun q => SW cI h (jHoldQ (sW σ 7 0 (nI (R + 1))) N R q)) (fun q => [some (.ref (h 0)), some (.int (nI R)), some (.int (nI q)), none]) (fun q hq ih_q => ?_) ?_ (rfl) (lsub_s rfl (lsub_s rfl (lsub_s rfl (lsub_n (lsub_e)))))
    · try dsimp only
      refine V.iload_n C dX6_hold_32 rfl ?_
      refine V.aload_n C dX6_hold_33 rfl ?_
      refine V.get C (q0 := 0) (k := 0) rfl rfl (by decide) iX6 (by decide +kernel) rfl rfl dX6_hold_34 ?_
      refine V.callVi C (ct_X2_size) gX6_hold_X2_size (n := 0) ⟨rfl, by decide, by decide, by decide +kernel⟩ rfl (q0 := 1) rfl rfl rfl rfl ⟨Nat.le_of_ble_eq_true rfl, Nat.le_of_ble_eq_true rfl⟩ ⟨rfl, rfl, Nat.zero_le _, Nat.zero_le _⟩ (Nat.le_of_ble_eq_true rfl) dX6_hold_37 ?_
      refine V.topi (y := nI Q) ((congrFun (jHoldQ_ne _ N R (by decide) _) 0).trans hQz) ?_
      refine V.icmp_ge C (tgt := 93) dX6_hold_40 (by decide) (fun c_2 => ?_) (fun c_2 => ?_)
      · exfalso
        exact c_2 (nI_lt hq (by omega))
      · refine V.iconst C (v := nI 0) dX6_hold_43 (by decide) ?_
        refine V.istore_n C dX6_hold_44 (by decide) rfl ?_
        dsimp only [List.set, Fin.val]
        refine V.loop (jA (jHoldQ (sW σ 7 0 (nI (R + 1))) N R q) q) (fun a => SW cI h (jHoldA (jHoldQ (sW σ 7 0 (nI (R + 1))) N R q) N R q a)) (fun a => [some (.ref (h 0)), some (.int (nI R)), some (.int (nI q)), some (.int (nI a))]) (fun a ha ih_a => ?_) ?_ (rfl) (lsub_s rfl (lsub_s rfl (lsub_s rfl (lsub_s rfl (lsub_e)))))
        · try dsimp only
          refine V.iload_n C dX6_hold_45 rfl ?_
          refine V.aload_n C dX6_hold_46 rfl ?_
          refine V.get C (q0 := 0) (k := 0) rfl rfl (by decide) iX6 (by decide +kernel) rfl rfl dX6_hold_47 ?_
          refine V.iload_n C dX6_hold_50 rfl ?_
          refine V.callVi C (ct_X2_answersOf hT (by omega)) gX6_hold_X2_answersOf (n := 1) ⟨rfl, by decide, by decide, by decide +kernel⟩ rfl (q0 := 1) rfl rfl rfl rfl ⟨Nat.le_of_ble_eq_true rfl, Nat.le_of_ble_eq_true rfl⟩ ⟨rfl, rfl, Nat.zero_le _, Nat.zero_le _⟩ (Nat.le_of_ble_eq_true rfl) dX6_hold_51 ?_
          refine V.topi (y := nI (jA (jHoldQ (sW σ 7 0 (nI (R + 1))) N R q) q)) (by unfold jA; rw [((jHoldA_ne _ N R q (by decide) _).trans (jHoldQ_ne _ N R (by decide) _)), (jHoldQ_ne _ N R (by decide) _)]; exact (hA q hq).1) ?_
          refine V.icmp_ge C (tgt := 87) dX6_hold_54 (by decide) (fun c_3 => ?_) (fun c_3 => ?_)
          · exfalso
            exact c_3 (nI_lt ha (by have h5 : jA (jHoldQ (sW σ 7 0 (nI (R + 1))) N R q) q < 6 := (by unfold jA; rw [(jHoldQ_ne _ N R (by decide) _)]; exact (hA q hq).2); omega))
          · refine V.aload_n C dX6_hold_57 rfl ?_
            refine V.get C (q0 := 0) (k := 6) rfl rfl (by decide) iX6 (by decide +kernel) rfl rfl dX6_hold_58 ?_
            refine V.iload_n C dX6_hold_61 rfl ?_
            refine V.iload_n C dX6_hold_62 rfl ?_
            refine V.iload_n C dX6_hold_63 rfl ?_
            refine V.aload_n C dX6_hold_64 rfl ?_
            refine V.get C (q0 := 0) (k := 4) rfl rfl (by decide) iX6 (by decide +kernel) rfl rfl dX6_hold_65 ?_
            refine V.aload_n C dX6_hold_68 rfl ?_
            refine V.get C (q0 := 0) (k := 3) rfl rfl (by decide) iX6 (by decide +kernel) rfl rfl dX6_hold_69 ?_
            refine V.iload_n C dX6_hold_72 rfl ?_
            refine V.iload_n C dX6_hold_73 rfl ?_
            refine V.iconst C (v := (-1)) dX6_hold_74 (by decide) ?_
            refine V.callVi C (ct_X5_shareOf_5 hT ((congrFun ((jHoldA_ne _ N R q (by decide) _).trans (jHoldQ_ne _ N R (by decide) _)) 0).trans hN) hN40 (fun i hi => by rw [((jHoldA_ne _ N R q (by decide) _).trans (jHoldQ_ne _ N R (by decide) _))]; exact hce i hi) (by omega)) gX6_hold_X5_shareOf (n := 4) ⟨rfl, by decide, by decide, by decide +kernel⟩ rfl (q0 := 5) rfl rfl rfl rfl ⟨Nat.le_of_ble_eq_true rfl, Nat.le_of_ble_eq_true rfl⟩ ⟨rfl, rfl, Nat.zero_le _, Nat.zero_le _⟩ (Nat.le_of_ble_eq_true rfl) dX6_hold_75 ?_
            refine V.callVv C (ct_X4_put hT hR5 (by omega) (by have h5 : jA (jHoldQ (sW σ 7 0 (nI (R + 1))) N R q) q < 6 := (by unfold jA; rw [(jHoldQ_ne _ N R (by decide) _)]; exact (hA q hq).2); omega)) gX6_hold_X4_put (n := 4) ⟨rfl, by decide, by decide, by decide +kernel⟩ rfl (q0 := 7) rfl rfl rfl rfl ⟨Nat.le_of_ble_eq_true rfl, Nat.le_of_ble_eq_true rfl⟩ ⟨rfl, rfl, Nat.zero_le _, Nat.zero_le _⟩ (Nat.le_of_ble_eq_true rfl) dX6_hold_78 ?_
            refine V.iinc C (v := nI (a + 1)) dX6_hold_81 rfl (nI_inc a) (by decide) rfl ?_
            dsimp only [List.set]
            refine V.goto C (tgt := 45) dX6_hold_84 (by decide) ?_
            refine V.world (w' := SW cI h (jHoldA (jHoldQ (sW σ 7 0 (nI (R + 1))) N R q) N R q (a + 1))) (rfl) ?_
            exact V.sub (M := [some (.ref (h 0)), some (.int (nI R)), some (.int (nI q)), some (.int (nI (a + 1)))]) (lsub_s rfl (lsub_s rfl (lsub_s rfl (lsub_s rfl (lsub_e))))) ih_a
        · try dsimp only
          refine V.iload_n C dX6_hold_45 rfl ?_
          refine V.aload_n C dX6_hold_46 rfl ?_
          refine V.get C (q0 := 0) (k := 0) rfl rfl (by decide) iX6 (by decide +kernel) rfl rfl dX6_hold_47 ?_
          refine V.iload_n C dX6_hold_50 rfl ?_
          refine V.callVi C (ct_X2_answersOf hT (by omega)) gX6_hold_X2_answersOf (n := 1) ⟨rfl, by decide, by decide, by decide +kernel⟩ rfl (q0 := 1) rfl rfl rfl rfl ⟨Nat.le_of_ble_eq_true rfl, Nat.le_of_ble_eq_true rfl⟩ ⟨rfl, rfl, Nat.zero_le _, Nat.zero_le _⟩ (Nat.le_of_ble_eq_true rfl) dX6_hold_51 ?_
          refine V.topi (y := nI (jA (jHoldQ (sW σ 7 0 (nI (R + 1))) N R q) q)) (by unfold jA; rw [((jHoldA_ne _ N R q (by decide) _).trans (jHoldQ_ne _ N R (by decide) _)), (jHoldQ_ne _ N R (by decide) _)]; exact (hA q hq).1) ?_
          refine V.icmp_ge C (tgt := 87) dX6_hold_54 (by decide) (fun c_4 => ?_) (fun c_4 => ?_)
          · refine V.iinc C (v := nI (q + 1)) dX6_hold_87 rfl (nI_inc q) (by decide) rfl ?_
            dsimp only [List.set]
            refine V.goto C (tgt := 32) dX6_hold_90 (by decide) ?_
            refine V.world (w' := SW cI h (jHoldQ (sW σ 7 0 (nI (R + 1))) N R (q + 1))) (rfl) ?_
            exact V.sub (M := [some (.ref (h 0)), some (.int (nI R)), some (.int (nI (q + 1))), none]) (lsub_s rfl (lsub_s rfl (lsub_s rfl (lsub_n (lsub_e))))) ih_q
          · exfalso
            exact absurd c_4 (nI_nlt (Nat.le_refl _) (by have h5 : jA (jHoldQ (sW σ 7 0 (nI (R + 1))) N R q) q < 6 := (by unfold jA; rw [(jHoldQ_ne _ N R (by decide) _)]; exact (hA q hq).2); omega))
    · try dsimp only
      refine V.iload_n C dX6_hold_32 rfl ?_
      refine V.aload_n C dX6_hold_33 rfl ?_
      refine V.get C (q0 := 0) (k := 0) rfl rfl (by decide) iX6 (by decide +kernel) rfl rfl dX6_hold_34 ?_
      refine V.callVi C (ct_X2_size) gX6_hold_X2_size (n := 0) ⟨rfl, by decide, by decide, by decide +kernel⟩ rfl (q0 := 1) rfl rfl rfl rfl ⟨Nat.le_of_ble_eq_true rfl, Nat.le_of_ble_eq_true rfl⟩ ⟨rfl, rfl, Nat.zero_le _, Nat.zero_le _⟩ (Nat.le_of_ble_eq_true rfl) dX6_hold_37 ?_
      refine V.topi (y := nI Q) ((congrFun (jHoldQ_ne _ N R (by decide) _) 0).trans hQz) ?_
      refine V.icmp_ge C (tgt := 93) dX6_hold_40 (by decide) (fun c_5 => ?_) (fun c_5 => ?_)
      · refine V.iload_n C dX6_hold_93 rfl ?_
        refine hQ _ _ _ _ _ (Or.inr (Or.inl ⟨_, _, dX6_hold_94, rfl, rfl, rfl, rfl⟩)) ⟨?_, rfl⟩
        rfl
      · exfalso
        exact absurd c_5 (nI_nlt (Nat.le_refl _) (by omega))
  · exfalso
    exact c_1 (nI_lt (by omega) (by omega))
set_option maxRecDepth 100000 in
set_option maxHeartbeats 4000000 in
theorem ct_X6_cleaned {l : Launch} {D : va_G} {tys : List (ClassId × FieldType)} {cI : ClassId} {h : Nat → Nat} {σ : Nat → Nat → Int32} (hT : tys[0]? = some (cI, .int)) {N : Nat} (hN : σ 4 0 = nI N) (hN40 : N ≤ 40) : Cd l D tys yX6_cleaned wsX6_cleaned ({ frames := 4, cells := 0, slots := 0, locals := 90 } : Room) (SW cI h σ) [.ref (h 0)] (some (.int (jCleaned σ N))) (SW cI h σ) := by
  refine Ct.of [some (.ref (h 0)), none, none, none] (by decide) rfl rfl (Nat.le_of_ble_eq_true rfl) rfl (fun κ C hQ => ?_)
  have iX6 : ∀ z ∈ u_ws RX6 TX6 8, z ∈ wsX6_cleaned := by decide +kernel
  refine V.iconst C (v := nI 0) dX6_cleaned_0 (by decide) ?_
  refine V.istore_n C dX6_cleaned_1 (by decide) rfl ?_
  dsimp only [List.set, Fin.val]
  refine V.iconst C (v := nI 0) dX6_cleaned_2 (by decide) ?_
  refine V.istore_n C dX6_cleaned_3 (by decide) rfl ?_
  dsimp only [List.set, Fin.val]
  refine V.loop (6) (fun k => SW cI h σ) (fun k => [some (.ref (h 0)), some (.int (jSum (fun c => jClnC σ N c) k)), some (.int (nI k)), none]) (fun k hk ih_k => ?_) ?_ (rfl) (lsub_s rfl (lsub_s rfl (lsub_s rfl (lsub_n (lsub_e)))))
  · try dsimp only
    refine V.iload_n C dX6_cleaned_4 rfl ?_
    refine V.bipush C (v := nI 6) dX6_cleaned_5 (by decide) ?_
    refine V.icmp_ge C (tgt := 27) dX6_cleaned_7 (by decide) (fun c_1 => ?_) (fun c_1 => ?_)
    · exfalso
      exact c_1 (nI_lt hk (by decide))
    · refine V.iload_n C dX6_cleaned_10 rfl ?_
      refine V.aload_n C dX6_cleaned_11 rfl ?_
      refine V.get C (q0 := 0) (k := 3) rfl rfl (by decide) iX6 (by decide +kernel) rfl rfl dX6_cleaned_12 ?_
      refine V.iload_n C dX6_cleaned_15 rfl ?_
      refine V.callVi C (ct_X0_countToClean hT hN hN40) gX6_cleaned_X0_countToClean (n := 1) ⟨rfl, by decide, by decide, by decide +kernel⟩ rfl (q0 := 4) rfl rfl rfl rfl ⟨Nat.le_of_ble_eq_true rfl, Nat.le_of_ble_eq_true rfl⟩ ⟨rfl, rfl, Nat.zero_le _, Nat.zero_le _⟩ (Nat.le_of_ble_eq_true rfl) dX6_cleaned_16 ?_
      refine V.iadd C dX6_cleaned_19 ?_
      refine V.istore_n C dX6_cleaned_20 (by decide) rfl ?_
      dsimp only [List.set, Fin.val]
      refine V.iinc C (v := nI (k + 1)) dX6_cleaned_21 rfl (nI_inc k) (by decide) rfl ?_
      dsimp only [List.set]
      refine V.goto C (tgt := 4) dX6_cleaned_24 (by decide) ?_
      exact V.sub (M := [some (.ref (h 0)), some (.int (jSum (fun c => jClnC σ N c) (k + 1))), some (.int (nI (k + 1))), none]) (lsub_s rfl (lsub_s rfl (lsub_s rfl (lsub_n (lsub_e))))) ih_k
  · try dsimp only
    refine V.iload_n C dX6_cleaned_4 rfl ?_
    refine V.bipush C (v := nI 6) dX6_cleaned_5 (by decide) ?_
    refine V.icmp_ge C (tgt := 27) dX6_cleaned_7 (by decide) (fun c_2 => ?_) (fun c_2 => ?_)
    · refine V.iconst C (v := nI 0) dX6_cleaned_27 (by decide) ?_
      refine V.istore_n C dX6_cleaned_28 (by decide) rfl ?_
      dsimp only [List.set, Fin.val]
      refine V.iconst C (v := nI 0) dX6_cleaned_29 (by decide) ?_
      refine V.istore_n C dX6_cleaned_30 (by decide) rfl ?_
      dsimp only [List.set, Fin.val]
      refine V.loop (6) (fun k => SW cI h σ) (fun k => [some (.ref (h 0)), some (.int (jClnAll σ N)), some (.int (jCnt (fun c => !jOpen σ c && jOpenW σ c (jClnC σ N c) (jClnAll σ N)) k)), some (.int (nI k))]) (fun k hk ih_k => ?_) ?_ (rfl) (lsub_s rfl (lsub_s rfl (lsub_s rfl (lsub_s rfl (lsub_e)))))
      · try dsimp only
        refine V.iload_n C dX6_cleaned_31 rfl ?_
        refine V.bipush C (v := nI 6) dX6_cleaned_32 (by decide) ?_
        refine V.icmp_ge C (tgt := 77) dX6_cleaned_34 (by decide) (fun c_3 => ?_) (fun c_3 => ?_)
        · exfalso
          exact c_3 (nI_lt hk (by decide))
        · refine V.aload_n C dX6_cleaned_37 rfl ?_
          refine V.get C (q0 := 0) (k := 1) rfl rfl (by decide) iX6 (by decide +kernel) rfl rfl dX6_cleaned_38 ?_
          refine V.iload_n C dX6_cleaned_41 rfl ?_
          refine V.callVi C (ct_X3_isOpen hT hk) gX6_cleaned_X3_isOpen (n := 1) ⟨rfl, by decide, by decide, by decide +kernel⟩ rfl (q0 := 2) rfl rfl rfl rfl ⟨Nat.le_of_ble_eq_true rfl, Nat.le_of_ble_eq_true rfl⟩ ⟨rfl, rfl, Nat.zero_le _, Nat.zero_le _⟩ (Nat.le_of_ble_eq_true rfl) dX6_cleaned_42 ?_
          refine V.if_ne C (tgt := 71) dX6_cleaned_45 (by decide) (fun c_4 => ?_) (fun c_4 => ?_)
          · refine V.iinc C (v := nI (k + 1)) dX6_cleaned_71 rfl (nI_inc k) (by decide) rfl ?_
            dsimp only [List.set]
            refine V.goto C (tgt := 31) dX6_cleaned_74 (by decide) ?_
            exact V.sub (M := [some (.ref (h 0)), some (.int (jClnAll σ N)), some (.int (jCnt (fun c => !jOpen σ c && jOpenW σ c (jClnC σ N c) (jClnAll σ N)) (k + 1))), some (.int (nI (k + 1)))]) (lsub_s rfl (lsub_s rfl (lsub_si (by (clear hQ C; (try simp only [bI_0] at *); first | (simp [jCnt, jClnC, bI_t2, bI_f2, *]; done) | (simp_all; done))) rfl (lsub_s rfl (lsub_e))))) ih_k
          · refine V.aload_n C dX6_cleaned_48 rfl ?_
            refine V.get C (q0 := 0) (k := 1) rfl rfl (by decide) iX6 (by decide +kernel) rfl rfl dX6_cleaned_49 ?_
            refine V.iload_n C dX6_cleaned_52 rfl ?_
            refine V.aload_n C dX6_cleaned_53 rfl ?_
            refine V.get C (q0 := 0) (k := 3) rfl rfl (by decide) iX6 (by decide +kernel) rfl rfl dX6_cleaned_54 ?_
            refine V.iload_n C dX6_cleaned_57 rfl ?_
            refine V.callVi C (ct_X0_countToClean hT hN hN40) gX6_cleaned_X0_countToClean (n := 1) ⟨rfl, by decide, by decide, by decide +kernel⟩ rfl (q0 := 4) rfl rfl rfl rfl ⟨Nat.le_of_ble_eq_true rfl, Nat.le_of_ble_eq_true rfl⟩ ⟨rfl, rfl, Nat.zero_le _, Nat.zero_le _⟩ (Nat.le_of_ble_eq_true rfl) dX6_cleaned_58 ?_
            refine V.iload_n C dX6_cleaned_61 rfl ?_
            refine V.callVi C (ct_X3_isOpenWith hT hk) gX6_cleaned_X3_isOpenWith (n := 3) ⟨rfl, by decide, by decide, by decide +kernel⟩ rfl (q0 := 2) rfl rfl rfl rfl ⟨Nat.le_of_ble_eq_true rfl, Nat.le_of_ble_eq_true rfl⟩ ⟨rfl, rfl, Nat.zero_le _, Nat.zero_le _⟩ (Nat.le_of_ble_eq_true rfl) dX6_cleaned_62 ?_
            refine V.if_eq C (tgt := 71) dX6_cleaned_65 (by decide) (fun c_5 => ?_) (fun c_5 => ?_)
            · refine V.iinc C (v := nI (k + 1)) dX6_cleaned_71 rfl (nI_inc k) (by decide) rfl ?_
              dsimp only [List.set]
              refine V.goto C (tgt := 31) dX6_cleaned_74 (by decide) ?_
              exact V.sub (M := [some (.ref (h 0)), some (.int (jClnAll σ N)), some (.int (jCnt (fun c => !jOpen σ c && jOpenW σ c (jClnC σ N c) (jClnAll σ N)) (k + 1))), some (.int (nI (k + 1)))]) (lsub_s rfl (lsub_s rfl (lsub_si (by (clear hQ C; (try simp only [bI_0] at *); first | (simp [jCnt, jClnC, bI_t2, bI_f2, *]; done) | (simp_all; done))) rfl (lsub_s rfl (lsub_e))))) ih_k
            · refine V.iinc C dX6_cleaned_68 rfl rfl (by decide) rfl ?_
              dsimp only [List.set]
              refine V.iinc C (v := nI (k + 1)) dX6_cleaned_71 rfl (nI_inc k) (by decide) rfl ?_
              dsimp only [List.set]
              refine V.goto C (tgt := 31) dX6_cleaned_74 (by decide) ?_
              exact V.sub (M := [some (.ref (h 0)), some (.int (jClnAll σ N)), some (.int (jCnt (fun c => !jOpen σ c && jOpenW σ c (jClnC σ N c) (jClnAll σ N)) (k + 1))), some (.int (nI (k + 1)))]) (lsub_s rfl (lsub_s rfl (lsub_si (by (clear hQ C; (try simp only [bI_0] at *); first | (simp [jCnt, jClnC, bI_t2, bI_f2, *]; done) | (simp_all; done))) rfl (lsub_s rfl (lsub_e))))) ih_k
      · try dsimp only
        refine V.iload_n C dX6_cleaned_31 rfl ?_
        refine V.bipush C (v := nI 6) dX6_cleaned_32 (by decide) ?_
        refine V.icmp_ge C (tgt := 77) dX6_cleaned_34 (by decide) (fun c_6 => ?_) (fun c_6 => ?_)
        · refine V.iload_n C dX6_cleaned_77 rfl ?_
          refine V.bipush C (v := nI 100) dX6_cleaned_78 (by decide) ?_
          refine V.iload_n C dX6_cleaned_80 rfl ?_
          refine V.imul C dX6_cleaned_81 ?_
          refine V.iadd C dX6_cleaned_82 ?_
          refine hQ _ _ _ _ _ (Or.inr (Or.inl ⟨_, _, dX6_cleaned_83, rfl, rfl, rfl, rfl⟩)) ⟨?_, rfl⟩
          rfl
        · exfalso
          exact absurd c_6 (nI_nlt (Nat.le_refl _) (by decide))
    · exfalso
      exact absurd c_2 (nI_nlt (Nat.le_refl _) (by decide))
set_option maxRecDepth 100000 in
set_option maxHeartbeats 4000000 in
theorem ct_X6_nextIn {l : Launch} {D : va_G} {tys : List (ClassId × FieldType)} {cI : ClassId} {h : Nat → Nat} {σ : Nat → Nat → Int32} (hT : tys[0]? = some (cI, .int)) {d : Nat} {N : Nat} (hN : σ 4 0 = nI N) (hN40 : N ≤ 40) {P : Nat} (hP : σ 3 0 = nI P) (hP24 : P ≤ 24) (hpc : ∀ p, p < P → Nn (σ 13 p) 6) (hd : d ≤ 9) : Cd l D tys yX6_nextIn wsX6_nextIn ({ frames := 5, cells := 0, slots := 0, locals := 115 } : Room) (SW cI h σ) [.ref (h 0), .int (nI d)] (some (.int (jNxt σ (nI d) P))) (SW cI h σ) := by
  refine Ct.of [some (.ref (h 0)), some (.int (nI d))] (by decide) rfl rfl (Nat.le_of_ble_eq_true rfl) rfl (fun κ C hQ => ?_)
  refine V.iload_n C dX6_nextIn_0 rfl ?_
  refine V.if_lt C (tgt := 10) dX6_nextIn_1 (by decide) (fun c_1 => ?_) (fun c_1 => ?_)
  · exfalso
    exact nI_pos (by omega) c_1
  · refine V.iload_n C dX6_nextIn_4 rfl ?_
    refine V.bipush C (v := nI 9) dX6_nextIn_5 (by decide) ?_
    refine V.icmp_le C (tgt := 21) dX6_nextIn_7 (by decide) (fun c_2 => ?_) (fun c_2 => ?_)
    · refine V.aload_n C dX6_nextIn_21 rfl ?_
      refine V.iload_n C dX6_nextIn_22 rfl ?_
      refine V.callVi C (ct_X6_firstToAsk hT hN hN40 hP hP24 hpc) gX6_nextIn_X6_firstToAsk (n := 1) ⟨rfl, by decide, by decide, by decide +kernel⟩ rfl (q0 := 0) rfl rfl rfl rfl ⟨Nat.le_of_ble_eq_true rfl, Nat.le_of_ble_eq_true rfl⟩ ⟨rfl, rfl, Nat.zero_le _, Nat.zero_le _⟩ (Nat.le_of_ble_eq_true rfl) dX6_nextIn_23 ?_
      refine hQ _ _ _ _ _ (Or.inr (Or.inl ⟨_, _, dX6_nextIn_26, rfl, rfl, rfl, rfl⟩)) ⟨?_, rfl⟩
      rfl
    · exfalso
      exact absurd c_2 (nI_nlt (by omega) (by omega))
set_option maxRecDepth 100000 in
set_option maxHeartbeats 4000000 in
theorem ct_X6_offWith {l : Launch} {D : va_G} {tys : List (ClassId × FieldType)} {cI : ClassId} {h : Nat → Nat} {σ : Nat → Nat → Int32} (hT : tys[0]? = some (cI, .int)) {n : Nat} {N : Nat} (hN : σ 4 0 = nI N) (hN40 : N ≤ 40) (hce : ∀ i, i < N → Nn (σ 18 i) 6) (hn : n ≤ 9) : Cd l D tys yX6_offWith wsX6_offWith ({ frames := 5, cells := 0, slots := 0, locals := 115 } : Room) (SW cI h σ) [.ref (h 0), .int (nI n)] (some (.int (jFar (jWeigh σ 25 N n) 25 N 5))) (SW cI h (jWeigh σ 25 N n)) := by
  refine Ct.of [some (.ref (h 0)), some (.int (nI n))] (by decide) rfl rfl (Nat.le_of_ble_eq_true rfl) rfl (fun κ C hQ => ?_)
  have iX6 : ∀ z ∈ u_ws RX6 TX6 8, z ∈ wsX6_offWith := by decide +kernel
  refine V.iload_n C dX6_offWith_0 rfl ?_
  refine V.callSv C (ct_X6_needRounds hn) gX6_offWith_X6_needRounds (n := 1) ⟨rfl, by decide, by decide, by decide +kernel⟩ rfl rfl rfl ⟨Nat.le_of_ble_eq_true rfl, Nat.le_of_ble_eq_true rfl⟩ ⟨rfl, rfl, Nat.zero_le _, Nat.zero_le _⟩ (Nat.le_of_ble_eq_true rfl) dX6_offWith_1 ?_
  refine V.aload_n C dX6_offWith_4 rfl ?_
  refine V.get C (q0 := 0) (k := 5) rfl rfl (by decide) iX6 (by decide +kernel) rfl rfl dX6_offWith_5 ?_
  refine V.aload_n C dX6_offWith_8 rfl ?_
  refine V.get C (q0 := 0) (k := 3) rfl rfl (by decide) iX6 (by decide +kernel) rfl rfl dX6_offWith_9 ?_
  refine V.aload_n C dX6_offWith_12 rfl ?_
  refine V.get C (q0 := 0) (k := 1) rfl rfl (by decide) iX6 (by decide +kernel) rfl rfl dX6_offWith_13 ?_
  refine V.iload_n C dX6_offWith_16 rfl ?_
  refine V.callVv C (ct_X5_weigh_6 hT hN hN40 hce hn) gX6_offWith_X5_weigh (n := 3) ⟨rfl, by decide, by decide, by decide +kernel⟩ rfl (q0 := 6) rfl rfl rfl rfl ⟨Nat.le_of_ble_eq_true rfl, Nat.le_of_ble_eq_true rfl⟩ ⟨rfl, rfl, Nat.zero_le _, Nat.zero_le _⟩ (Nat.le_of_ble_eq_true rfl) dX6_offWith_17 ?_
  refine V.aload_n C dX6_offWith_20 rfl ?_
  refine V.get C (q0 := 0) (k := 5) rfl rfl (by decide) iX6 (by decide +kernel) rfl rfl dX6_offWith_21 ?_
  refine V.aload_n C dX6_offWith_24 rfl ?_
  refine V.get C (q0 := 0) (k := 3) rfl rfl (by decide) iX6 (by decide +kernel) rfl rfl dX6_offWith_25 ?_
  refine V.aload_n C dX6_offWith_28 rfl ?_
  refine V.get C (q0 := 0) (k := 1) rfl rfl (by decide) iX6 (by decide +kernel) rfl rfl dX6_offWith_29 ?_
  refine V.callVi C (ct_X5_farthest_6 hT ((congrFun (jWeigh_ne σ N n (by decide)) 0).trans hN) hN40 (fun i hi => by rw [(jWeigh_ne σ N n (by decide))]; exact hce i hi)) gX6_offWith_X5_farthest (n := 2) ⟨rfl, by decide, by decide, by decide +kernel⟩ rfl (q0 := 6) rfl rfl rfl rfl ⟨Nat.le_of_ble_eq_true rfl, Nat.le_of_ble_eq_true rfl⟩ ⟨rfl, rfl, Nat.zero_le _, Nat.zero_le _⟩ (Nat.le_of_ble_eq_true rfl) dX6_offWith_32 ?_
  refine hQ _ _ _ _ _ (Or.inr (Or.inl ⟨_, _, dX6_offWith_35, rfl, rfl, rfl, rfl⟩)) ⟨?_, rfl⟩
  rfl
set_option maxRecDepth 100000 in
set_option maxHeartbeats 4000000 in
theorem ct_X6_shortest {l : Launch} {D : va_G} {tys : List (ClassId × FieldType)} {cI : ClassId} {h : Nat → Nat} {σ : Nat → Nat → Int32} (hT : tys[0]? = some (cI, .int)) {q : Nat} {Q : Nat} (hQz : σ 1 0 = nI Q) (hQ10 : Q ≤ 10) (hA : ∀ f, f < Q → Nn (σ 8 f) 6) (hW : ∀ f a, f < Q → a < 5 → jWay σ f a = -1 ∨ Nn (jWay σ f a) 10) (hq : q < Q) : Cd l D tys yX6_shortest wsX6_shortest ({ frames := 3, cells := 0, slots := 0, locals := 69 } : Room) (SW cI h σ) [.ref (h 0), .int (nI q)] (some (.int (jShort σ Q q))) (SW cI h (jSteps σ Q (Q - q))) := by
  refine Ct.of [some (.ref (h 0)), some (.int (nI q))] (by decide) rfl rfl (Nat.le_of_ble_eq_true rfl) rfl (fun κ C hQ => ?_)
  have iX6 : ∀ z ∈ u_ws RX6 TX6 8, z ∈ wsX6_shortest := by decide +kernel
  refine V.aload_n C dX6_shortest_0 rfl ?_
  refine V.iload_n C dX6_shortest_1 rfl ?_
  refine V.callVv C (ct_X6_needQuestion hQz hQ10 hq) gX6_shortest_X6_needQuestion (n := 1) ⟨rfl, by decide, by decide, by decide +kernel⟩ rfl (q0 := 0) rfl rfl rfl rfl ⟨Nat.le_of_ble_eq_true rfl, Nat.le_of_ble_eq_true rfl⟩ ⟨rfl, rfl, Nat.zero_le _, Nat.zero_le _⟩ (Nat.le_of_ble_eq_true rfl) dX6_shortest_2 ?_
  refine V.aload_n C dX6_shortest_5 rfl ?_
  refine V.get C (q0 := 0) (k := 0) rfl rfl (by decide) iX6 (by decide +kernel) rfl rfl dX6_shortest_6 ?_
  refine V.iload_n C dX6_shortest_9 rfl ?_
  refine V.callVi C (ct_X2_stepsFrom hT hQz hQ10 hq hA hW) gX6_shortest_X2_stepsFrom (n := 1) ⟨rfl, by decide, by decide, by decide +kernel⟩ rfl (q0 := 1) rfl rfl rfl rfl ⟨Nat.le_of_ble_eq_true rfl, Nat.le_of_ble_eq_true rfl⟩ ⟨rfl, rfl, Nat.zero_le _, Nat.zero_le _⟩ (Nat.le_of_ble_eq_true rfl) dX6_shortest_10 ?_
  refine hQ _ _ _ _ _ (Or.inr (Or.inl ⟨_, _, dX6_shortest_13, rfl, rfl, rfl, rfl⟩)) ⟨?_, rfl⟩
  rfl
