set_option maxRecDepth 100000 in
set_option maxHeartbeats 4000000 in
theorem ct_L_question_ok {l : Launch} {D : va_G} {tys : List (ClassId × FieldType)} (hfl : l.stackTraces = false) {cI cL : ClassId} {h : Nat → Nat} {o : Nat} {f : Nat → Int64} (hT : tys[0]? = some (cI, .int)) (hTL : tys[1]? = some (cL, .long)) {a : Nat} (ha0 : 2 ≤ a) (ha : a ≤ 5) : CtH l D tys TL yL_question wsL_question ({ frames := 3, cells := 0, slots := 0, locals := 61 } : Room) (SW cI h jInit ++ [(o, .inl (cL, 1, .inr (.inl f)))]) [.ref (h 0), .int (nI a), .ref o] (fun r z => r = some (.int (nI 0)) ∧ z = SW cI h (sW (sW jInit 8 0 (nI a)) 1 0 (nI (0 + 1))) ++ [(o, .inl (cL, 1, .inr (.inl (vp_updL f 0 (nI 0).toInt64))))]) := by
  refine CtH.of hfl [some (.ref (h 0)), some (.int (nI a)), some (.ref o), none] (by decide) rfl rfl (Nat.le_of_ble_eq_true rfl) rfl (fun κ C HH hQ => ?_)
  refine V.aload_n C dL_question_0 rfl ?_
  refine V.iconst C (v := nI 0) dL_question_1 (by decide) ?_
  refine V.aload_n C dL_question_2 rfl ?_
  refine V.iload_n C dL_question_3 rfl ?_
  refine V.callVXi C (X := _) (ct_X6_question (Q := 0) hT rfl (by decide) rfl ha0 ha) rfl gL_question_X6_question (n := 1) ⟨rfl, by decide, by decide, by decide +kernel⟩ rfl (q0 := 0) rfl rfl rfl ⟨Nat.le_of_ble_eq_true rfl, Nat.le_of_ble_eq_true rfl⟩ ⟨rfl, rfl, Nat.zero_le _, Nat.zero_le _⟩ (Nat.le_of_ble_eq_true rfl) rfl dL_question_4 ?_
  refine V.i2l C dL_question_7 ?_
  refine V.last C (q0 := 27) (t0 := 1) (w' := _) rfl hTL rfl (by decide) (by decide) rfl dL_question_8 ?_
  refine V.goto C (tgt := 18) dL_question_9 (by decide) ?_
  refine V.iconst C (v := nI 0) dL_question_18 (by decide) ?_
  refine hQ _ _ _ _ _ (Or.inr (Or.inl ⟨_, _, dL_question_19, rfl, rfl, rfl, rfl⟩)) ⟨?_, rfl⟩
  rfl
set_option maxRecDepth 100000 in
set_option maxHeartbeats 4000000 in
theorem ct_L_question_x {l : Launch} {D : va_G} {tys : List (ClassId × FieldType)} (hfl : l.stackTraces = false) {cI cL : ClassId} {h : Nat → Nat} {o : Nat} {f : Nat → Int64} (hT : tys[0]? = some (cI, .int)) (hTL : tys[1]? = some (cL, .long)) {x : Int32} (hx : x < nI 2 ∨ nI 5 < x) : CtH l D tys TL yL_question wsL_question ({ frames := 8, cells := 1, slots := 6, locals := 143 } : Room) (SW cI h jInit ++ [(o, .inl (cL, 1, .inr (.inl f)))]) [.ref (h 0), .int x, .ref o] (fun r z => r = some (.int (nI 1)) ∧ z = SW cI h jInit ++ [(o, .inl (cL, 1, .inr (.inl f)))]) := by
  refine CtH.of hfl [some (.ref (h 0)), some (.int x), some (.ref o), none] (by decide) rfl rfl (Nat.le_of_ble_eq_true rfl) rfl (fun κ C HH hQ => ?_)
  refine V.aload_n C dL_question_0 rfl ?_
  refine V.iconst C (v := nI 0) dL_question_1 (by decide) ?_
  refine V.aload_n C dL_question_2 rfl ?_
  refine V.iload_n C dL_question_3 rfl ?_
  refine V.catchV (X := _) C HH (ct_X6_question_x hfl hT hx) rfl gL_question_X6_question (n := 1) ⟨rfl, by decide, by decide, by decide +kernel⟩ rfl (q0 := 0) rfl rfl rfl ⟨Nat.le_of_ble_eq_true rfl, Nat.le_of_ble_eq_true rfl⟩ ⟨Nat.le_of_ble_eq_true rfl, Nat.le_of_ble_eq_true rfl⟩ (Nat.le_of_ble_eq_true rfl) rfl dL_question_4 (by decide) [] ⟨0, 9, 12, 13⟩ [⟨0, 9, 15, 15⟩] rfl (fun z h9 => by cases h9) (by decide) (by decide) (by decide +kernel) (fun q9 => ?_)
  refine V.astore_n C dL_question_12 (by decide) rfl ?_
  dsimp only [List.set, Fin.val]
  refine V.iconst C (v := nI 1) dL_question_13 (by decide) ?_
  refine hQ _ _ _ _ _ (Or.inr (Or.inl ⟨_, _, dL_question_14, rfl, rfl, rfl, rfl⟩)) ⟨?_, rfl⟩
  rfl
set_option maxRecDepth 100000 in
set_option maxHeartbeats 4000000 in
theorem ct_L_route_x {l : Launch} {D : va_G} {tys : List (ClassId × FieldType)} (hfl : l.stackTraces = false) {cI cL : ClassId} {h : Nat → Nat} {o : Nat} {f : Nat → Int64} (hT : tys[0]? = some (cI, .int)) (hTL : tys[1]? = some (cL, .long)) {x y z9 : Int32} : CtH l D tys TL yL_route wsL_route ({ frames := 9, cells := 1, slots := 6, locals := 168 } : Room) (SW cI h jInit ++ [(o, .inl (cL, 1, .inr (.inl f)))]) [.ref (h 0), .int x, .int y, .int z9, .ref o] (fun r z => r = some (.int (nI 1)) ∧ z = SW cI h jInit ++ [(o, .inl (cL, 1, .inr (.inl f)))]) := by
  refine CtH.of hfl [some (.ref (h 0)), some (.int x), some (.int y), some (.int z9), some (.ref o), none] (by decide) rfl rfl (Nat.le_of_ble_eq_true rfl) rfl (fun κ C HH hQ => ?_)
  refine V.aload C dL_route_0 rfl ?_
  refine V.iconst C (v := nI 0) dL_route_2 (by decide) ?_
  refine V.aload_n C dL_route_3 rfl ?_
  refine V.iload_n C dL_route_4 rfl ?_
  refine V.iload_n C dL_route_5 rfl ?_
  refine V.iload_n C dL_route_6 rfl ?_
  refine V.catchV (X := _) C HH (ct_X6_route_x hfl hT) rfl gL_route_X6_route (n := 3) ⟨rfl, by decide, by decide, by decide +kernel⟩ rfl (q0 := 0) rfl rfl rfl ⟨Nat.le_of_ble_eq_true rfl, Nat.le_of_ble_eq_true rfl⟩ ⟨Nat.le_of_ble_eq_true rfl, Nat.le_of_ble_eq_true rfl⟩ (Nat.le_of_ble_eq_true rfl) rfl dL_route_7 (by decide) [] ⟨0, 12, 15, 21⟩ [⟨0, 12, 19, 13⟩, ⟨0, 12, 23, 15⟩] rfl (fun z h9 => by cases h9) (by decide) (by decide) (by decide +kernel) (fun q9 => ?_)
  refine V.astore C dL_route_15 (by decide) rfl ?_
  dsimp only [List.set]
  refine V.iconst C (v := nI 1) dL_route_17 (by decide) ?_
  refine hQ _ _ _ _ _ (Or.inr (Or.inl ⟨_, _, dL_route_18, rfl, rfl, rfl, rfl⟩)) ⟨?_, rfl⟩
  rfl
set_option maxRecDepth 100000 in
set_option maxHeartbeats 4000000 in
theorem ct_L_rotate_x {l : Launch} {D : va_G} {tys : List (ClassId × FieldType)} (hfl : l.stackTraces = false) {cI cL : ClassId} {h : Nat → Nat} {o : Nat} {f : Nat → Int64} (hT : tys[0]? = some (cI, .int)) (hTL : tys[1]? = some (cL, .long)) {x : Int32} (hx : x < 0 ∨ nI 0 < x) : CtH l D tys TL yL_rotate wsL_rotate ({ frames := 8, cells := 1, slots := 6, locals := 144 } : Room) (SW cI h jInit ++ [(o, .inl (cL, 1, .inr (.inl f)))]) [.ref (h 0), .int x, .ref o] (fun r z => r = some (.int (nI 1)) ∧ z = SW cI h jInit ++ [(o, .inl (cL, 1, .inr (.inl f)))]) := by
  refine CtH.of hfl [some (.ref (h 0)), some (.int x), some (.ref o), none] (by decide) rfl rfl (Nat.le_of_ble_eq_true rfl) rfl (fun κ C HH hQ => ?_)
  refine V.aload_n C dL_rotate_0 rfl ?_
  refine V.iconst C (v := nI 0) dL_rotate_1 (by decide) ?_
  refine V.aload_n C dL_rotate_2 rfl ?_
  refine V.iload_n C dL_rotate_3 rfl ?_
  refine V.catchV (X := _) C HH (ct_X6_rotate_x hfl hT hx) rfl gL_rotate_X6_rotate (n := 1) ⟨rfl, by decide, by decide, by decide +kernel⟩ rfl (q0 := 0) rfl rfl rfl ⟨Nat.le_of_ble_eq_true rfl, Nat.le_of_ble_eq_true rfl⟩ ⟨Nat.le_of_ble_eq_true rfl, Nat.le_of_ble_eq_true rfl⟩ (Nat.le_of_ble_eq_true rfl) rfl dL_rotate_4 (by decide) [] ⟨0, 9, 12, 13⟩ [⟨0, 9, 15, 15⟩] rfl (fun z h9 => by cases h9) (by decide) (by decide) (by decide +kernel) (fun q9 => ?_)
  refine V.astore_n C dL_rotate_12 (by decide) rfl ?_
  dsimp only [List.set, Fin.val]
  refine V.iconst C (v := nI 1) dL_rotate_13 (by decide) ?_
  refine hQ _ _ _ _ _ (Or.inr (Or.inl ⟨_, _, dL_rotate_14, rfl, rfl, rfl, rfl⟩)) ⟨?_, rfl⟩
  rfl
set_option maxRecDepth 100000 in
set_option maxHeartbeats 4000000 in
theorem ct_L_behind_x {l : Launch} {D : va_G} {tys : List (ClassId × FieldType)} (hfl : l.stackTraces = false) {cI cL : ClassId} {h : Nat → Nat} {o : Nat} {f : Nat → Int64} (hT : tys[0]? = some (cI, .int)) (hTL : tys[1]? = some (cL, .long)) {x y : Int32} : CtH l D tys TL yL_behind wsL_behind ({ frames := 9, cells := 1, slots := 6, locals := 166 } : Room) (SW cI h jInit ++ [(o, .inl (cL, 1, .inr (.inl f)))]) [.ref (h 0), .int x, .int y, .ref o] (fun r z => r = some (.int (nI 1)) ∧ z = SW cI h jInit ++ [(o, .inl (cL, 1, .inr (.inl f)))]) := by
  refine CtH.of hfl [some (.ref (h 0)), some (.int x), some (.int y), some (.ref o), none] (by decide) rfl rfl (Nat.le_of_ble_eq_true rfl) rfl (fun κ C HH hQ => ?_)
  refine V.aload_n C dL_behind_0 rfl ?_
  refine V.iconst C (v := nI 0) dL_behind_1 (by decide) ?_
  refine V.aload_n C dL_behind_2 rfl ?_
  refine V.iload_n C dL_behind_3 rfl ?_
  refine V.iload_n C dL_behind_4 rfl ?_
  refine V.catchV (X := _) C HH (ct_X6_behind_x hfl hT) rfl gL_behind_X6_behind (n := 2) ⟨rfl, by decide, by decide, by decide +kernel⟩ rfl (q0 := 0) rfl rfl rfl ⟨Nat.le_of_ble_eq_true rfl, Nat.le_of_ble_eq_true rfl⟩ ⟨Nat.le_of_ble_eq_true rfl, Nat.le_of_ble_eq_true rfl⟩ (Nat.le_of_ble_eq_true rfl) rfl dL_behind_5 (by decide) [] ⟨0, 10, 13, 21⟩ [] rfl (fun z h9 => by cases h9) (by decide) (by decide) (by decide +kernel) (fun q9 => ?_)
  refine V.astore C dL_behind_13 (by decide) rfl ?_
  dsimp only [List.set]
  refine V.iconst C (v := nI 1) dL_behind_15 (by decide) ?_
  refine hQ _ _ _ _ _ (Or.inr (Or.inl ⟨_, _, dL_behind_16, rfl, rfl, rfl, rfl⟩)) ⟨?_, rfl⟩
  rfl
set_option maxRecDepth 100000 in
set_option maxHeartbeats 4000000 in
theorem ct_L_person_x {l : Launch} {D : va_G} {tys : List (ClassId × FieldType)} (hfl : l.stackTraces = false) {cI cL : ClassId} {h : Nat → Nat} {o : Nat} {f : Nat → Int64} (hT : tys[0]? = some (cI, .int)) (hTL : tys[1]? = some (cL, .long)) {x y : Int32} (hx : (!decide (x < 0) && decide (x < nI 3)) = false ∨ (!decide (y < 0) && decide (y < nI 2)) = false) : CtH l D tys TL yL_person wsL_person ({ frames := 8, cells := 1, slots := 6, locals := 144 } : Room) (SW cI h jInit ++ [(o, .inl (cL, 1, .inr (.inl f)))]) [.ref (h 0), .int x, .int y, .ref o] (fun r z => r = some (.int (nI 1)) ∧ z = SW cI h jInit ++ [(o, .inl (cL, 1, .inr (.inl f)))]) := by
  refine CtH.of hfl [some (.ref (h 0)), some (.int x), some (.int y), some (.ref o), none] (by decide) rfl rfl (Nat.le_of_ble_eq_true rfl) rfl (fun κ C HH hQ => ?_)
  refine V.aload_n C dL_person_0 rfl ?_
  refine V.iconst C (v := nI 0) dL_person_1 (by decide) ?_
  refine V.aload_n C dL_person_2 rfl ?_
  refine V.iload_n C dL_person_3 rfl ?_
  refine V.iload_n C dL_person_4 rfl ?_
  refine V.catchV (X := _) C HH (ct_X6_person_x hfl hT hx) rfl gL_person_X6_person (n := 2) ⟨rfl, by decide, by decide, by decide +kernel⟩ rfl (q0 := 0) rfl rfl rfl ⟨Nat.le_of_ble_eq_true rfl, Nat.le_of_ble_eq_true rfl⟩ ⟨Nat.le_of_ble_eq_true rfl, Nat.le_of_ble_eq_true rfl⟩ (Nat.le_of_ble_eq_true rfl) rfl dL_person_5 (by decide) [] ⟨0, 10, 13, 13⟩ [⟨0, 10, 17, 15⟩] rfl (fun z h9 => by cases h9) (by decide) (by decide) (by decide +kernel) (fun q9 => ?_)
  refine V.astore C dL_person_13 (by decide) rfl ?_
  dsimp only [List.set]
  refine V.iconst C (v := nI 1) dL_person_15 (by decide) ?_
  refine hQ _ _ _ _ _ (Or.inr (Or.inl ⟨_, _, dL_person_16, rfl, rfl, rfl, rfl⟩)) ⟨?_, rfl⟩
  rfl
set_option maxRecDepth 100000 in
set_option maxHeartbeats 4000000 in
theorem ct_L_target_x {l : Launch} {D : va_G} {tys : List (ClassId × FieldType)} (hfl : l.stackTraces = false) {cI cL : ClassId} {h : Nat → Nat} {o : Nat} {f : Nat → Int64} (hT : tys[0]? = some (cI, .int)) (hTL : tys[1]? = some (cL, .long)) {x y z9 : Int32} (hx : (!decide (x < 0) && decide (x < nI 3)) = false ∨ (!decide (y < 0) && decide (y < nI 2)) = false) : CtH l D tys TL yL_target wsL_target ({ frames := 8, cells := 1, slots := 6, locals := 147 } : Room) (SW cI h jInit ++ [(o, .inl (cL, 1, .inr (.inl f)))]) [.ref (h 0), .int x, .int y, .int z9, .ref o] (fun r z => r = some (.int (nI 1)) ∧ z = SW cI h jInit ++ [(o, .inl (cL, 1, .inr (.inl f)))]) := by
  refine CtH.of hfl [some (.ref (h 0)), some (.int x), some (.int y), some (.int z9), some (.ref o), none] (by decide) rfl rfl (Nat.le_of_ble_eq_true rfl) rfl (fun κ C HH hQ => ?_)
  refine V.aload C dL_target_0 rfl ?_
  refine V.iconst C (v := nI 0) dL_target_2 (by decide) ?_
  refine V.aload_n C dL_target_3 rfl ?_
  refine V.iload_n C dL_target_4 rfl ?_
  refine V.iload_n C dL_target_5 rfl ?_
  refine V.iload_n C dL_target_6 rfl ?_
  refine V.catchV (X := _) C HH (ct_X6_target_x hfl hT hx) rfl gL_target_X6_target (n := 3) ⟨rfl, by decide, by decide, by decide +kernel⟩ rfl (q0 := 0) rfl rfl rfl ⟨Nat.le_of_ble_eq_true rfl, Nat.le_of_ble_eq_true rfl⟩ ⟨Nat.le_of_ble_eq_true rfl, Nat.le_of_ble_eq_true rfl⟩ (Nat.le_of_ble_eq_true rfl) rfl dL_target_7 (by decide) [] ⟨0, 12, 15, 21⟩ [⟨0, 12, 19, 13⟩] rfl (fun z h9 => by cases h9) (by decide) (by decide) (by decide +kernel) (fun q9 => ?_)
  refine V.astore C dL_target_15 (by decide) rfl ?_
  dsimp only [List.set]
  refine V.iconst C (v := nI 1) dL_target_17 (by decide) ?_
  refine hQ _ _ _ _ _ (Or.inr (Or.inl ⟨_, _, dL_target_18, rfl, rfl, rfl, rfl⟩)) ⟨?_, rfl⟩
  rfl
set_option maxRecDepth 100000 in
set_option maxHeartbeats 4000000 in
theorem ct_L_soft_x {l : Launch} {D : va_G} {tys : List (ClassId × FieldType)} (hfl : l.stackTraces = false) {cI cL : ClassId} {h : Nat → Nat} {o : Nat} {f : Nat → Int64} (hT : tys[0]? = some (cI, .int)) (hTL : tys[1]? = some (cL, .long)) {x : Int32} (hx : x < 0 ∨ nI 3 < x) : CtH l D tys TL yL_soft wsL_soft ({ frames := 8, cells := 1, slots := 6, locals := 144 } : Room) (SW cI h jInit ++ [(o, .inl (cL, 1, .inr (.inl f)))]) [.ref (h 0), .int x, .ref o] (fun r z => r = some (.int (nI 1)) ∧ z = SW cI h jInit ++ [(o, .inl (cL, 1, .inr (.inl f)))]) := by
  refine CtH.of hfl [some (.ref (h 0)), some (.int x), some (.ref o), none] (by decide) rfl rfl (Nat.le_of_ble_eq_true rfl) rfl (fun κ C HH hQ => ?_)
  refine V.aload_n C dL_soft_0 rfl ?_
  refine V.iconst C (v := nI 0) dL_soft_1 (by decide) ?_
  refine V.aload_n C dL_soft_2 rfl ?_
  refine V.iload_n C dL_soft_3 rfl ?_
  refine V.catchV (X := _) C HH (ct_X6_soft_x hfl hT hx) rfl gL_soft_X6_soft (n := 1) ⟨rfl, by decide, by decide, by decide +kernel⟩ rfl (q0 := 0) rfl rfl rfl ⟨Nat.le_of_ble_eq_true rfl, Nat.le_of_ble_eq_true rfl⟩ ⟨Nat.le_of_ble_eq_true rfl, Nat.le_of_ble_eq_true rfl⟩ (Nat.le_of_ble_eq_true rfl) rfl dL_soft_4 (by decide) [] ⟨0, 9, 12, 13⟩ [] rfl (fun z h9 => by cases h9) (by decide) (by decide) (by decide +kernel) (fun q9 => ?_)
  refine V.astore_n C dL_soft_12 (by decide) rfl ?_
  dsimp only [List.set, Fin.val]
  refine V.iconst C (v := nI 1) dL_soft_13 (by decide) ?_
  refine hQ _ _ _ _ _ (Or.inr (Or.inl ⟨_, _, dL_soft_14, rfl, rfl, rfl, rfl⟩)) ⟨?_, rfl⟩
  rfl
set_option maxRecDepth 100000 in
set_option maxHeartbeats 4000000 in
theorem ct_L_ofCell_x {l : Launch} {D : va_G} {tys : List (ClassId × FieldType)} (hfl : l.stackTraces = false) {cI cL : ClassId} {h : Nat → Nat} {o : Nat} {f : Nat → Int64} (hT : tys[0]? = some (cI, .int)) (hTL : tys[1]? = some (cL, .long)) {x y z9 : Int32} (hx : (!decide (x < 0) && decide (x < nI 3)) = false ∨ (!decide (y < 0) && decide (y < nI 2)) = false) : CtH l D tys TL yL_ofCell wsL_ofCell ({ frames := 8, cells := 1, slots := 6, locals := 146 } : Room) (SW cI h jInit ++ [(o, .inl (cL, 1, .inr (.inl f)))]) [.ref (h 0), .int x, .int y, .int z9, .ref o] (fun r z => r = some (.int (nI 1)) ∧ z = SW cI h jInit ++ [(o, .inl (cL, 1, .inr (.inl f)))]) := by
  refine CtH.of hfl [some (.ref (h 0)), some (.int x), some (.int y), some (.int z9), some (.ref o), none] (by decide) rfl rfl (Nat.le_of_ble_eq_true rfl) rfl (fun κ C HH hQ => ?_)
  refine V.aload C dL_ofCell_0 rfl ?_
  refine V.iconst C (v := nI 0) dL_ofCell_2 (by decide) ?_
  refine V.aload_n C dL_ofCell_3 rfl ?_
  refine V.iload_n C dL_ofCell_4 rfl ?_
  refine V.iload_n C dL_ofCell_5 rfl ?_
  refine V.iload_n C dL_ofCell_6 rfl ?_
  refine V.catchV (X := _) C HH (ct_X6_ofCell_x hfl hT hx) rfl gL_ofCell_X6_ofCell (n := 3) ⟨rfl, by decide, by decide, by decide +kernel⟩ rfl (q0 := 0) rfl rfl rfl ⟨Nat.le_of_ble_eq_true rfl, Nat.le_of_ble_eq_true rfl⟩ ⟨Nat.le_of_ble_eq_true rfl, Nat.le_of_ble_eq_true rfl⟩ (Nat.le_of_ble_eq_true rfl) rfl dL_ofCell_7 (by decide) [] ⟨0, 12, 15, 21⟩ [⟨0, 12, 19, 13⟩] rfl (fun z h9 => by cases h9) (by decide) (by decide) (by decide +kernel) (fun q9 => ?_)
  refine V.astore C dL_ofCell_15 (by decide) rfl ?_
  dsimp only [List.set]
  refine V.iconst C (v := nI 1) dL_ofCell_17 (by decide) ?_
  refine hQ _ _ _ _ _ (Or.inr (Or.inl ⟨_, _, dL_ofCell_18, rfl, rfl, rfl, rfl⟩)) ⟨?_, rfl⟩
  rfl
set_option maxRecDepth 100000 in
set_option maxHeartbeats 4000000 in
theorem ct_L_ofPerson_x {l : Launch} {D : va_G} {tys : List (ClassId × FieldType)} (hfl : l.stackTraces = false) {cI cL : ClassId} {h : Nat → Nat} {o : Nat} {f : Nat → Int64} (hT : tys[0]? = some (cI, .int)) (hTL : tys[1]? = some (cL, .long)) {x y : Int32} : CtH l D tys TL yL_ofPerson wsL_ofPerson ({ frames := 9, cells := 1, slots := 6, locals := 165 } : Room) (SW cI h jInit ++ [(o, .inl (cL, 1, .inr (.inl f)))]) [.ref (h 0), .int x, .int y, .ref o] (fun r z => r = some (.int (nI 1)) ∧ z = SW cI h jInit ++ [(o, .inl (cL, 1, .inr (.inl f)))]) := by
  refine CtH.of hfl [some (.ref (h 0)), some (.int x), some (.int y), some (.ref o), none] (by decide) rfl rfl (Nat.le_of_ble_eq_true rfl) rfl (fun κ C HH hQ => ?_)
  refine V.aload_n C dL_ofPerson_0 rfl ?_
  refine V.iconst C (v := nI 0) dL_ofPerson_1 (by decide) ?_
  refine V.aload_n C dL_ofPerson_2 rfl ?_
  refine V.iload_n C dL_ofPerson_3 rfl ?_
  refine V.iload_n C dL_ofPerson_4 rfl ?_
  refine V.catchV (X := _) C HH (ct_X6_ofPerson_x hfl hT) rfl gL_ofPerson_X6_ofPerson (n := 2) ⟨rfl, by decide, by decide, by decide +kernel⟩ rfl (q0 := 0) rfl rfl rfl ⟨Nat.le_of_ble_eq_true rfl, Nat.le_of_ble_eq_true rfl⟩ ⟨Nat.le_of_ble_eq_true rfl, Nat.le_of_ble_eq_true rfl⟩ (Nat.le_of_ble_eq_true rfl) rfl dL_ofPerson_5 (by decide) [] ⟨0, 10, 13, 21⟩ [⟨0, 10, 17, 13⟩] rfl (fun z h9 => by cases h9) (by decide) (by decide) (by decide +kernel) (fun q9 => ?_)
  refine V.astore C dL_ofPerson_13 (by decide) rfl ?_
  dsimp only [List.set]
  refine V.iconst C (v := nI 1) dL_ofPerson_15 (by decide) ?_
  refine hQ _ _ _ _ _ (Or.inr (Or.inl ⟨_, _, dL_ofPerson_16, rfl, rfl, rfl, rfl⟩)) ⟨?_, rfl⟩
  rfl
set_option maxRecDepth 100000 in
set_option maxHeartbeats 4000000 in
theorem ct_L_begin_x {l : Launch} {D : va_G} {tys : List (ClassId × FieldType)} (hfl : l.stackTraces = false) {cI cL : ClassId} {h : Nat → Nat} {o : Nat} {f : Nat → Int64} (hT : tys[0]? = some (cI, .int)) (hTL : tys[1]? = some (cL, .long)) {x : Int32} : CtH l D tys TL yL_begin wsL_begin ({ frames := 9, cells := 1, slots := 6, locals := 165 } : Room) (SW cI h jInit ++ [(o, .inl (cL, 1, .inr (.inl f)))]) [.ref (h 0), .int x, .ref o] (fun r z => r = some (.int (nI 1)) ∧ z = SW cI h jInit ++ [(o, .inl (cL, 1, .inr (.inl f)))]) := by
  refine CtH.of hfl [some (.ref (h 0)), some (.int x), some (.ref o), none] (by decide) rfl rfl (Nat.le_of_ble_eq_true rfl) rfl (fun κ C HH hQ => ?_)
  refine V.aload_n C dL_begin_0 rfl ?_
  refine V.iconst C (v := nI 0) dL_begin_1 (by decide) ?_
  refine V.aload_n C dL_begin_2 rfl ?_
  refine V.iload_n C dL_begin_3 rfl ?_
  refine V.catchV (X := _) C HH (ct_X6_begin_x hfl hT) rfl gL_begin_X6_begin (n := 1) ⟨rfl, by decide, by decide, by decide +kernel⟩ rfl (q0 := 0) rfl rfl rfl ⟨Nat.le_of_ble_eq_true rfl, Nat.le_of_ble_eq_true rfl⟩ ⟨Nat.le_of_ble_eq_true rfl, Nat.le_of_ble_eq_true rfl⟩ (Nat.le_of_ble_eq_true rfl) rfl dL_begin_4 (by decide) [] ⟨0, 9, 12, 21⟩ [⟨0, 9, 15, 15⟩] rfl (fun z h9 => by cases h9) (by decide) (by decide) (by decide +kernel) (fun q9 => ?_)
  refine V.astore_n C dL_begin_12 (by decide) rfl ?_
  dsimp only [List.set, Fin.val]
  refine V.iconst C (v := nI 1) dL_begin_13 (by decide) ?_
  refine hQ _ _ _ _ _ (Or.inr (Or.inl ⟨_, _, dL_begin_14, rfl, rfl, rfl, rfl⟩)) ⟨?_, rfl⟩
  rfl
set_option maxRecDepth 100000 in
set_option maxHeartbeats 4000000 in
theorem ct_L_answer_x {l : Launch} {D : va_G} {tys : List (ClassId × FieldType)} (hfl : l.stackTraces = false) {cI cL : ClassId} {h : Nat → Nat} {o : Nat} {f : Nat → Int64} (hT : tys[0]? = some (cI, .int)) (hTL : tys[1]? = some (cL, .long)) {x y z9 : Int32} : CtH l D tys TL yL_answer wsL_answer ({ frames := 9, cells := 1, slots := 6, locals := 168 } : Room) (SW cI h jInit ++ [(o, .inl (cL, 1, .inr (.inl f)))]) [.ref (h 0), .int x, .int y, .int z9, .ref o] (fun r z => r = some (.int (nI 1)) ∧ z = SW cI h jInit ++ [(o, .inl (cL, 1, .inr (.inl f)))]) := by
  refine CtH.of hfl [some (.ref (h 0)), some (.int x), some (.int y), some (.int z9), some (.ref o), none] (by decide) rfl rfl (Nat.le_of_ble_eq_true rfl) rfl (fun κ C HH hQ => ?_)
  refine V.aload C dL_answer_0 rfl ?_
  refine V.iconst C (v := nI 0) dL_answer_2 (by decide) ?_
  refine V.aload_n C dL_answer_3 rfl ?_
  refine V.iload_n C dL_answer_4 rfl ?_
  refine V.iload_n C dL_answer_5 rfl ?_
  refine V.iload_n C dL_answer_6 rfl ?_
  refine V.catchV (X := _) C HH (ct_X6_answer_x hfl hT) rfl gL_answer_X6_answer (n := 3) ⟨rfl, by decide, by decide, by decide +kernel⟩ rfl (q0 := 0) rfl rfl rfl ⟨Nat.le_of_ble_eq_true rfl, Nat.le_of_ble_eq_true rfl⟩ ⟨Nat.le_of_ble_eq_true rfl, Nat.le_of_ble_eq_true rfl⟩ (Nat.le_of_ble_eq_true rfl) rfl dL_answer_7 (by decide) [] ⟨0, 12, 15, 21⟩ [⟨0, 12, 19, 15⟩, ⟨0, 12, 23, 13⟩] rfl (fun z h9 => by cases h9) (by decide) (by decide) (by decide +kernel) (fun q9 => ?_)
  refine V.astore C dL_answer_15 (by decide) rfl ?_
  dsimp only [List.set]
  refine V.iconst C (v := nI 1) dL_answer_17 (by decide) ?_
  refine hQ _ _ _ _ _ (Or.inr (Or.inl ⟨_, _, dL_answer_18, rfl, rfl, rfl, rfl⟩)) ⟨?_, rfl⟩
  rfl
set_option maxRecDepth 100000 in
set_option maxHeartbeats 4000000 in
theorem ct_L_ofInterview_x {l : Launch} {D : va_G} {tys : List (ClassId × FieldType)} (hfl : l.stackTraces = false) {cI cL : ClassId} {h : Nat → Nat} {o : Nat} {f : Nat → Int64} (hT : tys[0]? = some (cI, .int)) (hTL : tys[1]? = some (cL, .long)) {x y : Int32} : CtH l D tys TL yL_ofInterview wsL_ofInterview ({ frames := 9, cells := 1, slots := 6, locals := 165 } : Room) (SW cI h jInit ++ [(o, .inl (cL, 1, .inr (.inl f)))]) [.ref (h 0), .int x, .int y, .ref o] (fun r z => r = some (.int (nI 1)) ∧ z = SW cI h jInit ++ [(o, .inl (cL, 1, .inr (.inl f)))]) := by
  refine CtH.of hfl [some (.ref (h 0)), some (.int x), some (.int y), some (.ref o), none] (by decide) rfl rfl (Nat.le_of_ble_eq_true rfl) rfl (fun κ C HH hQ => ?_)
  refine V.aload_n C dL_ofInterview_0 rfl ?_
  refine V.iconst C (v := nI 0) dL_ofInterview_1 (by decide) ?_
  refine V.aload_n C dL_ofInterview_2 rfl ?_
  refine V.iload_n C dL_ofInterview_3 rfl ?_
  refine V.iload_n C dL_ofInterview_4 rfl ?_
  refine V.catchV (X := _) C HH (ct_X6_ofInterview_x hfl hT) rfl gL_ofInterview_X6_ofInterview (n := 2) ⟨rfl, by decide, by decide, by decide +kernel⟩ rfl (q0 := 0) rfl rfl rfl ⟨Nat.le_of_ble_eq_true rfl, Nat.le_of_ble_eq_true rfl⟩ ⟨Nat.le_of_ble_eq_true rfl, Nat.le_of_ble_eq_true rfl⟩ (Nat.le_of_ble_eq_true rfl) rfl dL_ofInterview_5 (by decide) [] ⟨0, 10, 13, 21⟩ [⟨0, 10, 17, 13⟩] rfl (fun z h9 => by cases h9) (by decide) (by decide) (by decide +kernel) (fun q9 => ?_)
  refine V.astore C dL_ofInterview_13 (by decide) rfl ?_
  dsimp only [List.set]
  refine V.iconst C (v := nI 1) dL_ofInterview_15 (by decide) ?_
  refine hQ _ _ _ _ _ (Or.inr (Or.inl ⟨_, _, dL_ofInterview_16, rfl, rfl, rfl, rfl⟩)) ⟨?_, rfl⟩
  rfl
set_option maxRecDepth 100000 in
set_option maxHeartbeats 4000000 in
theorem ct_L_given_x {l : Launch} {D : va_G} {tys : List (ClassId × FieldType)} (hfl : l.stackTraces = false) {cI cL : ClassId} {h : Nat → Nat} {o : Nat} {f : Nat → Int64} (hT : tys[0]? = some (cI, .int)) (hTL : tys[1]? = some (cL, .long)) {x y : Int32} : CtH l D tys TL yL_given wsL_given ({ frames := 9, cells := 1, slots := 6, locals := 165 } : Room) (SW cI h jInit ++ [(o, .inl (cL, 1, .inr (.inl f)))]) [.ref (h 0), .int x, .int y, .ref o] (fun r z => r = some (.int (nI 1)) ∧ z = SW cI h jInit ++ [(o, .inl (cL, 1, .inr (.inl f)))]) := by
  refine CtH.of hfl [some (.ref (h 0)), some (.int x), some (.int y), some (.ref o), none] (by decide) rfl rfl (Nat.le_of_ble_eq_true rfl) rfl (fun κ C HH hQ => ?_)
  refine V.aload_n C dL_given_0 rfl ?_
  refine V.iconst C (v := nI 0) dL_given_1 (by decide) ?_
  refine V.aload_n C dL_given_2 rfl ?_
  refine V.iload_n C dL_given_3 rfl ?_
  refine V.iload_n C dL_given_4 rfl ?_
  refine V.catchV (X := _) C HH (ct_X6_given_x hfl hT) rfl gL_given_X6_given (n := 2) ⟨rfl, by decide, by decide, by decide +kernel⟩ rfl (q0 := 0) rfl rfl rfl ⟨Nat.le_of_ble_eq_true rfl, Nat.le_of_ble_eq_true rfl⟩ ⟨Nat.le_of_ble_eq_true rfl, Nat.le_of_ble_eq_true rfl⟩ (Nat.le_of_ble_eq_true rfl) rfl dL_given_5 (by decide) [] ⟨0, 10, 13, 21⟩ [] rfl (fun z h9 => by cases h9) (by decide) (by decide) (by decide +kernel) (fun q9 => ?_)
  refine V.astore C dL_given_13 (by decide) rfl ?_
  dsimp only [List.set]
  refine V.iconst C (v := nI 1) dL_given_15 (by decide) ?_
  refine hQ _ _ _ _ _ (Or.inr (Or.inl ⟨_, _, dL_given_16, rfl, rfl, rfl, rfl⟩)) ⟨?_, rfl⟩
  rfl
set_option maxRecDepth 100000 in
set_option maxHeartbeats 4000000 in
theorem ct_L_rounds_x {l : Launch} {D : va_G} {tys : List (ClassId × FieldType)} (hfl : l.stackTraces = false) {cI cL : ClassId} {h : Nat → Nat} {o : Nat} {f : Nat → Int64} (hT : tys[0]? = some (cI, .int)) (hTL : tys[1]? = some (cL, .long)) {x : Int32} (hx : x < 0 ∨ nI 9 < x) : CtH l D tys TL yL_rounds wsL_rounds ({ frames := 9, cells := 1, slots := 6, locals := 164 } : Room) (SW cI h jInit ++ [(o, .inl (cL, 1, .inr (.inl f)))]) [.ref (h 0), .int x, .ref o] (fun r z => r = some (.int (nI 1)) ∧ z = SW cI h jInit ++ [(o, .inl (cL, 1, .inr (.inl f)))]) := by
  refine CtH.of hfl [some (.ref (h 0)), some (.int x), some (.ref o), none] (by decide) rfl rfl (Nat.le_of_ble_eq_true rfl) rfl (fun κ C HH hQ => ?_)
  refine V.aload_n C dL_rounds_0 rfl ?_
  refine V.iconst C (v := nI 0) dL_rounds_1 (by decide) ?_
  refine V.aload_n C dL_rounds_2 rfl ?_
  refine V.iload_n C dL_rounds_3 rfl ?_
  refine V.catchV (X := _) C HH (ct_X6_rounds_x hfl hT hx) rfl gL_rounds_X6_rounds (n := 1) ⟨rfl, by decide, by decide, by decide +kernel⟩ rfl (q0 := 0) rfl rfl rfl ⟨Nat.le_of_ble_eq_true rfl, Nat.le_of_ble_eq_true rfl⟩ ⟨Nat.le_of_ble_eq_true rfl, Nat.le_of_ble_eq_true rfl⟩ (Nat.le_of_ble_eq_true rfl) rfl dL_rounds_4 (by decide) [] ⟨0, 9, 12, 13⟩ [] rfl (fun z h9 => by cases h9) (by decide) (by decide) (by decide +kernel) (fun q9 => ?_)
  refine V.astore_n C dL_rounds_12 (by decide) rfl ?_
  dsimp only [List.set, Fin.val]
  refine V.iconst C (v := nI 1) dL_rounds_13 (by decide) ?_
  refine hQ _ _ _ _ _ (Or.inr (Or.inl ⟨_, _, dL_rounds_14, rfl, rfl, rfl, rfl⟩)) ⟨?_, rfl⟩
  rfl
set_option maxRecDepth 100000 in
set_option maxHeartbeats 4000000 in
theorem ct_L_share_x {l : Launch} {D : va_G} {tys : List (ClassId × FieldType)} (hfl : l.stackTraces = false) {cI cL : ClassId} {h : Nat → Nat} {o : Nat} {f : Nat → Int64} (hT : tys[0]? = some (cI, .int)) (hTL : tys[1]? = some (cL, .long)) {x y z9 : Int32} : CtH l D tys TL yL_share wsL_share ({ frames := 9, cells := 1, slots := 6, locals := 167 } : Room) (SW cI h jInit ++ [(o, .inl (cL, 1, .inr (.inl f)))]) [.ref (h 0), .int x, .int y, .int z9, .ref o] (fun r z => r = some (.int (nI 1)) ∧ z = SW cI h jInit ++ [(o, .inl (cL, 1, .inr (.inl f)))]) := by
  refine CtH.of hfl [some (.ref (h 0)), some (.int x), some (.int y), some (.int z9), some (.ref o), none] (by decide) rfl rfl (Nat.le_of_ble_eq_true rfl) rfl (fun κ C HH hQ => ?_)
  refine V.aload C dL_share_0 rfl ?_
  refine V.iconst C (v := nI 0) dL_share_2 (by decide) ?_
  refine V.aload_n C dL_share_3 rfl ?_
  refine V.iload_n C dL_share_4 rfl ?_
  refine V.iload_n C dL_share_5 rfl ?_
  refine V.iload_n C dL_share_6 rfl ?_
  refine V.catchV (X := _) C HH (ct_X6_share_x hfl hT) rfl gL_share_X6_share (n := 3) ⟨rfl, by decide, by decide, by decide +kernel⟩ rfl (q0 := 0) rfl rfl rfl ⟨Nat.le_of_ble_eq_true rfl, Nat.le_of_ble_eq_true rfl⟩ ⟨Nat.le_of_ble_eq_true rfl, Nat.le_of_ble_eq_true rfl⟩ (Nat.le_of_ble_eq_true rfl) rfl dL_share_7 (by decide) [] ⟨0, 12, 15, 21⟩ [] rfl (fun z h9 => by cases h9) (by decide) (by decide) (by decide +kernel) (fun q9 => ?_)
  refine V.astore C dL_share_15 (by decide) rfl ?_
  dsimp only [List.set]
  refine V.iconst C (v := nI 1) dL_share_17 (by decide) ?_
  refine hQ _ _ _ _ _ (Or.inr (Or.inl ⟨_, _, dL_share_18, rfl, rfl, rfl, rfl⟩)) ⟨?_, rfl⟩
  rfl
set_option maxRecDepth 100000 in
set_option maxHeartbeats 4000000 in
theorem ct_L_isMarked_x {l : Launch} {D : va_G} {tys : List (ClassId × FieldType)} (hfl : l.stackTraces = false) {cI cL : ClassId} {h : Nat → Nat} {o : Nat} {f : Nat → Int64} (hT : tys[0]? = some (cI, .int)) (hTL : tys[1]? = some (cL, .long)) {x y z9 u : Int32} : CtH l D tys TL yL_isMarked wsL_isMarked ({ frames := 9, cells := 1, slots := 6, locals := 170 } : Room) (SW cI h jInit ++ [(o, .inl (cL, 1, .inr (.inl f)))]) [.ref (h 0), .int x, .int y, .int z9, .int u, .ref o] (fun r z => r = some (.int (nI 1)) ∧ z = SW cI h jInit ++ [(o, .inl (cL, 1, .inr (.inl f)))]) := by
  refine CtH.of hfl [some (.ref (h 0)), some (.int x), some (.int y), some (.int z9), some (.int u), some (.ref o), none] (by decide) rfl rfl (Nat.le_of_ble_eq_true rfl) rfl (fun κ C HH hQ => ?_)
  refine V.aload C dL_isMarked_0 rfl ?_
  refine V.iconst C (v := nI 0) dL_isMarked_2 (by decide) ?_
  refine V.aload_n C dL_isMarked_3 rfl ?_
  refine V.iload_n C dL_isMarked_4 rfl ?_
  refine V.iload_n C dL_isMarked_5 rfl ?_
  refine V.iload_n C dL_isMarked_6 rfl ?_
  refine V.iload C dL_isMarked_7 rfl ?_
  refine V.catchV (X := _) C HH (ct_X6_isMarked_x hfl hT) rfl gL_isMarked_X6_isMarked (n := 4) ⟨rfl, by decide, by decide, by decide +kernel⟩ rfl (q0 := 0) rfl rfl rfl ⟨Nat.le_of_ble_eq_true rfl, Nat.le_of_ble_eq_true rfl⟩ ⟨Nat.le_of_ble_eq_true rfl, Nat.le_of_ble_eq_true rfl⟩ (Nat.le_of_ble_eq_true rfl) rfl dL_isMarked_9 (by decide) [] ⟨0, 21, 24, 21⟩ [⟨0, 21, 28, 13⟩] rfl (fun z h9 => by cases h9) (by decide) (by decide) (by decide +kernel) (fun q9 => ?_)
  refine V.astore C dL_isMarked_24 (by decide) rfl ?_
  dsimp only [List.set]
  refine V.iconst C (v := nI 1) dL_isMarked_26 (by decide) ?_
  refine hQ _ _ _ _ _ (Or.inr (Or.inl ⟨_, _, dL_isMarked_27, rfl, rfl, rfl, rfl⟩)) ⟨?_, rfl⟩
  rfl
set_option maxRecDepth 100000 in
set_option maxHeartbeats 4000000 in
theorem ct_L_held_x {l : Launch} {D : va_G} {tys : List (ClassId × FieldType)} (hfl : l.stackTraces = false) {cI cL : ClassId} {h : Nat → Nat} {o : Nat} {f : Nat → Int64} (hT : tys[0]? = some (cI, .int)) (hTL : tys[1]? = some (cL, .long)) {x y z9 : Int32} : CtH l D tys TL yL_held wsL_held ({ frames := 8, cells := 1, slots := 6, locals := 145 } : Room) (SW cI h jInit ++ [(o, .inl (cL, 1, .inr (.inl f)))]) [.ref (h 0), .int x, .int y, .int z9, .ref o] (fun r z => r = some (.int (nI 1)) ∧ z = SW cI h jInit ++ [(o, .inl (cL, 1, .inr (.inl f)))]) := by
  refine CtH.of hfl [some (.ref (h 0)), some (.int x), some (.int y), some (.int z9), some (.ref o), none] (by decide) rfl rfl (Nat.le_of_ble_eq_true rfl) rfl (fun κ C HH hQ => ?_)
  refine V.aload C dL_held_0 rfl ?_
  refine V.iconst C (v := nI 0) dL_held_2 (by decide) ?_
  refine V.aload_n C dL_held_3 rfl ?_
  refine V.iload_n C dL_held_4 rfl ?_
  refine V.iload_n C dL_held_5 rfl ?_
  refine V.iload_n C dL_held_6 rfl ?_
  refine V.catchV (X := _) C HH (ct_X6_held_x hfl hT) rfl gL_held_X6_held (n := 3) ⟨rfl, by decide, by decide, by decide +kernel⟩ rfl (q0 := 0) rfl rfl rfl ⟨Nat.le_of_ble_eq_true rfl, Nat.le_of_ble_eq_true rfl⟩ ⟨Nat.le_of_ble_eq_true rfl, Nat.le_of_ble_eq_true rfl⟩ (Nat.le_of_ble_eq_true rfl) rfl dL_held_7 (by decide) [] ⟨0, 12, 15, 21⟩ [] rfl (fun z h9 => by cases h9) (by decide) (by decide) (by decide +kernel) (fun q9 => ?_)
  refine V.astore C dL_held_15 (by decide) rfl ?_
  dsimp only [List.set]
  refine V.iconst C (v := nI 1) dL_held_17 (by decide) ?_
  refine hQ _ _ _ _ _ (Or.inr (Or.inl ⟨_, _, dL_held_18, rfl, rfl, rfl, rfl⟩)) ⟨?_, rfl⟩
  rfl
set_option maxRecDepth 100000 in
set_option maxHeartbeats 4000000 in
theorem ct_L_nextIn_x {l : Launch} {D : va_G} {tys : List (ClassId × FieldType)} (hfl : l.stackTraces = false) {cI cL : ClassId} {h : Nat → Nat} {o : Nat} {f : Nat → Int64} (hT : tys[0]? = some (cI, .int)) (hTL : tys[1]? = some (cL, .long)) {x : Int32} (hx : x < 0 ∨ nI 9 < x) : CtH l D tys TL yL_nextIn wsL_nextIn ({ frames := 8, cells := 1, slots := 6, locals := 143 } : Room) (SW cI h jInit ++ [(o, .inl (cL, 1, .inr (.inl f)))]) [.ref (h 0), .int x, .ref o] (fun r z => r = some (.int (nI 1)) ∧ z = SW cI h jInit ++ [(o, .inl (cL, 1, .inr (.inl f)))]) := by
  refine CtH.of hfl [some (.ref (h 0)), some (.int x), some (.ref o), none] (by decide) rfl rfl (Nat.le_of_ble_eq_true rfl) rfl (fun κ C HH hQ => ?_)
  refine V.aload_n C dL_nextIn_0 rfl ?_
  refine V.iconst C (v := nI 0) dL_nextIn_1 (by decide) ?_
  refine V.aload_n C dL_nextIn_2 rfl ?_
  refine V.iload_n C dL_nextIn_3 rfl ?_
  refine V.catchV (X := _) C HH (ct_X6_nextIn_x hfl hT hx) rfl gL_nextIn_X6_nextIn (n := 1) ⟨rfl, by decide, by decide, by decide +kernel⟩ rfl (q0 := 0) rfl rfl rfl ⟨Nat.le_of_ble_eq_true rfl, Nat.le_of_ble_eq_true rfl⟩ ⟨Nat.le_of_ble_eq_true rfl, Nat.le_of_ble_eq_true rfl⟩ (Nat.le_of_ble_eq_true rfl) rfl dL_nextIn_4 (by decide) [] ⟨0, 9, 12, 13⟩ [] rfl (fun z h9 => by cases h9) (by decide) (by decide) (by decide +kernel) (fun q9 => ?_)
  refine V.astore_n C dL_nextIn_12 (by decide) rfl ?_
  dsimp only [List.set, Fin.val]
  refine V.iconst C (v := nI 1) dL_nextIn_13 (by decide) ?_
  refine hQ _ _ _ _ _ (Or.inr (Or.inl ⟨_, _, dL_nextIn_14, rfl, rfl, rfl, rfl⟩)) ⟨?_, rfl⟩
  rfl
set_option maxRecDepth 100000 in
set_option maxHeartbeats 4000000 in
theorem ct_L_offWith_x {l : Launch} {D : va_G} {tys : List (ClassId × FieldType)} (hfl : l.stackTraces = false) {cI cL : ClassId} {h : Nat → Nat} {o : Nat} {f : Nat → Int64} (hT : tys[0]? = some (cI, .int)) (hTL : tys[1]? = some (cL, .long)) {x : Int32} (hx : x < 0 ∨ nI 9 < x) : CtH l D tys TL yL_offWith wsL_offWith ({ frames := 9, cells := 1, slots := 6, locals := 163 } : Room) (SW cI h jInit ++ [(o, .inl (cL, 1, .inr (.inl f)))]) [.ref (h 0), .int x, .ref o] (fun r z => r = some (.int (nI 1)) ∧ z = SW cI h jInit ++ [(o, .inl (cL, 1, .inr (.inl f)))]) := by
  refine CtH.of hfl [some (.ref (h 0)), some (.int x), some (.ref o), none] (by decide) rfl rfl (Nat.le_of_ble_eq_true rfl) rfl (fun κ C HH hQ => ?_)
  refine V.aload_n C dL_offWith_0 rfl ?_
  refine V.iconst C (v := nI 0) dL_offWith_1 (by decide) ?_
  refine V.aload_n C dL_offWith_2 rfl ?_
  refine V.iload_n C dL_offWith_3 rfl ?_
  refine V.catchV (X := _) C HH (ct_X6_offWith_x hfl hT hx) rfl gL_offWith_X6_offWith (n := 1) ⟨rfl, by decide, by decide, by decide +kernel⟩ rfl (q0 := 0) rfl rfl rfl ⟨Nat.le_of_ble_eq_true rfl, Nat.le_of_ble_eq_true rfl⟩ ⟨Nat.le_of_ble_eq_true rfl, Nat.le_of_ble_eq_true rfl⟩ (Nat.le_of_ble_eq_true rfl) rfl dL_offWith_4 (by decide) [] ⟨0, 9, 12, 13⟩ [] rfl (fun z h9 => by cases h9) (by decide) (by decide) (by decide +kernel) (fun q9 => ?_)
  refine V.astore_n C dL_offWith_12 (by decide) rfl ?_
  dsimp only [List.set, Fin.val]
  refine V.iconst C (v := nI 1) dL_offWith_13 (by decide) ?_
  refine hQ _ _ _ _ _ (Or.inr (Or.inl ⟨_, _, dL_offWith_14, rfl, rfl, rfl, rfl⟩)) ⟨?_, rfl⟩
  rfl
set_option maxRecDepth 100000 in
set_option maxHeartbeats 4000000 in
theorem ct_L_shortest_x {l : Launch} {D : va_G} {tys : List (ClassId × FieldType)} (hfl : l.stackTraces = false) {cI cL : ClassId} {h : Nat → Nat} {o : Nat} {f : Nat → Int64} (hT : tys[0]? = some (cI, .int)) (hTL : tys[1]? = some (cL, .long)) {x : Int32} : CtH l D tys TL yL_shortest wsL_shortest ({ frames := 9, cells := 1, slots := 6, locals := 164 } : Room) (SW cI h jInit ++ [(o, .inl (cL, 1, .inr (.inl f)))]) [.ref (h 0), .int x, .ref o] (fun r z => r = some (.int (nI 1)) ∧ z = SW cI h jInit ++ [(o, .inl (cL, 1, .inr (.inl f)))]) := by
  refine CtH.of hfl [some (.ref (h 0)), some (.int x), some (.ref o), none] (by decide) rfl rfl (Nat.le_of_ble_eq_true rfl) rfl (fun κ C HH hQ => ?_)
  refine V.aload_n C dL_shortest_0 rfl ?_
  refine V.iconst C (v := nI 0) dL_shortest_1 (by decide) ?_
  refine V.aload_n C dL_shortest_2 rfl ?_
  refine V.iload_n C dL_shortest_3 rfl ?_
  refine V.catchV (X := _) C HH (ct_X6_shortest_x hfl hT) rfl gL_shortest_X6_shortest (n := 1) ⟨rfl, by decide, by decide, by decide +kernel⟩ rfl (q0 := 0) rfl rfl rfl ⟨Nat.le_of_ble_eq_true rfl, Nat.le_of_ble_eq_true rfl⟩ ⟨Nat.le_of_ble_eq_true rfl, Nat.le_of_ble_eq_true rfl⟩ (Nat.le_of_ble_eq_true rfl) rfl dL_shortest_4 (by decide) [] ⟨0, 9, 12, 21⟩ [] rfl (fun z h9 => by cases h9) (by decide) (by decide) (by decide +kernel) (fun q9 => ?_)
  refine V.astore_n C dL_shortest_12 (by decide) rfl ?_
  dsimp only [List.set, Fin.val]
  refine V.iconst C (v := nI 1) dL_shortest_13 (by decide) ?_
  refine hQ _ _ _ _ _ (Or.inr (Or.inl ⟨_, _, dL_shortest_14, rfl, rfl, rfl, rfl⟩)) ⟨?_, rfl⟩
  rfl
set_option maxRecDepth 100000 in
set_option maxHeartbeats 4000000 in
theorem ct_L_many_x {l : Launch} {D : va_G} {tys : List (ClassId × FieldType)} (hfl : l.stackTraces = false) {cI cL : ClassId} {h : Nat → Nat} {o : Nat} {f : Nat → Int64} (hT : tys[0]? = some (cI, .int)) (hTL : tys[1]? = some (cL, .long)) {x : Int32} (hx : x < nI 0 ∨ nI 11 < x) : CtH l D tys TL yL_many wsL_many ({ frames := 8, cells := 1, slots := 6, locals := 143 } : Room) (SW cI h jInit ++ [(o, .inl (cL, 1, .inr (.inl f)))]) [.ref (h 0), .int x, .ref o] (fun r z => r = some (.int (nI 1)) ∧ z = SW cI h jInit ++ [(o, .inl (cL, 1, .inr (.inl f)))]) := by
  refine CtH.of hfl [some (.ref (h 0)), some (.int x), some (.ref o), none] (by decide) rfl rfl (Nat.le_of_ble_eq_true rfl) rfl (fun κ C HH hQ => ?_)
  refine V.aload_n C dL_many_0 rfl ?_
  refine V.iconst C (v := nI 0) dL_many_1 (by decide) ?_
  refine V.aload_n C dL_many_2 rfl ?_
  refine V.iload_n C dL_many_3 rfl ?_
  refine V.catchV (X := _) C HH (ct_X6_many_x hfl hT hx) rfl gL_many_X6_many (n := 1) ⟨rfl, by decide, by decide, by decide +kernel⟩ rfl (q0 := 0) rfl rfl rfl ⟨Nat.le_of_ble_eq_true rfl, Nat.le_of_ble_eq_true rfl⟩ ⟨Nat.le_of_ble_eq_true rfl, Nat.le_of_ble_eq_true rfl⟩ (Nat.le_of_ble_eq_true rfl) rfl dL_many_4 (by decide) [] ⟨0, 9, 12, 13⟩ [] rfl (fun z h9 => by cases h9) (by decide) (by decide) (by decide +kernel) (fun q9 => ?_)
  refine V.astore_n C dL_many_12 (by decide) rfl ?_
  dsimp only [List.set, Fin.val]
  refine V.iconst C (v := nI 1) dL_many_13 (by decide) ?_
  refine hQ _ _ _ _ _ (Or.inr (Or.inl ⟨_, _, dL_many_14, rfl, rfl, rfl, rfl⟩)) ⟨?_, rfl⟩
  rfl
set_option maxRecDepth 100000 in
set_option maxHeartbeats 4000000 in
theorem ct_L_target_x2 {l : Launch} {D : va_G} {tys : List (ClassId × FieldType)} (hfl : l.stackTraces = false) {cI cL : ClassId} {h : Nat → Nat} {o : Nat} {f : Nat → Int64} (hT : tys[0]? = some (cI, .int)) (hTL : tys[1]? = some (cL, .long)) {a b : Nat} {x : Int32} (ha : a < 3) (hb : b < 2) (hx : x < nI 0 ∨ nI 9 < x) : CtH l D tys TL yL_target wsL_target ({ frames := 8, cells := 1, slots := 6, locals := 147 } : Room) (SW cI h jInit ++ [(o, .inl (cL, 1, .inr (.inl f)))]) [.ref (h 0), .int (nI a), .int (nI b), .int x, .ref o] (fun r z => r = some (.int (nI 2)) ∧ z = SW cI h jInit ++ [(o, .inl (cL, 1, .inr (.inl f)))]) := by
  refine CtH.of hfl [some (.ref (h 0)), some (.int (nI a)), some (.int (nI b)), some (.int x), some (.ref o), none] (by decide) rfl rfl (Nat.le_of_ble_eq_true rfl) rfl (fun κ C HH hQ => ?_)
  refine V.aload C dL_target_0 rfl ?_
  refine V.iconst C (v := nI 0) dL_target_2 (by decide) ?_
  refine V.aload_n C dL_target_3 rfl ?_
  refine V.iload_n C dL_target_4 rfl ?_
  refine V.iload_n C dL_target_5 rfl ?_
  refine V.iload_n C dL_target_6 rfl ?_
  refine V.catchV (X := _) C HH (ct_X6_target_x2 hfl hT ha hb hx) rfl gL_target_X6_target (n := 3) ⟨rfl, by decide, by decide, by decide +kernel⟩ rfl (q0 := 0) rfl rfl rfl ⟨Nat.le_of_ble_eq_true rfl, Nat.le_of_ble_eq_true rfl⟩ ⟨Nat.le_of_ble_eq_true rfl, Nat.le_of_ble_eq_true rfl⟩ (Nat.le_of_ble_eq_true rfl) rfl dL_target_7 (by decide) [⟨0, 12, 15, 21⟩] ⟨0, 12, 19, 13⟩ [] rfl (fun z h9 => by simp only [List.mem_singleton] at h9; subst h9; exact ⟨by decide, by decide +kernel, rfl⟩) (by decide) (by decide) (by decide +kernel) (fun q9 => ?_)
  refine V.astore C dL_target_19 (by decide) rfl ?_
  dsimp only [List.set]
  refine V.iconst C (v := nI 2) dL_target_21 (by decide) ?_
  refine hQ _ _ _ _ _ (Or.inr (Or.inl ⟨_, _, dL_target_22, rfl, rfl, rfl, rfl⟩)) ⟨?_, rfl⟩
  rfl
set_option maxRecDepth 100000 in
set_option maxHeartbeats 4000000 in
theorem ct_L_ofCell_x2 {l : Launch} {D : va_G} {tys : List (ClassId × FieldType)} (hfl : l.stackTraces = false) {cI cL : ClassId} {h : Nat → Nat} {o : Nat} {f : Nat → Int64} (hT : tys[0]? = some (cI, .int)) (hTL : tys[1]? = some (cL, .long)) {a b : Nat} {x : Int32} (ha : a < 3) (hb : b < 2) (hx : x < nI 0 ∨ nI 4 < x) : CtH l D tys TL yL_ofCell wsL_ofCell ({ frames := 8, cells := 1, slots := 6, locals := 146 } : Room) (SW cI h jInit ++ [(o, .inl (cL, 1, .inr (.inl f)))]) [.ref (h 0), .int (nI a), .int (nI b), .int x, .ref o] (fun r z => r = some (.int (nI 2)) ∧ z = SW cI h jInit ++ [(o, .inl (cL, 1, .inr (.inl f)))]) := by
  refine CtH.of hfl [some (.ref (h 0)), some (.int (nI a)), some (.int (nI b)), some (.int x), some (.ref o), none] (by decide) rfl rfl (Nat.le_of_ble_eq_true rfl) rfl (fun κ C HH hQ => ?_)
  refine V.aload C dL_ofCell_0 rfl ?_
  refine V.iconst C (v := nI 0) dL_ofCell_2 (by decide) ?_
  refine V.aload_n C dL_ofCell_3 rfl ?_
  refine V.iload_n C dL_ofCell_4 rfl ?_
  refine V.iload_n C dL_ofCell_5 rfl ?_
  refine V.iload_n C dL_ofCell_6 rfl ?_
  refine V.catchV (X := _) C HH (ct_X6_ofCell_x2 hfl hT ha hb hx) rfl gL_ofCell_X6_ofCell (n := 3) ⟨rfl, by decide, by decide, by decide +kernel⟩ rfl (q0 := 0) rfl rfl rfl ⟨Nat.le_of_ble_eq_true rfl, Nat.le_of_ble_eq_true rfl⟩ ⟨Nat.le_of_ble_eq_true rfl, Nat.le_of_ble_eq_true rfl⟩ (Nat.le_of_ble_eq_true rfl) rfl dL_ofCell_7 (by decide) [⟨0, 12, 15, 21⟩] ⟨0, 12, 19, 13⟩ [] rfl (fun z h9 => by simp only [List.mem_singleton] at h9; subst h9; exact ⟨by decide, by decide +kernel, rfl⟩) (by decide) (by decide) (by decide +kernel) (fun q9 => ?_)
  refine V.astore C dL_ofCell_19 (by decide) rfl ?_
  dsimp only [List.set]
  refine V.iconst C (v := nI 2) dL_ofCell_21 (by decide) ?_
  refine hQ _ _ _ _ _ (Or.inr (Or.inl ⟨_, _, dL_ofCell_22, rfl, rfl, rfl, rfl⟩)) ⟨?_, rfl⟩
  rfl
set_option maxRecDepth 100000 in
set_option maxHeartbeats 4000000 in
theorem ct_L_rotate_ok {l : Launch} {D : va_G} {tys : List (ClassId × FieldType)} (hfl : l.stackTraces = false) {cI cL : ClassId} {h : Nat → Nat} {o : Nat} {f : Nat → Int64} (hT : tys[0]? = some (cI, .int)) (hTL : tys[1]? = some (cL, .long)) : CtH l D tys TL yL_rotate wsL_rotate ({ frames := 3, cells := 0, slots := 0, locals := 62 } : Room) (SW cI h jInit ++ [(o, .inl (cL, 1, .inr (.inl f)))]) [.ref (h 0), .int (nI 0), .ref o] (fun r z => r = some (.int (nI 0)) ∧ z = SW cI h (sW jInit 1 1 (nI 0)) ++ [(o, .inl (cL, 1, .inr (.inl (vp_updL f 0 (nI 0).toInt64))))]) := by
  refine CtH.of hfl [some (.ref (h 0)), some (.int (nI 0)), some (.ref o), none] (by decide) rfl rfl (Nat.le_of_ble_eq_true rfl) rfl (fun κ C HH hQ => ?_)
  refine V.aload_n C dL_rotate_0 rfl ?_
  refine V.iconst C (v := nI 0) dL_rotate_1 (by decide) ?_
  refine V.aload_n C dL_rotate_2 rfl ?_
  refine V.iload_n C dL_rotate_3 rfl ?_
  refine V.callVXi C (X := _) (ct_X6_rotate (r := 0) (Q := 0) hT rfl (by decide) rfl (by decide) (by decide)) rfl gL_rotate_X6_rotate (n := 1) ⟨rfl, by decide, by decide, by decide +kernel⟩ rfl (q0 := 0) rfl rfl rfl ⟨Nat.le_of_ble_eq_true rfl, Nat.le_of_ble_eq_true rfl⟩ ⟨rfl, rfl, Nat.zero_le _, Nat.zero_le _⟩ (Nat.le_of_ble_eq_true rfl) rfl dL_rotate_4 ?_
  refine V.topi (y := nI 0) (rfl) ?_
  refine V.i2l C dL_rotate_7 ?_
  refine V.last C (q0 := 27) (t0 := 1) (w' := _) rfl hTL rfl (by decide) (by decide) rfl dL_rotate_8 ?_
  refine V.goto C (tgt := 18) dL_rotate_9 (by decide) ?_
  refine V.iconst C (v := nI 0) dL_rotate_18 (by decide) ?_
  refine hQ _ _ _ _ _ (Or.inr (Or.inl ⟨_, _, dL_rotate_19, rfl, rfl, rfl, rfl⟩)) ⟨?_, rfl⟩
  rfl
set_option maxRecDepth 100000 in
set_option maxHeartbeats 4000000 in
theorem ct_L_person_ok {l : Launch} {D : va_G} {tys : List (ClassId × FieldType)} (hfl : l.stackTraces = false) {cI cL : ClassId} {h : Nat → Nat} {o : Nat} {f : Nat → Int64} (hT : tys[0]? = some (cI, .int)) (hTL : tys[1]? = some (cL, .long)) {a b : Nat} (ha : a < 3) (hb : b < 2) : CtH l D tys TL yL_person wsL_person ({ frames := 2, cells := 0, slots := 0, locals := 43 } : Room) (SW cI h jInit ++ [(o, .inl (cL, 1, .inr (.inl f)))]) [.ref (h 0), .int (nI a), .int (nI b), .ref o] (fun r z => r = some (.int (nI 0)) ∧ z = SW cI h (sW (sW (sW jInit 13 0 (nI (a * 2 + b))) 16 0 (-1)) 3 0 (nI (0 + 1))) ++ [(o, .inl (cL, 1, .inr (.inl (vp_updL f 0 (nI 0).toInt64))))]) := by
  refine CtH.of hfl [some (.ref (h 0)), some (.int (nI a)), some (.int (nI b)), some (.ref o), none] (by decide) rfl rfl (Nat.le_of_ble_eq_true rfl) rfl (fun κ C HH hQ => ?_)
  refine V.aload_n C dL_person_0 rfl ?_
  refine V.iconst C (v := nI 0) dL_person_1 (by decide) ?_
  refine V.aload_n C dL_person_2 rfl ?_
  refine V.iload_n C dL_person_3 rfl ?_
  refine V.iload_n C dL_person_4 rfl ?_
  refine V.callVXi C (X := _) (ct_X6_person (P := 0) hT rfl (by decide) ha hb) rfl gL_person_X6_person (n := 2) ⟨rfl, by decide, by decide, by decide +kernel⟩ rfl (q0 := 0) rfl rfl rfl ⟨Nat.le_of_ble_eq_true rfl, Nat.le_of_ble_eq_true rfl⟩ ⟨rfl, rfl, Nat.zero_le _, Nat.zero_le _⟩ (Nat.le_of_ble_eq_true rfl) rfl dL_person_5 ?_
  refine V.topi (y := nI 0) (rfl) ?_
  refine V.i2l C dL_person_8 ?_
  refine V.last C (q0 := 27) (t0 := 1) (w' := _) rfl hTL rfl (by decide) (by decide) rfl dL_person_9 ?_
  refine V.goto C (tgt := 21) dL_person_10 (by decide) ?_
  refine V.iconst C (v := nI 0) dL_person_21 (by decide) ?_
  refine hQ _ _ _ _ _ (Or.inr (Or.inl ⟨_, _, dL_person_22, rfl, rfl, rfl, rfl⟩)) ⟨?_, rfl⟩
  rfl
set_option maxRecDepth 100000 in
set_option maxHeartbeats 4000000 in
theorem ct_L_target_ok {l : Launch} {D : va_G} {tys : List (ClassId × FieldType)} (hfl : l.stackTraces = false) {cI cL : ClassId} {h : Nat → Nat} {o : Nat} {f : Nat → Int64} (hT : tys[0]? = some (cI, .int)) (hTL : tys[1]? = some (cL, .long)) {a b t : Nat} (ha : a < 3) (hb : b < 2) (ht : t ≤ 9) : CtH l D tys TL yL_target wsL_target ({ frames := 7, cells := 0, slots := 0, locals := 160 } : Room) (SW cI h jInit ++ [(o, .inl (cL, 1, .inr (.inl f)))]) [.ref (h 0), .int (nI a), .int (nI b), .int (nI t), .ref o] (fun r z => r = some (.int (nI 0)) ∧ z = SW cI h (jWeigh (sW jInit 11 (a * 2 + b) (nI t)) 24 0 3) ++ [(o, .inl (cL, 1, .inr (.inl (vp_updL f 0 (nI 0).toInt64))))]) := by
  refine CtH.of hfl [some (.ref (h 0)), some (.int (nI a)), some (.int (nI b)), some (.int (nI t)), some (.ref o), none] (by decide) rfl rfl (Nat.le_of_ble_eq_true rfl) rfl (fun κ C HH hQ => ?_)
  refine V.aload C dL_target_0 rfl ?_
  refine V.iconst C (v := nI 0) dL_target_2 (by decide) ?_
  refine V.aload_n C dL_target_3 rfl ?_
  refine V.iload_n C dL_target_4 rfl ?_
  refine V.iload_n C dL_target_5 rfl ?_
  refine V.iload_n C dL_target_6 rfl ?_
  refine V.callVXi C (X := _) (ct_X6_target (N := 0) (n := 3) hT rfl (by decide) (fun p hp => absurd hp (Nat.not_lt_zero p)) rfl (by decide) ha hb ht) rfl gL_target_X6_target (n := 3) ⟨rfl, by decide, by decide, by decide +kernel⟩ rfl (q0 := 0) rfl rfl rfl ⟨Nat.le_of_ble_eq_true rfl, Nat.le_of_ble_eq_true rfl⟩ ⟨rfl, rfl, Nat.zero_le _, Nat.zero_le _⟩ (Nat.le_of_ble_eq_true rfl) rfl dL_target_7 ?_
  refine V.topi (y := nI 0) (jJ_tgt _ (by omega)) ?_
  refine V.i2l C dL_target_10 ?_
  refine V.last C (q0 := 27) (t0 := 1) (w' := _) rfl hTL rfl (by decide) (by decide) rfl dL_target_11 ?_
  refine V.goto C (tgt := 23) dL_target_12 (by decide) ?_
  refine V.iconst C (v := nI 0) dL_target_23 (by decide) ?_
  refine hQ _ _ _ _ _ (Or.inr (Or.inl ⟨_, _, dL_target_24, rfl, rfl, rfl, rfl⟩)) ⟨?_, rfl⟩
  rfl
set_option maxRecDepth 100000 in
set_option maxHeartbeats 4000000 in
theorem ct_L_soft_ok {l : Launch} {D : va_G} {tys : List (ClassId × FieldType)} (hfl : l.stackTraces = false) {cI cL : ClassId} {h : Nat → Nat} {o : Nat} {f : Nat → Int64} (hT : tys[0]? = some (cI, .int)) (hTL : tys[1]? = some (cL, .long)) {a : Nat} (ha : a ≤ 3) : CtH l D tys TL yL_soft wsL_soft ({ frames := 2, cells := 0, slots := 0, locals := 43 } : Room) (SW cI h jInit ++ [(o, .inl (cL, 1, .inr (.inl f)))]) [.ref (h 0), .int (nI a), .ref o] (fun r z => r = some (.int (nI 0)) ∧ z = SW cI h (sW jInit 2 0 (nI a)) ++ [(o, .inl (cL, 1, .inr (.inl (vp_updL f 0 (nI 0).toInt64))))]) := by
  refine CtH.of hfl [some (.ref (h 0)), some (.int (nI a)), some (.ref o), none] (by decide) rfl rfl (Nat.le_of_ble_eq_true rfl) rfl (fun κ C HH hQ => ?_)
  refine V.aload_n C dL_soft_0 rfl ?_
  refine V.iconst C (v := nI 0) dL_soft_1 (by decide) ?_
  refine V.aload_n C dL_soft_2 rfl ?_
  refine V.iload_n C dL_soft_3 rfl ?_
  refine V.callVXi C (X := _) (ct_X6_soft hT ha) rfl gL_soft_X6_soft (n := 1) ⟨rfl, by decide, by decide, by decide +kernel⟩ rfl (q0 := 0) rfl rfl rfl ⟨Nat.le_of_ble_eq_true rfl, Nat.le_of_ble_eq_true rfl⟩ ⟨rfl, rfl, Nat.zero_le _, Nat.zero_le _⟩ (Nat.le_of_ble_eq_true rfl) rfl dL_soft_4 ?_
  refine V.topi (y := nI 0) (rfl) ?_
  refine V.i2l C dL_soft_7 ?_
  refine V.last C (q0 := 27) (t0 := 1) (w' := _) rfl hTL rfl (by decide) (by decide) rfl dL_soft_8 ?_
  refine V.goto C (tgt := 15) dL_soft_9 (by decide) ?_
  refine V.iconst C (v := nI 0) dL_soft_15 (by decide) ?_
  refine hQ _ _ _ _ _ (Or.inr (Or.inl ⟨_, _, dL_soft_16, rfl, rfl, rfl, rfl⟩)) ⟨?_, rfl⟩
  rfl
set_option maxRecDepth 100000 in
set_option maxHeartbeats 4000000 in
theorem ct_L_ofCell_ok {l : Launch} {D : va_G} {tys : List (ClassId × FieldType)} (hfl : l.stackTraces = false) {cI cL : ClassId} {h : Nat → Nat} {o : Nat} {f : Nat → Int64} (hT : tys[0]? = some (cI, .int)) (hTL : tys[1]? = some (cL, .long)) {a b k : Nat} (ha : a < 3) (hb : b < 2) (hk : k < 5) : CtH l D tys TL yL_ofCell wsL_ofCell ({ frames := 6, cells := 0, slots := 0, locals := 139 } : Room) (SW cI h jInit ++ [(o, .inl (cL, 1, .inr (.inl f)))]) [.ref (h 0), .int (nI a), .int (nI b), .int (nI k), .ref o] (fun r z => r = some (.int (nI 0)) ∧ z = SW cI h jInit ++ [(o, .inl (cL, 1, .inr (.inl (vp_updL f 0 (nI 0).toInt64))))]) := by
  refine CtH.of hfl [some (.ref (h 0)), some (.int (nI a)), some (.int (nI b)), some (.int (nI k)), some (.ref o), none] (by decide) rfl rfl (Nat.le_of_ble_eq_true rfl) rfl (fun κ C HH hQ => ?_)
  refine V.aload C dL_ofCell_0 rfl ?_
  refine V.iconst C (v := nI 0) dL_ofCell_2 (by decide) ?_
  refine V.aload_n C dL_ofCell_3 rfl ?_
  refine V.iload_n C dL_ofCell_4 rfl ?_
  refine V.iload_n C dL_ofCell_5 rfl ?_
  refine V.iload_n C dL_ofCell_6 rfl ?_
  refine V.callVXi C (X := _) (ct_X6_ofCell (N := 0) (P := 0) hT rfl (by decide) rfl (by decide) (fun p hp => absurd hp (Nat.not_lt_zero p)) ha hb hk) rfl gL_ofCell_X6_ofCell (n := 3) ⟨rfl, by decide, by decide, by decide +kernel⟩ rfl (q0 := 0) rfl rfl rfl ⟨Nat.le_of_ble_eq_true rfl, Nat.le_of_ble_eq_true rfl⟩ ⟨rfl, rfl, Nat.zero_le _, Nat.zero_le _⟩ (Nat.le_of_ble_eq_true rfl) rfl dL_ofCell_7 ?_
  refine V.topi (y := nI 0) (jJ_cell _ (by omega) _ hk) ?_
  refine V.i2l C dL_ofCell_10 ?_
  refine V.last C (q0 := 27) (t0 := 1) (w' := _) rfl hTL rfl (by decide) (by decide) rfl dL_ofCell_11 ?_
  refine V.goto C (tgt := 23) dL_ofCell_12 (by decide) ?_
  refine V.iconst C (v := nI 0) dL_ofCell_23 (by decide) ?_
  refine hQ _ _ _ _ _ (Or.inr (Or.inl ⟨_, _, dL_ofCell_24, rfl, rfl, rfl, rfl⟩)) ⟨?_, rfl⟩
  rfl
set_option maxRecDepth 100000 in
set_option maxHeartbeats 4000000 in
theorem ct_L_many_ok {l : Launch} {D : va_G} {tys : List (ClassId × FieldType)} (hfl : l.stackTraces = false) {cI cL : ClassId} {h : Nat → Nat} {o : Nat} {f : Nat → Int64} (hT : tys[0]? = some (cI, .int)) (hTL : tys[1]? = some (cL, .long)) {k : Nat} (hk : k < 12) : CtH l D tys TL yL_many wsL_many ({ frames := 7, cells := 0, slots := 0, locals := 158 } : Room) (SW cI h jInit ++ [(o, .inl (cL, 1, .inr (.inl f)))]) [.ref (h 0), .int (nI k), .ref o] (fun r z => r = some (.int (nI 0)) ∧ z = SW cI h jInit ++ [(o, .inl (cL, 1, .inr (.inl (vp_updL f 0 (nI 0).toInt64))))]) := by
  refine CtH.of hfl [some (.ref (h 0)), some (.int (nI k)), some (.ref o), none] (by decide) rfl rfl (Nat.le_of_ble_eq_true rfl) rfl (fun κ C HH hQ => ?_)
  refine V.aload_n C dL_many_0 rfl ?_
  refine V.iconst C (v := nI 0) dL_many_1 (by decide) ?_
  refine V.aload_n C dL_many_2 rfl ?_
  refine V.iload_n C dL_many_3 rfl ?_
  refine V.callVXi C (X := _) (ct_X6_many (N := 0) (P := 0) hT rfl (by decide) rfl (by decide) (fun p hp => absurd hp (Nat.not_lt_zero p)) hk) rfl gL_many_X6_many (n := 1) ⟨rfl, by decide, by decide, by decide +kernel⟩ rfl (q0 := 0) rfl rfl rfl ⟨Nat.le_of_ble_eq_true rfl, Nat.le_of_ble_eq_true rfl⟩ ⟨rfl, rfl, Nat.zero_le _, Nat.zero_le _⟩ (Nat.le_of_ble_eq_true rfl) rfl dL_many_4 ?_
  refine V.topi (y := nI 0) (jJ_many _ hk) ?_
  refine V.i2l C dL_many_7 ?_
  refine V.last C (q0 := 27) (t0 := 1) (w' := _) rfl hTL rfl (by decide) (by decide) rfl dL_many_8 ?_
  refine V.goto C (tgt := 15) dL_many_9 (by decide) ?_
  refine V.iconst C (v := nI 0) dL_many_15 (by decide) ?_
  refine hQ _ _ _ _ _ (Or.inr (Or.inl ⟨_, _, dL_many_16, rfl, rfl, rfl, rfl⟩)) ⟨?_, rfl⟩
  rfl
set_option maxRecDepth 100000 in
set_option maxHeartbeats 4000000 in
theorem ct_L_rounds_ok {l : Launch} {D : va_G} {tys : List (ClassId × FieldType)} (hfl : l.stackTraces = false) {cI cL : ClassId} {h : Nat → Nat} {o : Nat} {f : Nat → Int64} (hT : tys[0]? = some (cI, .int)) (hTL : tys[1]? = some (cL, .long)) {a : Nat} (ha : a ≤ 9) : CtH l D tys TL yL_rounds wsL_rounds ({ frames := 7, cells := 0, slots := 0, locals := 157 } : Room) (SW cI h jInit ++ [(o, .inl (cL, 1, .inr (.inl f)))]) [.ref (h 0), .int (nI a), .ref o] (fun r z => r = some (.int (nI 0)) ∧ z = SW cI h (jWeigh (sW jInit 0 0 (nI a)) 24 0 a) ++ [(o, .inl (cL, 1, .inr (.inl (vp_updL f 0 (nI 3).toInt64))))]) := by
  refine CtH.of hfl [some (.ref (h 0)), some (.int (nI a)), some (.ref o), none] (by decide) rfl rfl (Nat.le_of_ble_eq_true rfl) rfl (fun κ C HH hQ => ?_)
  refine V.aload_n C dL_rounds_0 rfl ?_
  refine V.iconst C (v := nI 0) dL_rounds_1 (by decide) ?_
  refine V.aload_n C dL_rounds_2 rfl ?_
  refine V.iload_n C dL_rounds_3 rfl ?_
  refine V.callVXi C (X := _) (ct_X6_rounds (N := 0) hT rfl (by decide) (fun p hp => absurd hp (Nat.not_lt_zero p)) ha) rfl gL_rounds_X6_rounds (n := 1) ⟨rfl, by decide, by decide, by decide +kernel⟩ rfl (q0 := 0) rfl rfl rfl ⟨Nat.le_of_ble_eq_true rfl, Nat.le_of_ble_eq_true rfl⟩ ⟨rfl, rfl, Nat.zero_le _, Nat.zero_le _⟩ (Nat.le_of_ble_eq_true rfl) rfl dL_rounds_4 ?_
  refine V.topi (y := nI 3) (rfl) ?_
  refine V.i2l C dL_rounds_7 ?_
  refine V.last C (q0 := 27) (t0 := 1) (w' := _) rfl hTL rfl (by decide) (by decide) rfl dL_rounds_8 ?_
  refine V.goto C (tgt := 15) dL_rounds_9 (by decide) ?_
  refine V.iconst C (v := nI 0) dL_rounds_15 (by decide) ?_
  refine hQ _ _ _ _ _ (Or.inr (Or.inl ⟨_, _, dL_rounds_16, rfl, rfl, rfl, rfl⟩)) ⟨?_, rfl⟩
  rfl
set_option maxRecDepth 100000 in
set_option maxHeartbeats 4000000 in
theorem ct_L_hold_ok {l : Launch} {D : va_G} {tys : List (ClassId × FieldType)} (hfl : l.stackTraces = false) {cI cL : ClassId} {h : Nat → Nat} {o : Nat} {f : Nat → Int64} (hT : tys[0]? = some (cI, .int)) (hTL : tys[1]? = some (cL, .long)) : CtH l D tys TL yL_hold wsL_hold ({ frames := 4, cells := 0, slots := 0, locals := 95 } : Room) (SW cI h jInit ++ [(o, .inl (cL, 1, .inr (.inl f)))]) [.ref (h 0), .ref o] (fun r z => r = some (.int (nI 0)) ∧ z = SW cI h (jHoldQ (sW jInit 7 0 (nI (0 + 1))) 0 0 0) ++ [(o, .inl (cL, 1, .inr (.inl (vp_updL f 0 (nI 0).toInt64))))]) := by
  refine CtH.of hfl [some (.ref (h 0)), some (.ref o), none] (by decide) rfl rfl (Nat.le_of_ble_eq_true rfl) rfl (fun κ C HH hQ => ?_)
  refine V.aload_n C dL_hold_0 rfl ?_
  refine V.iconst C (v := nI 0) dL_hold_1 (by decide) ?_
  refine V.aload_n C dL_hold_2 rfl ?_
  refine V.callVXi C (X := _) (ct_X6_hold (R := 0) (N := 0) (Q := 0) hT rfl (by decide) (fun p hp => absurd hp (Nat.not_lt_zero p)) rfl (by decide) (fun p hp => absurd hp (Nat.not_lt_zero p)) rfl (by decide)) rfl gL_hold_X6_hold (n := 0) ⟨rfl, by decide, by decide, by decide +kernel⟩ rfl (q0 := 0) rfl rfl rfl ⟨Nat.le_of_ble_eq_true rfl, Nat.le_of_ble_eq_true rfl⟩ ⟨rfl, rfl, Nat.zero_le _, Nat.zero_le _⟩ (Nat.le_of_ble_eq_true rfl) rfl dL_hold_3 ?_
  refine V.topi (y := nI 0) (rfl) ?_
  refine V.i2l C dL_hold_6 ?_
  refine V.last C (q0 := 27) (t0 := 1) (w' := _) rfl hTL rfl (by decide) (by decide) rfl dL_hold_7 ?_
  refine V.goto C (tgt := 14) dL_hold_8 (by decide) ?_
  refine V.iconst C (v := nI 0) dL_hold_14 (by decide) ?_
  refine hQ _ _ _ _ _ (Or.inr (Or.inl ⟨_, _, dL_hold_15, rfl, rfl, rfl, rfl⟩)) ⟨?_, rfl⟩
  rfl
set_option maxRecDepth 100000 in
set_option maxHeartbeats 4000000 in
theorem ct_L_nextIn_ok {l : Launch} {D : va_G} {tys : List (ClassId × FieldType)} (hfl : l.stackTraces = false) {cI cL : ClassId} {h : Nat → Nat} {o : Nat} {f : Nat → Int64} (hT : tys[0]? = some (cI, .int)) (hTL : tys[1]? = some (cL, .long)) {a : Nat} (ha : a ≤ 9) : CtH l D tys TL yL_nextIn wsL_nextIn ({ frames := 6, cells := 0, slots := 0, locals := 136 } : Room) (SW cI h jInit ++ [(o, .inl (cL, 1, .inr (.inl f)))]) [.ref (h 0), .int (nI a), .ref o] (fun r z => r = some (.int (nI 0)) ∧ z = SW cI h jInit ++ [(o, .inl (cL, 1, .inr (.inl (vp_updL f 0 ((-1)).toInt64))))]) := by
  refine CtH.of hfl [some (.ref (h 0)), some (.int (nI a)), some (.ref o), none] (by decide) rfl rfl (Nat.le_of_ble_eq_true rfl) rfl (fun κ C HH hQ => ?_)
  refine V.aload_n C dL_nextIn_0 rfl ?_
  refine V.iconst C (v := nI 0) dL_nextIn_1 (by decide) ?_
  refine V.aload_n C dL_nextIn_2 rfl ?_
  refine V.iload_n C dL_nextIn_3 rfl ?_
  refine V.callVXi C (X := _) (ct_X6_nextIn (N := 0) (P := 0) hT rfl (by decide) rfl (by decide) (fun p hp => absurd hp (Nat.not_lt_zero p)) ha) rfl gL_nextIn_X6_nextIn (n := 1) ⟨rfl, by decide, by decide, by decide +kernel⟩ rfl (q0 := 0) rfl rfl rfl ⟨Nat.le_of_ble_eq_true rfl, Nat.le_of_ble_eq_true rfl⟩ ⟨rfl, rfl, Nat.zero_le _, Nat.zero_le _⟩ (Nat.le_of_ble_eq_true rfl) rfl dL_nextIn_4 ?_
  refine V.topi (y := (-1)) (rfl) ?_
  refine V.i2l C dL_nextIn_7 ?_
  refine V.last C (q0 := 27) (t0 := 1) (w' := _) rfl hTL rfl (by decide) (by decide) rfl dL_nextIn_8 ?_
  refine V.goto C (tgt := 15) dL_nextIn_9 (by decide) ?_
  refine V.iconst C (v := nI 0) dL_nextIn_15 (by decide) ?_
  refine hQ _ _ _ _ _ (Or.inr (Or.inl ⟨_, _, dL_nextIn_16, rfl, rfl, rfl, rfl⟩)) ⟨?_, rfl⟩
  rfl
set_option maxRecDepth 100000 in
set_option maxHeartbeats 4000000 in
theorem ct_L_offWith_ok {l : Launch} {D : va_G} {tys : List (ClassId × FieldType)} (hfl : l.stackTraces = false) {cI cL : ClassId} {h : Nat → Nat} {o : Nat} {f : Nat → Int64} (hT : tys[0]? = some (cI, .int)) (hTL : tys[1]? = some (cL, .long)) {a : Nat} (ha : a ≤ 9) : CtH l D tys TL yL_offWith wsL_offWith ({ frames := 6, cells := 0, slots := 0, locals := 136 } : Room) (SW cI h jInit ++ [(o, .inl (cL, 1, .inr (.inl f)))]) [.ref (h 0), .int (nI a), .ref o] (fun r z => r = some (.int (nI 0)) ∧ z = SW cI h (jWeigh jInit 25 0 a) ++ [(o, .inl (cL, 1, .inr (.inl (vp_updL f 0 (nI 0).toInt64))))]) := by
  refine CtH.of hfl [some (.ref (h 0)), some (.int (nI a)), some (.ref o), none] (by decide) rfl rfl (Nat.le_of_ble_eq_true rfl) rfl (fun κ C HH hQ => ?_)
  refine V.aload_n C dL_offWith_0 rfl ?_
  refine V.iconst C (v := nI 0) dL_offWith_1 (by decide) ?_
  refine V.aload_n C dL_offWith_2 rfl ?_
  refine V.iload_n C dL_offWith_3 rfl ?_
  refine V.callVXi C (X := _) (ct_X6_offWith (N := 0) hT rfl (by decide) (fun p hp => absurd hp (Nat.not_lt_zero p)) ha) rfl gL_offWith_X6_offWith (n := 1) ⟨rfl, by decide, by decide, by decide +kernel⟩ rfl (q0 := 0) rfl rfl rfl ⟨Nat.le_of_ble_eq_true rfl, Nat.le_of_ble_eq_true rfl⟩ ⟨rfl, rfl, Nat.zero_le _, Nat.zero_le _⟩ (Nat.le_of_ble_eq_true rfl) rfl dL_offWith_4 ?_
  refine V.topi (y := nI 0) (jJ_offw _ (by omega)) ?_
  refine V.i2l C dL_offWith_7 ?_
  refine V.last C (q0 := 27) (t0 := 1) (w' := _) rfl hTL rfl (by decide) (by decide) rfl dL_offWith_8 ?_
  refine V.goto C (tgt := 15) dL_offWith_9 (by decide) ?_
  refine V.iconst C (v := nI 0) dL_offWith_15 (by decide) ?_
  refine hQ _ _ _ _ _ (Or.inr (Or.inl ⟨_, _, dL_offWith_16, rfl, rfl, rfl, rfl⟩)) ⟨?_, rfl⟩
  rfl
