set_option maxRecDepth 100000 in
set_option maxHeartbeats 4000000 in
theorem cz_X10_question_x {l : Launch} {D : va_G} {cI cL cII cO : ClassId} {e0 : Nat} {g : Nat → Nat} {x : Int32} (hx : x < nI 2 ∨ nI 5 < x) : CtZ l D (TY cI cL cII cO) e0 yX10_question (Cond.code yX10_question cX10_question 2 (some .int) :: TBL) ({ frames := 2, cells := 0, slots := 0, locals := 44 } : Room) (MF cI cII e0 g ((nI 0))) [.ref (g 0), .int (x)] (fun r z => ∃ fs, r = some (.int (nI 0)) ∧ z = [(g 0, .inr (12, .int (nI 1) :: fs))]) := by
  refine CtZ.of [some (.ref (g 0)), some (.int (x))] (by decide) rfl rfl (Nat.le_of_ble_eq_true rfl) rfl (fun κ C ZE hQ => ?_)
  refine V.aload_n C dX10_question_0 rfl ?_
  refine V.iload_n C dX10_question_1 rfl ?_
  refine V.iconst C (v := nI 2) dX10_question_2 (by decide) ?_
  refine V.iconst C (v := nI 5) dX10_question_3 (by decide) ?_
  refine V.zSin C ZE (cz_X10_isIn) gz_X10_45 (n := 3) ⟨by decide, by decide, by decide +kernel⟩ rfl rfl ⟨Nat.le_of_ble_eq_true rfl, Nat.le_of_ble_eq_true rfl⟩ ⟨Nat.le_of_ble_eq_true rfl, Nat.le_of_ble_eq_true rfl⟩ (Nat.le_of_ble_eq_true rfl) rfl dX10_question_4 ?_
  refine V.topi (y := nI 0) (isIn_f hx) ?_
  refine V.if_ne C (tgt := 14) dX10_question_7 (by decide) (fun c7 => ?_) (fun c7 => ?_)
  · exfalso; exact absurd c7 (by decide +kernel)
  refine V.iconst C (v := nI 1) dX10_question_10 (by decide) ?_
  refine V.goto C (tgt := 15) dX10_question_11 (by decide) ?_
  refine V.iconst C (v := nI 1) dX10_question_15 (by decide) ?_
  refine V.zVix C ZE (X := []) (cz_X10_start_t1) (by first | rfl | exact (List.append_nil _).symm) gz_X10_63 (n := 2) ⟨rfl, by decide, by decide, by decide +kernel⟩ rfl (q0 := 0) rfl rfl rfl ⟨Nat.le_of_ble_eq_true rfl, Nat.le_of_ble_eq_true rfl⟩ ⟨Nat.le_of_ble_eq_true rfl, Nat.le_of_ble_eq_true rfl⟩ (Nat.le_of_ble_eq_true rfl) rfl dX10_question_16 ?_
  refine V.if_ne C (tgt := 57) dX10_question_19 (by decide) (fun c19 => ?_) (fun c19 => ?_)
  rotate_left
  · exfalso; exact absurd c19 (by decide +kernel)
  refine V.iconst C (v := nI 0) dX10_question_57 (by decide) ?_
  refine V.pick (k := 0) rfl ?_
  refine V.widen (k := 0) (n := 0) (Nat.le_of_ble_eq_true rfl) (Nat.le_of_ble_eq_true rfl) ?_
  exact hQ _ _ _ _ _ (Or.inr (Or.inl ⟨_, _, dX10_question_58, rfl, by first | rfl | exact nar_bI _, rfl, rfl⟩)) ⟨_, rfl, rfl⟩
set_option maxRecDepth 100000 in
set_option maxHeartbeats 4000000 in
theorem cz_X10_route_x {l : Launch} {D : va_G} {cI cL cII cO : ClassId} {e0 : Nat} {g : Nat → Nat} {x y z9 : Int32}  : CtZ l D (TY cI cL cII cO) e0 yX10_route (Cond.code yX10_route cX10_route 5 (some .int) :: TBL) ({ frames := 3, cells := 0, slots := 0, locals := 65 } : Room) (MF cI cII e0 g ((nI 0))) [.ref (g 0), .int (x), .int (y), .int (z9)] (fun r z => ∃ fs, r = some (.int (nI 0)) ∧ z = [(g 0, .inr (12, .int (nI 1) :: fs))]) := by
  refine CtZ.of [some (.ref (g 0)), some (.int (x)), some (.int (y)), some (.int (z9)), none] (by decide) rfl rfl (Nat.le_of_ble_eq_true rfl) rfl (fun κ C ZE hQ => ?_)
  refine V.aload_n C dX10_route_0 rfl ?_
  refine V.aload_n C dX10_route_1 rfl ?_
  refine V.iload_n C dX10_route_2 rfl ?_
  refine V.iload_n C dX10_route_3 rfl ?_
  refine V.zVix C ZE (X := []) (cz_X10_isNoAnswer) (by first | rfl | exact (List.append_nil _).symm) gz_X10_81 (n := 2) ⟨rfl, by decide, by decide, by decide +kernel⟩ rfl (q0 := 0) rfl rfl rfl ⟨Nat.le_of_ble_eq_true rfl, Nat.le_of_ble_eq_true rfl⟩ ⟨Nat.le_of_ble_eq_true rfl, Nat.le_of_ble_eq_true rfl⟩ (Nat.le_of_ble_eq_true rfl) rfl dX10_route_4 ?_
  refine V.if_ne C (tgt := 23) dX10_route_7 (by decide) (fun c7 => ?_) (fun c7 => ?_)
  rotate_left
  · exfalso; exact absurd c7 (by decide +kernel)
  refine V.iconst C (v := nI 1) dX10_route_23 (by decide) ?_
  refine V.goto C (tgt := 28) dX10_route_24 (by decide) ?_
  refine V.iconst C (v := nI 1) dX10_route_28 (by decide) ?_
  refine V.zVix C ZE (X := []) (cz_X10_start_t1) (by first | rfl | exact (List.append_nil _).symm) gz_X10_63 (n := 2) ⟨rfl, by decide, by decide, by decide +kernel⟩ rfl (q0 := 0) rfl rfl rfl ⟨Nat.le_of_ble_eq_true rfl, Nat.le_of_ble_eq_true rfl⟩ ⟨Nat.le_of_ble_eq_true rfl, Nat.le_of_ble_eq_true rfl⟩ (Nat.le_of_ble_eq_true rfl) rfl dX10_route_29 ?_
  refine V.if_ne C (tgt := 81) dX10_route_32 (by decide) (fun c32 => ?_) (fun c32 => ?_)
  rotate_left
  · exfalso; exact absurd c32 (by decide +kernel)
  refine V.iconst C (v := nI 0) dX10_route_81 (by decide) ?_
  refine V.pick (k := 0) rfl ?_
  refine V.widen (k := 0) (n := 0) (Nat.le_of_ble_eq_true rfl) (Nat.le_of_ble_eq_true rfl) ?_
  exact hQ _ _ _ _ _ (Or.inr (Or.inl ⟨_, _, dX10_route_82, rfl, by first | rfl | exact nar_bI _, rfl, rfl⟩)) ⟨_, rfl, rfl⟩
set_option maxRecDepth 100000 in
set_option maxHeartbeats 4000000 in
theorem cz_X10_behind_x {l : Launch} {D : va_G} {cI cL cII cO : ClassId} {e0 : Nat} {g : Nat → Nat} {x y : Int32}  : CtZ l D (TY cI cL cII cO) e0 yX10_behind (Cond.code yX10_behind cX10_behind 3 (some .int) :: TBL) ({ frames := 3, cells := 0, slots := 0, locals := 65 } : Room) (MF cI cII e0 g ((nI 0))) [.ref (g 0), .int (x), .int (y)] (fun r z => ∃ fs, r = some (.int (nI 0)) ∧ z = [(g 0, .inr (12, .int (nI 1) :: fs))]) := by
  refine CtZ.of [some (.ref (g 0)), some (.int (x)), some (.int (y))] (by decide) rfl rfl (Nat.le_of_ble_eq_true rfl) rfl (fun κ C ZE hQ => ?_)
  refine V.aload_n C dX10_behind_0 rfl ?_
  refine V.aload_n C dX10_behind_1 rfl ?_
  refine V.iload_n C dX10_behind_2 rfl ?_
  refine V.iload_n C dX10_behind_3 rfl ?_
  refine V.zVix C ZE (X := []) (cz_X10_isNoAnswer) (by first | rfl | exact (List.append_nil _).symm) gz_X10_81 (n := 2) ⟨rfl, by decide, by decide, by decide +kernel⟩ rfl (q0 := 0) rfl rfl rfl ⟨Nat.le_of_ble_eq_true rfl, Nat.le_of_ble_eq_true rfl⟩ ⟨Nat.le_of_ble_eq_true rfl, Nat.le_of_ble_eq_true rfl⟩ (Nat.le_of_ble_eq_true rfl) rfl dX10_behind_4 ?_
  refine V.iconst C (v := nI 1) dX10_behind_7 (by decide) ?_
  refine V.zVix C ZE (X := []) (cz_X10_start_t1) (by first | rfl | exact (List.append_nil _).symm) gz_X10_63 (n := 2) ⟨rfl, by decide, by decide, by decide +kernel⟩ rfl (q0 := 0) rfl rfl rfl ⟨Nat.le_of_ble_eq_true rfl, Nat.le_of_ble_eq_true rfl⟩ ⟨Nat.le_of_ble_eq_true rfl, Nat.le_of_ble_eq_true rfl⟩ (Nat.le_of_ble_eq_true rfl) rfl dX10_behind_8 ?_
  refine V.if_eq C (tgt := 18) dX10_behind_11 (by decide) (fun c11 => ?_) (fun c11 => ?_)
  · exfalso; exact absurd c11 (by decide +kernel)
  refine V.iconst C (v := nI 0) dX10_behind_14 (by decide) ?_
  refine V.goto C (tgt := 24) dX10_behind_15 (by decide) ?_
  refine V.pick (k := 0) rfl ?_
  refine V.widen (k := 0) (n := 0) (Nat.le_of_ble_eq_true rfl) (Nat.le_of_ble_eq_true rfl) ?_
  exact hQ _ _ _ _ _ (Or.inr (Or.inl ⟨_, _, dX10_behind_24, rfl, by first | rfl | exact nar_bI _, rfl, rfl⟩)) ⟨_, rfl, rfl⟩
set_option maxRecDepth 100000 in
set_option maxHeartbeats 4000000 in
theorem cz_X10_person_xa {l : Launch} {D : va_G} {cI cL cII cO : ClassId} {e0 : Nat} {g : Nat → Nat} {x y : Int32} (hx : x < nI 0 ∨ nI 2 < x) : CtZ l D (TY cI cL cII cO) e0 yX10_person (Cond.code yX10_person cX10_person 3 (some .int) :: TBL) ({ frames := 2, cells := 0, slots := 0, locals := 44 } : Room) (MF cI cII e0 g ((nI 0))) [.ref (g 0), .int (x), .int (y)] (fun r z => ∃ fs, r = some (.int (nI 0)) ∧ z = [(g 0, .inr (12, .int (nI 1) :: fs))]) := by
  refine CtZ.of [some (.ref (g 0)), some (.int (x)), some (.int (y))] (by decide) rfl rfl (Nat.le_of_ble_eq_true rfl) rfl (fun κ C ZE hQ => ?_)
  refine V.aload_n C dX10_person_0 rfl ?_
  refine V.iload_n C dX10_person_1 rfl ?_
  refine V.zSin C ZE (cz_X10_isNoA_t hx) gz_X10_92 (n := 1) ⟨by decide, by decide, by decide +kernel⟩ rfl rfl ⟨Nat.le_of_ble_eq_true rfl, Nat.le_of_ble_eq_true rfl⟩ ⟨Nat.le_of_ble_eq_true rfl, Nat.le_of_ble_eq_true rfl⟩ (Nat.le_of_ble_eq_true rfl) rfl dX10_person_2 ?_
  refine V.if_ne C (tgt := 15) dX10_person_5 (by decide) (fun c5 => ?_) (fun c5 => ?_)
  rotate_left
  · exfalso; exact absurd c5 (by decide +kernel)
  refine V.iconst C (v := nI 1) dX10_person_15 (by decide) ?_
  refine V.goto C (tgt := 20) dX10_person_16 (by decide) ?_
  refine V.iconst C (v := nI 1) dX10_person_20 (by decide) ?_
  refine V.zVix C ZE (X := []) (cz_X10_start_t1) (by first | rfl | exact (List.append_nil _).symm) gz_X10_63 (n := 2) ⟨rfl, by decide, by decide, by decide +kernel⟩ rfl (q0 := 0) rfl rfl rfl ⟨Nat.le_of_ble_eq_true rfl, Nat.le_of_ble_eq_true rfl⟩ ⟨Nat.le_of_ble_eq_true rfl, Nat.le_of_ble_eq_true rfl⟩ (Nat.le_of_ble_eq_true rfl) rfl dX10_person_21 ?_
  refine V.if_ne C (tgt := 52) dX10_person_24 (by decide) (fun c24 => ?_) (fun c24 => ?_)
  rotate_left
  · exfalso; exact absurd c24 (by decide +kernel)
  refine V.iconst C (v := nI 0) dX10_person_52 (by decide) ?_
  refine V.pick (k := 0) rfl ?_
  refine V.widen (k := 0) (n := 0) (Nat.le_of_ble_eq_true rfl) (Nat.le_of_ble_eq_true rfl) ?_
  exact hQ _ _ _ _ _ (Or.inr (Or.inl ⟨_, _, dX10_person_53, rfl, by first | rfl | exact nar_bI _, rfl, rfl⟩)) ⟨_, rfl, rfl⟩
set_option maxRecDepth 100000 in
set_option maxHeartbeats 4000000 in
theorem cz_X10_person_xb {l : Launch} {D : va_G} {cI cL cII cO : ClassId} {e0 : Nat} {g : Nat → Nat} {x y : Int32} (h1 : ¬ x < nI 0) (h2 : ¬ nI 2 < x) (hy : y < nI 0 ∨ nI 1 < y) : CtZ l D (TY cI cL cII cO) e0 yX10_person (Cond.code yX10_person cX10_person 3 (some .int) :: TBL) ({ frames := 2, cells := 0, slots := 0, locals := 44 } : Room) (MF cI cII e0 g ((nI 0))) [.ref (g 0), .int (x), .int (y)] (fun r z => ∃ fs, r = some (.int (nI 0)) ∧ z = [(g 0, .inr (12, .int (nI 1) :: fs))]) := by
  refine CtZ.of [some (.ref (g 0)), some (.int (x)), some (.int (y))] (by decide) rfl rfl (Nat.le_of_ble_eq_true rfl) rfl (fun κ C ZE hQ => ?_)
  refine V.aload_n C dX10_person_0 rfl ?_
  refine V.iload_n C dX10_person_1 rfl ?_
  refine V.zSin C ZE (cz_X10_isNoA_f h1 h2) gz_X10_92 (n := 1) ⟨by decide, by decide, by decide +kernel⟩ rfl rfl ⟨Nat.le_of_ble_eq_true rfl, Nat.le_of_ble_eq_true rfl⟩ ⟨Nat.le_of_ble_eq_true rfl, Nat.le_of_ble_eq_true rfl⟩ (Nat.le_of_ble_eq_true rfl) rfl dX10_person_2 ?_
  refine V.if_ne C (tgt := 15) dX10_person_5 (by decide) (fun c5 => ?_) (fun c5 => ?_)
  · exfalso; exact absurd c5 (by decide +kernel)
  refine V.iload_n C dX10_person_8 rfl ?_
  refine V.zSin C ZE (cz_X10_isNoB_t hy) gz_X10_95 (n := 1) ⟨by decide, by decide, by decide +kernel⟩ rfl rfl ⟨Nat.le_of_ble_eq_true rfl, Nat.le_of_ble_eq_true rfl⟩ ⟨Nat.le_of_ble_eq_true rfl, Nat.le_of_ble_eq_true rfl⟩ (Nat.le_of_ble_eq_true rfl) rfl dX10_person_9 ?_
  refine V.if_eq C (tgt := 19) dX10_person_12 (by decide) (fun c12 => ?_) (fun c12 => ?_)
  · exfalso; exact absurd c12 (by decide +kernel)
  refine V.iconst C (v := nI 1) dX10_person_15 (by decide) ?_
  refine V.goto C (tgt := 20) dX10_person_16 (by decide) ?_
  refine V.iconst C (v := nI 1) dX10_person_20 (by decide) ?_
  refine V.zVix C ZE (X := []) (cz_X10_start_t1) (by first | rfl | exact (List.append_nil _).symm) gz_X10_63 (n := 2) ⟨rfl, by decide, by decide, by decide +kernel⟩ rfl (q0 := 0) rfl rfl rfl ⟨Nat.le_of_ble_eq_true rfl, Nat.le_of_ble_eq_true rfl⟩ ⟨Nat.le_of_ble_eq_true rfl, Nat.le_of_ble_eq_true rfl⟩ (Nat.le_of_ble_eq_true rfl) rfl dX10_person_21 ?_
  refine V.if_ne C (tgt := 52) dX10_person_24 (by decide) (fun c24 => ?_) (fun c24 => ?_)
  rotate_left
  · exfalso; exact absurd c24 (by decide +kernel)
  refine V.iconst C (v := nI 0) dX10_person_52 (by decide) ?_
  refine V.pick (k := 0) rfl ?_
  refine V.widen (k := 0) (n := 0) (Nat.le_of_ble_eq_true rfl) (Nat.le_of_ble_eq_true rfl) ?_
  exact hQ _ _ _ _ _ (Or.inr (Or.inl ⟨_, _, dX10_person_53, rfl, by first | rfl | exact nar_bI _, rfl, rfl⟩)) ⟨_, rfl, rfl⟩
set_option maxRecDepth 100000 in
set_option maxHeartbeats 4000000 in
theorem cz_X10_target_xa {l : Launch} {D : va_G} {cI cL cII cO : ClassId} {e0 : Nat} {g : Nat → Nat} {x y z9 : Int32} (hx : x < nI 0 ∨ nI 2 < x) : CtZ l D (TY cI cL cII cO) e0 yX10_target (Cond.code yX10_target cX10_target 5 (some .int) :: TBL) ({ frames := 2, cells := 0, slots := 0, locals := 44 } : Room) (MF cI cII e0 g ((nI 0))) [.ref (g 0), .int (x), .int (y), .int (z9)] (fun r z => ∃ fs, r = some (.int (nI 0)) ∧ z = [(g 0, .inr (12, .int (nI 1) :: fs))]) := by
  refine CtZ.of [some (.ref (g 0)), some (.int (x)), some (.int (y)), some (.int (z9)), none] (by decide) rfl rfl (Nat.le_of_ble_eq_true rfl) rfl (fun κ C ZE hQ => ?_)
  refine V.aload_n C dX10_target_0 rfl ?_
  refine V.iload_n C dX10_target_1 rfl ?_
  refine V.zSin C ZE (cz_X10_isNoA_t hx) gz_X10_92 (n := 1) ⟨by decide, by decide, by decide +kernel⟩ rfl rfl ⟨Nat.le_of_ble_eq_true rfl, Nat.le_of_ble_eq_true rfl⟩ ⟨Nat.le_of_ble_eq_true rfl, Nat.le_of_ble_eq_true rfl⟩ (Nat.le_of_ble_eq_true rfl) rfl dX10_target_2 ?_
  refine V.if_ne C (tgt := 15) dX10_target_5 (by decide) (fun c5 => ?_) (fun c5 => ?_)
  rotate_left
  · exfalso; exact absurd c5 (by decide +kernel)
  refine V.iconst C (v := nI 1) dX10_target_15 (by decide) ?_
  refine V.goto C (tgt := 20) dX10_target_16 (by decide) ?_
  refine V.iconst C (v := nI 1) dX10_target_20 (by decide) ?_
  refine V.zVix C ZE (X := []) (cz_X10_start_t1) (by first | rfl | exact (List.append_nil _).symm) gz_X10_63 (n := 2) ⟨rfl, by decide, by decide, by decide +kernel⟩ rfl (q0 := 0) rfl rfl rfl ⟨Nat.le_of_ble_eq_true rfl, Nat.le_of_ble_eq_true rfl⟩ ⟨Nat.le_of_ble_eq_true rfl, Nat.le_of_ble_eq_true rfl⟩ (Nat.le_of_ble_eq_true rfl) rfl dX10_target_21 ?_
  refine V.if_ne C (tgt := 50) dX10_target_24 (by decide) (fun c24 => ?_) (fun c24 => ?_)
  rotate_left
  · exfalso; exact absurd c24 (by decide +kernel)
  refine V.iconst C (v := nI 0) dX10_target_50 (by decide) ?_
  refine V.pick (k := 0) rfl ?_
  refine V.widen (k := 0) (n := 0) (Nat.le_of_ble_eq_true rfl) (Nat.le_of_ble_eq_true rfl) ?_
  exact hQ _ _ _ _ _ (Or.inr (Or.inl ⟨_, _, dX10_target_51, rfl, by first | rfl | exact nar_bI _, rfl, rfl⟩)) ⟨_, rfl, rfl⟩
set_option maxRecDepth 100000 in
set_option maxHeartbeats 4000000 in
theorem cz_X10_target_xb {l : Launch} {D : va_G} {cI cL cII cO : ClassId} {e0 : Nat} {g : Nat → Nat} {x y z9 : Int32} (h1 : ¬ x < nI 0) (h2 : ¬ nI 2 < x) (hy : y < nI 0 ∨ nI 1 < y) : CtZ l D (TY cI cL cII cO) e0 yX10_target (Cond.code yX10_target cX10_target 5 (some .int) :: TBL) ({ frames := 2, cells := 0, slots := 0, locals := 44 } : Room) (MF cI cII e0 g ((nI 0))) [.ref (g 0), .int (x), .int (y), .int (z9)] (fun r z => ∃ fs, r = some (.int (nI 0)) ∧ z = [(g 0, .inr (12, .int (nI 1) :: fs))]) := by
  refine CtZ.of [some (.ref (g 0)), some (.int (x)), some (.int (y)), some (.int (z9)), none] (by decide) rfl rfl (Nat.le_of_ble_eq_true rfl) rfl (fun κ C ZE hQ => ?_)
  refine V.aload_n C dX10_target_0 rfl ?_
  refine V.iload_n C dX10_target_1 rfl ?_
  refine V.zSin C ZE (cz_X10_isNoA_f h1 h2) gz_X10_92 (n := 1) ⟨by decide, by decide, by decide +kernel⟩ rfl rfl ⟨Nat.le_of_ble_eq_true rfl, Nat.le_of_ble_eq_true rfl⟩ ⟨Nat.le_of_ble_eq_true rfl, Nat.le_of_ble_eq_true rfl⟩ (Nat.le_of_ble_eq_true rfl) rfl dX10_target_2 ?_
  refine V.if_ne C (tgt := 15) dX10_target_5 (by decide) (fun c5 => ?_) (fun c5 => ?_)
  · exfalso; exact absurd c5 (by decide +kernel)
  refine V.iload_n C dX10_target_8 rfl ?_
  refine V.zSin C ZE (cz_X10_isNoB_t hy) gz_X10_95 (n := 1) ⟨by decide, by decide, by decide +kernel⟩ rfl rfl ⟨Nat.le_of_ble_eq_true rfl, Nat.le_of_ble_eq_true rfl⟩ ⟨Nat.le_of_ble_eq_true rfl, Nat.le_of_ble_eq_true rfl⟩ (Nat.le_of_ble_eq_true rfl) rfl dX10_target_9 ?_
  refine V.if_eq C (tgt := 19) dX10_target_12 (by decide) (fun c12 => ?_) (fun c12 => ?_)
  · exfalso; exact absurd c12 (by decide +kernel)
  refine V.iconst C (v := nI 1) dX10_target_15 (by decide) ?_
  refine V.goto C (tgt := 20) dX10_target_16 (by decide) ?_
  refine V.iconst C (v := nI 1) dX10_target_20 (by decide) ?_
  refine V.zVix C ZE (X := []) (cz_X10_start_t1) (by first | rfl | exact (List.append_nil _).symm) gz_X10_63 (n := 2) ⟨rfl, by decide, by decide, by decide +kernel⟩ rfl (q0 := 0) rfl rfl rfl ⟨Nat.le_of_ble_eq_true rfl, Nat.le_of_ble_eq_true rfl⟩ ⟨Nat.le_of_ble_eq_true rfl, Nat.le_of_ble_eq_true rfl⟩ (Nat.le_of_ble_eq_true rfl) rfl dX10_target_21 ?_
  refine V.if_ne C (tgt := 50) dX10_target_24 (by decide) (fun c24 => ?_) (fun c24 => ?_)
  rotate_left
  · exfalso; exact absurd c24 (by decide +kernel)
  refine V.iconst C (v := nI 0) dX10_target_50 (by decide) ?_
  refine V.pick (k := 0) rfl ?_
  refine V.widen (k := 0) (n := 0) (Nat.le_of_ble_eq_true rfl) (Nat.le_of_ble_eq_true rfl) ?_
  exact hQ _ _ _ _ _ (Or.inr (Or.inl ⟨_, _, dX10_target_51, rfl, by first | rfl | exact nar_bI _, rfl, rfl⟩)) ⟨_, rfl, rfl⟩
set_option maxRecDepth 100000 in
set_option maxHeartbeats 4000000 in
theorem cz_X10_ofCell_xa {l : Launch} {D : va_G} {cI cL cII cO : ClassId} {e0 : Nat} {g : Nat → Nat} {x y z9 : Int32} (hx : x < nI 0 ∨ nI 2 < x) : CtZ l D (TY cI cL cII cO) e0 yX10_ofCell (Cond.code yX10_ofCell cX10_ofCell 4 (some .int) :: TBL) ({ frames := 2, cells := 0, slots := 0, locals := 44 } : Room) (MF cI cII e0 g ((nI 0))) [.ref (g 0), .int (x), .int (y), .int (z9)] (fun r z => ∃ fs, r = some (.int (nI 0)) ∧ z = [(g 0, .inr (12, .int (nI 1) :: fs))]) := by
  refine CtZ.of [some (.ref (g 0)), some (.int (x)), some (.int (y)), some (.int (z9))] (by decide) rfl rfl (Nat.le_of_ble_eq_true rfl) rfl (fun κ C ZE hQ => ?_)
  refine V.aload_n C dX10_ofCell_0 rfl ?_
  refine V.iload_n C dX10_ofCell_1 rfl ?_
  refine V.zSin C ZE (cz_X10_isNoA_t hx) gz_X10_92 (n := 1) ⟨by decide, by decide, by decide +kernel⟩ rfl rfl ⟨Nat.le_of_ble_eq_true rfl, Nat.le_of_ble_eq_true rfl⟩ ⟨Nat.le_of_ble_eq_true rfl, Nat.le_of_ble_eq_true rfl⟩ (Nat.le_of_ble_eq_true rfl) rfl dX10_ofCell_2 ?_
  refine V.if_ne C (tgt := 15) dX10_ofCell_5 (by decide) (fun c5 => ?_) (fun c5 => ?_)
  rotate_left
  · exfalso; exact absurd c5 (by decide +kernel)
  refine V.iconst C (v := nI 1) dX10_ofCell_15 (by decide) ?_
  refine V.goto C (tgt := 20) dX10_ofCell_16 (by decide) ?_
  refine V.iconst C (v := nI 1) dX10_ofCell_20 (by decide) ?_
  refine V.zVix C ZE (X := []) (cz_X10_start_t1) (by first | rfl | exact (List.append_nil _).symm) gz_X10_63 (n := 2) ⟨rfl, by decide, by decide, by decide +kernel⟩ rfl (q0 := 0) rfl rfl rfl ⟨Nat.le_of_ble_eq_true rfl, Nat.le_of_ble_eq_true rfl⟩ ⟨Nat.le_of_ble_eq_true rfl, Nat.le_of_ble_eq_true rfl⟩ (Nat.le_of_ble_eq_true rfl) rfl dX10_ofCell_21 ?_
  refine V.if_ne C (tgt := 49) dX10_ofCell_24 (by decide) (fun c24 => ?_) (fun c24 => ?_)
  rotate_left
  · exfalso; exact absurd c24 (by decide +kernel)
  refine V.iconst C (v := nI 0) dX10_ofCell_49 (by decide) ?_
  refine V.goto C (tgt := 60) dX10_ofCell_50 (by decide) ?_
  refine V.pick (k := 0) rfl ?_
  refine V.widen (k := 0) (n := 0) (Nat.le_of_ble_eq_true rfl) (Nat.le_of_ble_eq_true rfl) ?_
  exact hQ _ _ _ _ _ (Or.inr (Or.inl ⟨_, _, dX10_ofCell_60, rfl, by first | rfl | exact nar_bI _, rfl, rfl⟩)) ⟨_, rfl, rfl⟩
set_option maxRecDepth 100000 in
set_option maxHeartbeats 4000000 in
theorem cz_X10_ofCell_xb {l : Launch} {D : va_G} {cI cL cII cO : ClassId} {e0 : Nat} {g : Nat → Nat} {x y z9 : Int32} (h1 : ¬ x < nI 0) (h2 : ¬ nI 2 < x) (hy : y < nI 0 ∨ nI 1 < y) : CtZ l D (TY cI cL cII cO) e0 yX10_ofCell (Cond.code yX10_ofCell cX10_ofCell 4 (some .int) :: TBL) ({ frames := 2, cells := 0, slots := 0, locals := 44 } : Room) (MF cI cII e0 g ((nI 0))) [.ref (g 0), .int (x), .int (y), .int (z9)] (fun r z => ∃ fs, r = some (.int (nI 0)) ∧ z = [(g 0, .inr (12, .int (nI 1) :: fs))]) := by
  refine CtZ.of [some (.ref (g 0)), some (.int (x)), some (.int (y)), some (.int (z9))] (by decide) rfl rfl (Nat.le_of_ble_eq_true rfl) rfl (fun κ C ZE hQ => ?_)
  refine V.aload_n C dX10_ofCell_0 rfl ?_
  refine V.iload_n C dX10_ofCell_1 rfl ?_
  refine V.zSin C ZE (cz_X10_isNoA_f h1 h2) gz_X10_92 (n := 1) ⟨by decide, by decide, by decide +kernel⟩ rfl rfl ⟨Nat.le_of_ble_eq_true rfl, Nat.le_of_ble_eq_true rfl⟩ ⟨Nat.le_of_ble_eq_true rfl, Nat.le_of_ble_eq_true rfl⟩ (Nat.le_of_ble_eq_true rfl) rfl dX10_ofCell_2 ?_
  refine V.if_ne C (tgt := 15) dX10_ofCell_5 (by decide) (fun c5 => ?_) (fun c5 => ?_)
  · exfalso; exact absurd c5 (by decide +kernel)
  refine V.iload_n C dX10_ofCell_8 rfl ?_
  refine V.zSin C ZE (cz_X10_isNoB_t hy) gz_X10_95 (n := 1) ⟨by decide, by decide, by decide +kernel⟩ rfl rfl ⟨Nat.le_of_ble_eq_true rfl, Nat.le_of_ble_eq_true rfl⟩ ⟨Nat.le_of_ble_eq_true rfl, Nat.le_of_ble_eq_true rfl⟩ (Nat.le_of_ble_eq_true rfl) rfl dX10_ofCell_9 ?_
  refine V.if_eq C (tgt := 19) dX10_ofCell_12 (by decide) (fun c12 => ?_) (fun c12 => ?_)
  · exfalso; exact absurd c12 (by decide +kernel)
  refine V.iconst C (v := nI 1) dX10_ofCell_15 (by decide) ?_
  refine V.goto C (tgt := 20) dX10_ofCell_16 (by decide) ?_
  refine V.iconst C (v := nI 1) dX10_ofCell_20 (by decide) ?_
  refine V.zVix C ZE (X := []) (cz_X10_start_t1) (by first | rfl | exact (List.append_nil _).symm) gz_X10_63 (n := 2) ⟨rfl, by decide, by decide, by decide +kernel⟩ rfl (q0 := 0) rfl rfl rfl ⟨Nat.le_of_ble_eq_true rfl, Nat.le_of_ble_eq_true rfl⟩ ⟨Nat.le_of_ble_eq_true rfl, Nat.le_of_ble_eq_true rfl⟩ (Nat.le_of_ble_eq_true rfl) rfl dX10_ofCell_21 ?_
  refine V.if_ne C (tgt := 49) dX10_ofCell_24 (by decide) (fun c24 => ?_) (fun c24 => ?_)
  rotate_left
  · exfalso; exact absurd c24 (by decide +kernel)
  refine V.iconst C (v := nI 0) dX10_ofCell_49 (by decide) ?_
  refine V.goto C (tgt := 60) dX10_ofCell_50 (by decide) ?_
  refine V.pick (k := 0) rfl ?_
  refine V.widen (k := 0) (n := 0) (Nat.le_of_ble_eq_true rfl) (Nat.le_of_ble_eq_true rfl) ?_
  exact hQ _ _ _ _ _ (Or.inr (Or.inl ⟨_, _, dX10_ofCell_60, rfl, by first | rfl | exact nar_bI _, rfl, rfl⟩)) ⟨_, rfl, rfl⟩
set_option maxRecDepth 100000 in
set_option maxHeartbeats 4000000 in
theorem cz_X10_soft_x {l : Launch} {D : va_G} {cI cL cII cO : ClassId} {e0 : Nat} {g : Nat → Nat} {x : Int32} (hx : x < nI 0 ∨ nI 3 < x) : CtZ l D (TY cI cL cII cO) e0 yX10_soft (Cond.code yX10_soft cX10_soft 3 (some .int) :: TBL) ({ frames := 2, cells := 0, slots := 0, locals := 44 } : Room) (MF cI cII e0 g ((nI 0))) [.ref (g 0), .int (x)] (fun r z => ∃ fs, r = some (.int (nI 0)) ∧ z = [(g 0, .inr (12, .int (nI 1) :: fs))]) := by
  refine CtZ.of [some (.ref (g 0)), some (.int (x)), none] (by decide) rfl rfl (Nat.le_of_ble_eq_true rfl) rfl (fun κ C ZE hQ => ?_)
  refine V.aload_n C dX10_soft_0 rfl ?_
  refine V.iload_n C dX10_soft_1 rfl ?_
  refine V.iconst C (v := nI 0) dX10_soft_2 (by decide) ?_
  refine V.iconst C (v := nI 3) dX10_soft_3 (by decide) ?_
  refine V.zSin C ZE (cz_X10_isIn) gz_X10_45 (n := 3) ⟨by decide, by decide, by decide +kernel⟩ rfl rfl ⟨Nat.le_of_ble_eq_true rfl, Nat.le_of_ble_eq_true rfl⟩ ⟨Nat.le_of_ble_eq_true rfl, Nat.le_of_ble_eq_true rfl⟩ (Nat.le_of_ble_eq_true rfl) rfl dX10_soft_4 ?_
  refine V.topi (y := nI 0) (isIn_f hx) ?_
  refine V.if_ne C (tgt := 14) dX10_soft_7 (by decide) (fun c7 => ?_) (fun c7 => ?_)
  · exfalso; exact absurd c7 (by decide +kernel)
  refine V.iconst C (v := nI 1) dX10_soft_10 (by decide) ?_
  refine V.goto C (tgt := 15) dX10_soft_11 (by decide) ?_
  refine V.iconst C (v := nI 1) dX10_soft_15 (by decide) ?_
  refine V.zVix C ZE (X := []) (cz_X10_start_t1) (by first | rfl | exact (List.append_nil _).symm) gz_X10_63 (n := 2) ⟨rfl, by decide, by decide, by decide +kernel⟩ rfl (q0 := 0) rfl rfl rfl ⟨Nat.le_of_ble_eq_true rfl, Nat.le_of_ble_eq_true rfl⟩ ⟨Nat.le_of_ble_eq_true rfl, Nat.le_of_ble_eq_true rfl⟩ (Nat.le_of_ble_eq_true rfl) rfl dX10_soft_16 ?_
  refine V.if_eq C (tgt := 24) dX10_soft_19 (by decide) (fun c19 => ?_) (fun c19 => ?_)
  · exfalso; exact absurd c19 (by decide +kernel)
  refine V.iconst C (v := nI 0) dX10_soft_22 (by decide) ?_
  refine V.pick (k := 0) rfl ?_
  refine V.widen (k := 0) (n := 0) (Nat.le_of_ble_eq_true rfl) (Nat.le_of_ble_eq_true rfl) ?_
  exact hQ _ _ _ _ _ (Or.inr (Or.inl ⟨_, _, dX10_soft_23, rfl, by first | rfl | exact nar_bI _, rfl, rfl⟩)) ⟨_, rfl, rfl⟩
set_option maxRecDepth 100000 in
set_option maxHeartbeats 4000000 in
theorem cz_X10_ofPerson_x {l : Launch} {D : va_G} {cI cL cII cO : ClassId} {e0 : Nat} {g : Nat → Nat} {x y : Int32}  : CtZ l D (TY cI cL cII cO) e0 yX10_ofPerson (Cond.code yX10_ofPerson cX10_ofPerson 3 (some .int) :: TBL) ({ frames := 3, cells := 0, slots := 0, locals := 65 } : Room) (MF cI cII e0 g ((nI 0))) [.ref (g 0), .int (x), .int (y)] (fun r z => ∃ fs, r = some (.int (nI 0)) ∧ z = [(g 0, .inr (12, .int (nI 1) :: fs))]) := by
  refine CtZ.of [some (.ref (g 0)), some (.int (x)), some (.int (y))] (by decide) rfl rfl (Nat.le_of_ble_eq_true rfl) rfl (fun κ C ZE hQ => ?_)
  refine V.aload_n C dX10_ofPerson_0 rfl ?_
  refine V.iload_n C dX10_ofPerson_1 rfl ?_
  refine V.zVix C ZE (X := []) (cz_X10_isNoPerson) (by first | rfl | exact (List.append_nil _).symm) gz_X10_175 (n := 1) ⟨rfl, by decide, by decide, by decide +kernel⟩ rfl (q0 := 0) rfl rfl rfl ⟨Nat.le_of_ble_eq_true rfl, Nat.le_of_ble_eq_true rfl⟩ ⟨Nat.le_of_ble_eq_true rfl, Nat.le_of_ble_eq_true rfl⟩ (Nat.le_of_ble_eq_true rfl) rfl dX10_ofPerson_2 ?_
  refine V.if_ne C (tgt := 30) dX10_ofPerson_5 (by decide) (fun c5 => ?_) (fun c5 => ?_)
  rotate_left
  · exfalso; exact absurd c5 (by decide +kernel)
  refine V.iconst C (v := nI 0) dX10_ofPerson_30 (by decide) ?_
  refine V.goto C (tgt := 40) dX10_ofPerson_31 (by decide) ?_
  refine V.pick (k := 0) rfl ?_
  refine V.widen (k := 0) (n := 0) (Nat.le_of_ble_eq_true rfl) (Nat.le_of_ble_eq_true rfl) ?_
  exact hQ _ _ _ _ _ (Or.inr (Or.inl ⟨_, _, dX10_ofPerson_40, rfl, by first | rfl | exact nar_bI _, rfl, rfl⟩)) ⟨_, rfl, rfl⟩
set_option maxRecDepth 100000 in
set_option maxHeartbeats 4000000 in
theorem cz_X10_begin_x {l : Launch} {D : va_G} {cI cL cII cO : ClassId} {e0 : Nat} {g : Nat → Nat} {x : Int32}  : CtZ l D (TY cI cL cII cO) e0 yX10_begin (Cond.code yX10_begin cX10_begin 3 (some .int) :: TBL) ({ frames := 3, cells := 0, slots := 0, locals := 65 } : Room) (MF cI cII e0 g ((nI 0))) [.ref (g 0), .int (x)] (fun r z => ∃ fs, r = some (.int (nI 0)) ∧ z = [(g 0, .inr (12, .int (nI 1) :: fs))]) := by
  refine CtZ.of [some (.ref (g 0)), some (.int (x)), none] (by decide) rfl rfl (Nat.le_of_ble_eq_true rfl) rfl (fun κ C ZE hQ => ?_)
  refine V.aload_n C dX10_begin_0 rfl ?_
  refine V.iload_n C dX10_begin_1 rfl ?_
  refine V.zVix C ZE (X := []) (cz_X10_isNoPerson) (by first | rfl | exact (List.append_nil _).symm) gz_X10_175 (n := 1) ⟨rfl, by decide, by decide, by decide +kernel⟩ rfl (q0 := 0) rfl rfl rfl ⟨Nat.le_of_ble_eq_true rfl, Nat.le_of_ble_eq_true rfl⟩ ⟨Nat.le_of_ble_eq_true rfl, Nat.le_of_ble_eq_true rfl⟩ (Nat.le_of_ble_eq_true rfl) rfl dX10_begin_2 ?_
  refine V.if_ne C (tgt := 52) dX10_begin_5 (by decide) (fun c5 => ?_) (fun c5 => ?_)
  rotate_left
  · exfalso; exact absurd c5 (by decide +kernel)
  refine V.iconst C (v := nI 0) dX10_begin_52 (by decide) ?_
  refine V.pick (k := 0) rfl ?_
  refine V.widen (k := 0) (n := 0) (Nat.le_of_ble_eq_true rfl) (Nat.le_of_ble_eq_true rfl) ?_
  exact hQ _ _ _ _ _ (Or.inr (Or.inl ⟨_, _, dX10_begin_53, rfl, by first | rfl | exact nar_bI _, rfl, rfl⟩)) ⟨_, rfl, rfl⟩
set_option maxRecDepth 100000 in
set_option maxHeartbeats 4000000 in
theorem cz_X10_answer_x {l : Launch} {D : va_G} {cI cL cII cO : ClassId} {e0 : Nat} {g : Nat → Nat} {x y z9 : Int32}  : CtZ l D (TY cI cL cII cO) e0 yX10_answer (Cond.code yX10_answer cX10_answer 8 (some .int) :: TBL) ({ frames := 3, cells := 0, slots := 0, locals := 65 } : Room) (MF cI cII e0 g ((nI 0))) [.ref (g 0), .int (x), .int (y), .int (z9)] (fun r z => ∃ fs, r = some (.int (nI 0)) ∧ z = [(g 0, .inr (12, .int (nI 1) :: fs))]) := by
  refine CtZ.of [some (.ref (g 0)), some (.int (x)), some (.int (y)), some (.int (z9)), none, none, none, none] (by decide) rfl rfl (Nat.le_of_ble_eq_true rfl) rfl (fun κ C ZE hQ => ?_)
  refine V.aload_n C dX10_answer_0 rfl ?_
  refine V.iload_n C dX10_answer_1 rfl ?_
  refine V.zVix C ZE (X := []) (cz_X10_isNoInterview) (by first | rfl | exact (List.append_nil _).symm) gz_X10_208 (n := 1) ⟨rfl, by decide, by decide, by decide +kernel⟩ rfl (q0 := 0) rfl rfl rfl ⟨Nat.le_of_ble_eq_true rfl, Nat.le_of_ble_eq_true rfl⟩ ⟨Nat.le_of_ble_eq_true rfl, Nat.le_of_ble_eq_true rfl⟩ (Nat.le_of_ble_eq_true rfl) rfl dX10_answer_2 ?_
  refine V.if_ne C (tgt := 38) dX10_answer_5 (by decide) (fun c5 => ?_) (fun c5 => ?_)
  rotate_left
  · exfalso; exact absurd c5 (by decide +kernel)
  refine V.iconst C (v := nI 0) dX10_answer_38 (by decide) ?_
  refine V.pick (k := 0) rfl ?_
  refine V.widen (k := 0) (n := 0) (Nat.le_of_ble_eq_true rfl) (Nat.le_of_ble_eq_true rfl) ?_
  exact hQ _ _ _ _ _ (Or.inr (Or.inl ⟨_, _, dX10_answer_39, rfl, by first | rfl | exact nar_bI _, rfl, rfl⟩)) ⟨_, rfl, rfl⟩
set_option maxRecDepth 100000 in
set_option maxHeartbeats 4000000 in
theorem cz_X10_ofInterview_x {l : Launch} {D : va_G} {cI cL cII cO : ClassId} {e0 : Nat} {g : Nat → Nat} {x y : Int32}  : CtZ l D (TY cI cL cII cO) e0 yX10_ofInterview (Cond.code yX10_ofInterview cX10_ofInterview 3 (some .int) :: TBL) ({ frames := 3, cells := 0, slots := 0, locals := 65 } : Room) (MF cI cII e0 g ((nI 0))) [.ref (g 0), .int (x), .int (y)] (fun r z => ∃ fs, r = some (.int (nI 0)) ∧ z = [(g 0, .inr (12, .int (nI 1) :: fs))]) := by
  refine CtZ.of [some (.ref (g 0)), some (.int (x)), some (.int (y))] (by decide) rfl rfl (Nat.le_of_ble_eq_true rfl) rfl (fun κ C ZE hQ => ?_)
  refine V.aload_n C dX10_ofInterview_0 rfl ?_
  refine V.iload_n C dX10_ofInterview_1 rfl ?_
  refine V.zVix C ZE (X := []) (cz_X10_isNoInterview) (by first | rfl | exact (List.append_nil _).symm) gz_X10_208 (n := 1) ⟨rfl, by decide, by decide, by decide +kernel⟩ rfl (q0 := 0) rfl rfl rfl ⟨Nat.le_of_ble_eq_true rfl, Nat.le_of_ble_eq_true rfl⟩ ⟨Nat.le_of_ble_eq_true rfl, Nat.le_of_ble_eq_true rfl⟩ (Nat.le_of_ble_eq_true rfl) rfl dX10_ofInterview_2 ?_
  refine V.if_ne C (tgt := 31) dX10_ofInterview_5 (by decide) (fun c5 => ?_) (fun c5 => ?_)
  rotate_left
  · exfalso; exact absurd c5 (by decide +kernel)
  refine V.iconst C (v := nI 0) dX10_ofInterview_31 (by decide) ?_
  refine V.goto C (tgt := 58) dX10_ofInterview_32 (by decide) ?_
  refine V.pick (k := 0) rfl ?_
  refine V.widen (k := 0) (n := 0) (Nat.le_of_ble_eq_true rfl) (Nat.le_of_ble_eq_true rfl) ?_
  exact hQ _ _ _ _ _ (Or.inr (Or.inl ⟨_, _, dX10_ofInterview_58, rfl, by first | rfl | exact nar_bI _, rfl, rfl⟩)) ⟨_, rfl, rfl⟩
set_option maxRecDepth 100000 in
set_option maxHeartbeats 4000000 in
theorem cz_X10_given_x {l : Launch} {D : va_G} {cI cL cII cO : ClassId} {e0 : Nat} {g : Nat → Nat} {x y : Int32}  : CtZ l D (TY cI cL cII cO) e0 yX10_given (Cond.code yX10_given cX10_given 3 (some .int) :: TBL) ({ frames := 3, cells := 0, slots := 0, locals := 65 } : Room) (MF cI cII e0 g ((nI 0))) [.ref (g 0), .int (x), .int (y)] (fun r z => ∃ fs, r = some (.int (nI 0)) ∧ z = [(g 0, .inr (12, .int (nI 1) :: fs))]) := by
  refine CtZ.of [some (.ref (g 0)), some (.int (x)), some (.int (y))] (by decide) rfl rfl (Nat.le_of_ble_eq_true rfl) rfl (fun κ C ZE hQ => ?_)
  refine V.aload_n C dX10_given_0 rfl ?_
  refine V.iload_n C dX10_given_1 rfl ?_
  refine V.zVix C ZE (X := []) (cz_X10_isNoInterview) (by first | rfl | exact (List.append_nil _).symm) gz_X10_208 (n := 1) ⟨rfl, by decide, by decide, by decide +kernel⟩ rfl (q0 := 0) rfl rfl rfl ⟨Nat.le_of_ble_eq_true rfl, Nat.le_of_ble_eq_true rfl⟩ ⟨Nat.le_of_ble_eq_true rfl, Nat.le_of_ble_eq_true rfl⟩ (Nat.le_of_ble_eq_true rfl) rfl dX10_given_2 ?_
  refine V.if_ne C (tgt := 21) dX10_given_5 (by decide) (fun c5 => ?_) (fun c5 => ?_)
  rotate_left
  · exfalso; exact absurd c5 (by decide +kernel)
  refine V.iconst C (v := nI 0) dX10_given_21 (by decide) ?_
  refine V.goto C (tgt := 41) dX10_given_22 (by decide) ?_
  refine V.pick (k := 0) rfl ?_
  refine V.widen (k := 0) (n := 0) (Nat.le_of_ble_eq_true rfl) (Nat.le_of_ble_eq_true rfl) ?_
  exact hQ _ _ _ _ _ (Or.inr (Or.inl ⟨_, _, dX10_given_41, rfl, by first | rfl | exact nar_bI _, rfl, rfl⟩)) ⟨_, rfl, rfl⟩
set_option maxRecDepth 100000 in
set_option maxHeartbeats 4000000 in
theorem cz_X10_many_x {l : Launch} {D : va_G} {cI cL cII cO : ClassId} {e0 : Nat} {g : Nat → Nat} {x : Int32} (hx : x < nI 0 ∨ nI 11 < x) : CtZ l D (TY cI cL cII cO) e0 yX10_many (Cond.code yX10_many cX10_many 2 (some .int) :: TBL) ({ frames := 2, cells := 0, slots := 0, locals := 44 } : Room) (MF cI cII e0 g ((nI 0))) [.ref (g 0), .int (x)] (fun r z => ∃ fs, r = some (.int (nI 0)) ∧ z = [(g 0, .inr (12, .int (nI 1) :: fs))]) := by
  refine CtZ.of [some (.ref (g 0)), some (.int (x))] (by decide) rfl rfl (Nat.le_of_ble_eq_true rfl) rfl (fun κ C ZE hQ => ?_)
  refine V.aload_n C dX10_many_0 rfl ?_
  refine V.iload_n C dX10_many_1 rfl ?_
  refine V.iconst C (v := nI 0) dX10_many_2 (by decide) ?_
  refine V.bipush C (v := nI 11) dX10_many_3 (by decide) ?_
  refine V.zSin C ZE (cz_X10_isIn) gz_X10_45 (n := 3) ⟨by decide, by decide, by decide +kernel⟩ rfl rfl ⟨Nat.le_of_ble_eq_true rfl, Nat.le_of_ble_eq_true rfl⟩ ⟨Nat.le_of_ble_eq_true rfl, Nat.le_of_ble_eq_true rfl⟩ (Nat.le_of_ble_eq_true rfl) rfl dX10_many_5 ?_
  refine V.topi (y := nI 0) (isIn_f hx) ?_
  refine V.if_ne C (tgt := 15) dX10_many_8 (by decide) (fun c8 => ?_) (fun c8 => ?_)
  · exfalso; exact absurd c8 (by decide +kernel)
  refine V.iconst C (v := nI 1) dX10_many_11 (by decide) ?_
  refine V.goto C (tgt := 16) dX10_many_12 (by decide) ?_
  refine V.iconst C (v := nI 1) dX10_many_16 (by decide) ?_
  refine V.zVix C ZE (X := []) (cz_X10_start_t1) (by first | rfl | exact (List.append_nil _).symm) gz_X10_63 (n := 2) ⟨rfl, by decide, by decide, by decide +kernel⟩ rfl (q0 := 0) rfl rfl rfl ⟨Nat.le_of_ble_eq_true rfl, Nat.le_of_ble_eq_true rfl⟩ ⟨Nat.le_of_ble_eq_true rfl, Nat.le_of_ble_eq_true rfl⟩ (Nat.le_of_ble_eq_true rfl) rfl dX10_many_17 ?_
  refine V.if_eq C (tgt := 27) dX10_many_20 (by decide) (fun c20 => ?_) (fun c20 => ?_)
  · exfalso; exact absurd c20 (by decide +kernel)
  refine V.iconst C (v := nI 0) dX10_many_23 (by decide) ?_
  refine V.goto C (tgt := 32) dX10_many_24 (by decide) ?_
  refine V.pick (k := 0) rfl ?_
  refine V.widen (k := 0) (n := 0) (Nat.le_of_ble_eq_true rfl) (Nat.le_of_ble_eq_true rfl) ?_
  exact hQ _ _ _ _ _ (Or.inr (Or.inl ⟨_, _, dX10_many_32, rfl, by first | rfl | exact nar_bI _, rfl, rfl⟩)) ⟨_, rfl, rfl⟩
set_option maxRecDepth 100000 in
set_option maxHeartbeats 4000000 in
theorem cz_X10_rounds_x {l : Launch} {D : va_G} {cI cL cII cO : ClassId} {e0 : Nat} {g : Nat → Nat} {x : Int32} (hx : x < nI 0 ∨ nI 9 < x) : CtZ l D (TY cI cL cII cO) e0 yX10_rounds (Cond.code yX10_rounds cX10_rounds 3 (some .int) :: TBL) ({ frames := 2, cells := 0, slots := 0, locals := 44 } : Room) (MF cI cII e0 g ((nI 0))) [.ref (g 0), .int (x)] (fun r z => ∃ fs, r = some (.int (nI 0)) ∧ z = [(g 0, .inr (12, .int (nI 1) :: fs))]) := by
  refine CtZ.of [some (.ref (g 0)), some (.int (x)), none] (by decide) rfl rfl (Nat.le_of_ble_eq_true rfl) rfl (fun κ C ZE hQ => ?_)
  refine V.aload_n C dX10_rounds_0 rfl ?_
  refine V.iload_n C dX10_rounds_1 rfl ?_
  refine V.zSin C ZE (cz_X10_isNoRounds_t hx) gz_X10_264 (n := 1) ⟨by decide, by decide, by decide +kernel⟩ rfl rfl ⟨Nat.le_of_ble_eq_true rfl, Nat.le_of_ble_eq_true rfl⟩ ⟨Nat.le_of_ble_eq_true rfl, Nat.le_of_ble_eq_true rfl⟩ (Nat.le_of_ble_eq_true rfl) rfl dX10_rounds_2 ?_
  refine V.iconst C (v := nI 1) dX10_rounds_5 (by decide) ?_
  refine V.zVix C ZE (X := []) (cz_X10_start_t1) (by first | rfl | exact (List.append_nil _).symm) gz_X10_63 (n := 2) ⟨rfl, by decide, by decide, by decide +kernel⟩ rfl (q0 := 0) rfl rfl rfl ⟨Nat.le_of_ble_eq_true rfl, Nat.le_of_ble_eq_true rfl⟩ ⟨Nat.le_of_ble_eq_true rfl, Nat.le_of_ble_eq_true rfl⟩ (Nat.le_of_ble_eq_true rfl) rfl dX10_rounds_6 ?_
  refine V.if_eq C (tgt := 14) dX10_rounds_9 (by decide) (fun c9 => ?_) (fun c9 => ?_)
  · exfalso; exact absurd c9 (by decide +kernel)
  refine V.iconst C (v := nI 0) dX10_rounds_12 (by decide) ?_
  refine V.pick (k := 0) rfl ?_
  refine V.widen (k := 0) (n := 0) (Nat.le_of_ble_eq_true rfl) (Nat.le_of_ble_eq_true rfl) ?_
  exact hQ _ _ _ _ _ (Or.inr (Or.inl ⟨_, _, dX10_rounds_13, rfl, by first | rfl | exact nar_bI _, rfl, rfl⟩)) ⟨_, rfl, rfl⟩
set_option maxRecDepth 100000 in
set_option maxHeartbeats 4000000 in
theorem cz_X10_share_x {l : Launch} {D : va_G} {cI cL cII cO : ClassId} {e0 : Nat} {g : Nat → Nat} {x y z9 : Int32}  : CtZ l D (TY cI cL cII cO) e0 yX10_share (Cond.code yX10_share cX10_share 4 (some .int) :: TBL) ({ frames := 3, cells := 0, slots := 0, locals := 65 } : Room) (MF cI cII e0 g ((nI 0))) [.ref (g 0), .int (x), .int (y), .int (z9)] (fun r z => ∃ fs, r = some (.int (nI 0)) ∧ z = [(g 0, .inr (12, .int (nI 1) :: fs))]) := by
  refine CtZ.of [some (.ref (g 0)), some (.int (x)), some (.int (y)), some (.int (z9))] (by decide) rfl rfl (Nat.le_of_ble_eq_true rfl) rfl (fun κ C ZE hQ => ?_)
  refine V.aload_n C dX10_share_0 rfl ?_
  refine V.aload_n C dX10_share_1 rfl ?_
  refine V.iload_n C dX10_share_2 rfl ?_
  refine V.iload_n C dX10_share_3 rfl ?_
  refine V.zVix C ZE (X := []) (cz_X10_isNoAnswer) (by first | rfl | exact (List.append_nil _).symm) gz_X10_81 (n := 2) ⟨rfl, by decide, by decide, by decide +kernel⟩ rfl (q0 := 0) rfl rfl rfl ⟨Nat.le_of_ble_eq_true rfl, Nat.le_of_ble_eq_true rfl⟩ ⟨Nat.le_of_ble_eq_true rfl, Nat.le_of_ble_eq_true rfl⟩ (Nat.le_of_ble_eq_true rfl) rfl dX10_share_4 ?_
  refine V.if_ne C (tgt := 22) dX10_share_7 (by decide) (fun c7 => ?_) (fun c7 => ?_)
  rotate_left
  · exfalso; exact absurd c7 (by decide +kernel)
  refine V.iconst C (v := nI 1) dX10_share_22 (by decide) ?_
  refine V.goto C (tgt := 27) dX10_share_23 (by decide) ?_
  refine V.iconst C (v := nI 1) dX10_share_27 (by decide) ?_
  refine V.zVix C ZE (X := []) (cz_X10_start_t1) (by first | rfl | exact (List.append_nil _).symm) gz_X10_63 (n := 2) ⟨rfl, by decide, by decide, by decide +kernel⟩ rfl (q0 := 0) rfl rfl rfl ⟨Nat.le_of_ble_eq_true rfl, Nat.le_of_ble_eq_true rfl⟩ ⟨Nat.le_of_ble_eq_true rfl, Nat.le_of_ble_eq_true rfl⟩ (Nat.le_of_ble_eq_true rfl) rfl dX10_share_28 ?_
  refine V.if_eq C (tgt := 38) dX10_share_31 (by decide) (fun c31 => ?_) (fun c31 => ?_)
  · exfalso; exact absurd c31 (by decide +kernel)
  refine V.iconst C (v := nI 0) dX10_share_34 (by decide) ?_
  refine V.goto C (tgt := 53) dX10_share_35 (by decide) ?_
  refine V.pick (k := 0) rfl ?_
  refine V.widen (k := 0) (n := 0) (Nat.le_of_ble_eq_true rfl) (Nat.le_of_ble_eq_true rfl) ?_
  exact hQ _ _ _ _ _ (Or.inr (Or.inl ⟨_, _, dX10_share_53, rfl, by first | rfl | exact nar_bI _, rfl, rfl⟩)) ⟨_, rfl, rfl⟩
set_option maxRecDepth 100000 in
set_option maxHeartbeats 4000000 in
theorem cz_X10_isMarked_x {l : Launch} {D : va_G} {cI cL cII cO : ClassId} {e0 : Nat} {g : Nat → Nat} {x y z9 u : Int32}  : CtZ l D (TY cI cL cII cO) e0 yX10_isMarked (Cond.code yX10_isMarked cX10_isMarked 8 (some .boolean) :: TBL) ({ frames := 3, cells := 0, slots := 0, locals := 65 } : Room) (MF cI cII e0 g ((nI 0))) [.ref (g 0), .int (x), .int (y), .int (z9), .int (u)] (fun r z => ∃ fs, r = some (.int (nI 0)) ∧ z = [(g 0, .inr (12, .int (nI 1) :: fs))]) := by
  refine CtZ.of [some (.ref (g 0)), some (.int (x)), some (.int (y)), some (.int (z9)), some (.int (u)), none, none, none] (by decide) rfl rfl (Nat.le_of_ble_eq_true rfl) rfl (fun κ C ZE hQ => ?_)
  refine V.aload_n C dX10_isMarked_0 rfl ?_
  refine V.aload_n C dX10_isMarked_1 rfl ?_
  refine V.iload_n C dX10_isMarked_2 rfl ?_
  refine V.iload_n C dX10_isMarked_3 rfl ?_
  refine V.zVix C ZE (X := []) (cz_X10_isNoAnswer) (by first | rfl | exact (List.append_nil _).symm) gz_X10_81 (n := 2) ⟨rfl, by decide, by decide, by decide +kernel⟩ rfl (q0 := 0) rfl rfl rfl ⟨Nat.le_of_ble_eq_true rfl, Nat.le_of_ble_eq_true rfl⟩ ⟨Nat.le_of_ble_eq_true rfl, Nat.le_of_ble_eq_true rfl⟩ (Nat.le_of_ble_eq_true rfl) rfl dX10_isMarked_4 ?_
  refine V.if_ne C (tgt := 25) dX10_isMarked_7 (by decide) (fun c7 => ?_) (fun c7 => ?_)
  rotate_left
  · exfalso; exact absurd c7 (by decide +kernel)
  refine V.iconst C (v := nI 1) dX10_isMarked_25 (by decide) ?_
  refine V.goto C (tgt := 30) dX10_isMarked_26 (by decide) ?_
  refine V.iconst C (v := nI 1) dX10_isMarked_30 (by decide) ?_
  refine V.zVix C ZE (X := []) (cz_X10_start_t1) (by first | rfl | exact (List.append_nil _).symm) gz_X10_63 (n := 2) ⟨rfl, by decide, by decide, by decide +kernel⟩ rfl (q0 := 0) rfl rfl rfl ⟨Nat.le_of_ble_eq_true rfl, Nat.le_of_ble_eq_true rfl⟩ ⟨Nat.le_of_ble_eq_true rfl, Nat.le_of_ble_eq_true rfl⟩ (Nat.le_of_ble_eq_true rfl) rfl dX10_isMarked_31 ?_
  refine V.if_ne C (tgt := 56) dX10_isMarked_34 (by decide) (fun c34 => ?_) (fun c34 => ?_)
  rotate_left
  · exfalso; exact absurd c34 (by decide +kernel)
  refine V.iconst C (v := nI 0) dX10_isMarked_56 (by decide) ?_
  refine V.pick (k := 0) rfl ?_
  refine V.widen (k := 0) (n := 0) (Nat.le_of_ble_eq_true rfl) (Nat.le_of_ble_eq_true rfl) ?_
  exact hQ _ _ _ _ _ (Or.inr (Or.inl ⟨_, _, dX10_isMarked_57, rfl, by first | rfl | exact nar_bI _, rfl, rfl⟩)) ⟨_, rfl, rfl⟩
set_option maxRecDepth 100000 in
set_option maxHeartbeats 4000000 in
theorem cz_X10_held_x {l : Launch} {D : va_G} {cI cL cII cO : ClassId} {e0 : Nat} {g : Nat → Nat} {x y z9 : Int32}  : CtZ l D (TY cI cL cII cO) e0 yX10_held (Cond.code yX10_held cX10_held 4 (some .int) :: TBL) ({ frames := 2, cells := 0, slots := 0, locals := 44 } : Room) (MF cI cII e0 g ((nI 0))) [.ref (g 0), .int (x), .int (y), .int (z9)] (fun r z => ∃ fs, r = some (.int (nI 0)) ∧ z = [(g 0, .inr (12, .int (nI 1) :: fs))]) := by
  refine CtZ.of [some (.ref (g 0)), some (.int (x)), some (.int (y)), some (.int (z9))] (by decide) rfl rfl (Nat.le_of_ble_eq_true rfl) rfl (fun κ C ZE hQ => ?_)
  refine V.aload_n C dX10_held_0 rfl ?_
  refine V.iload_n C dX10_held_1 rfl ?_
  refine V.iconst C (v := nI 0) dX10_held_2 (by decide) ?_
  refine V.aload_n C dX10_held_3 rfl ?_
  refine V.get C (q0 := 0) (k := 5) rfl rfl (by decide) (iz_X10 _) (List.mem_cons_of_mem _ tw_112) rfl rfl dX10_held_4 ?_
  refine V.zVin C ZE (cz_Jx4a65c_size_8abf5 (k := 4) rfl) gz_X10_41 (n := 0) ⟨rfl, by decide, by decide, by decide +kernel⟩ rfl (q0 := 4) rfl rfl rfl ⟨Nat.le_of_ble_eq_true rfl, Nat.le_of_ble_eq_true rfl⟩ ⟨Nat.le_of_ble_eq_true rfl, Nat.le_of_ble_eq_true rfl⟩ (Nat.le_of_ble_eq_true rfl) rfl dX10_held_7 ?_
  refine V.iconst C (v := nI 1) dX10_held_10 (by decide) ?_
  refine V.isub C dX10_held_11 ?_
  refine V.topi (y := -1) (by decide +kernel) ?_
  refine V.zSin C ZE (cz_X10_isIn) gz_X10_45 (n := 3) ⟨by decide, by decide, by decide +kernel⟩ rfl rfl ⟨Nat.le_of_ble_eq_true rfl, Nat.le_of_ble_eq_true rfl⟩ ⟨Nat.le_of_ble_eq_true rfl, Nat.le_of_ble_eq_true rfl⟩ (Nat.le_of_ble_eq_true rfl) rfl dX10_held_12 ?_
  refine V.topi (y := nI 0) (isIn_f (neg_split x)) ?_
  refine V.if_eq C (tgt := 27) dX10_held_15 (by decide) (fun c15 => ?_) (fun c15 => ?_)
  rotate_left
  · exfalso; exact absurd c15 (by decide +kernel)
  refine V.iconst C (v := nI 1) dX10_held_27 (by decide) ?_
  refine V.goto C (tgt := 32) dX10_held_28 (by decide) ?_
  refine V.iconst C (v := nI 1) dX10_held_32 (by decide) ?_
  refine V.zVix C ZE (X := []) (cz_X10_start_t1) (by first | rfl | exact (List.append_nil _).symm) gz_X10_63 (n := 2) ⟨rfl, by decide, by decide, by decide +kernel⟩ rfl (q0 := 0) rfl rfl rfl ⟨Nat.le_of_ble_eq_true rfl, Nat.le_of_ble_eq_true rfl⟩ ⟨Nat.le_of_ble_eq_true rfl, Nat.le_of_ble_eq_true rfl⟩ (Nat.le_of_ble_eq_true rfl) rfl dX10_held_33 ?_
  refine V.if_eq C (tgt := 41) dX10_held_36 (by decide) (fun c36 => ?_) (fun c36 => ?_)
  · exfalso; exact absurd c36 (by decide +kernel)
  refine V.iconst C (v := nI 0) dX10_held_39 (by decide) ?_
  refine V.pick (k := 0) rfl ?_
  refine V.widen (k := 0) (n := 0) (Nat.le_of_ble_eq_true rfl) (Nat.le_of_ble_eq_true rfl) ?_
  exact hQ _ _ _ _ _ (Or.inr (Or.inl ⟨_, _, dX10_held_40, rfl, by first | rfl | exact nar_bI _, rfl, rfl⟩)) ⟨_, rfl, rfl⟩
set_option maxRecDepth 100000 in
set_option maxHeartbeats 4000000 in
theorem cz_X10_nextIn_x {l : Launch} {D : va_G} {cI cL cII cO : ClassId} {e0 : Nat} {g : Nat → Nat} {x : Int32} (hx : x < nI 0 ∨ nI 9 < x) : CtZ l D (TY cI cL cII cO) e0 yX10_nextIn (Cond.code yX10_nextIn cX10_nextIn 2 (some .int) :: TBL) ({ frames := 2, cells := 0, slots := 0, locals := 44 } : Room) (MF cI cII e0 g ((nI 0))) [.ref (g 0), .int (x)] (fun r z => ∃ fs, r = some (.int (nI 0)) ∧ z = [(g 0, .inr (12, .int (nI 1) :: fs))]) := by
  refine CtZ.of [some (.ref (g 0)), some (.int (x))] (by decide) rfl rfl (Nat.le_of_ble_eq_true rfl) rfl (fun κ C ZE hQ => ?_)
  refine V.aload_n C dX10_nextIn_0 rfl ?_
  refine V.iload_n C dX10_nextIn_1 rfl ?_
  refine V.iconst C (v := nI 0) dX10_nextIn_2 (by decide) ?_
  refine V.bipush C (v := nI 9) dX10_nextIn_3 (by decide) ?_
  refine V.zSin C ZE (cz_X10_isIn) gz_X10_45 (n := 3) ⟨by decide, by decide, by decide +kernel⟩ rfl rfl ⟨Nat.le_of_ble_eq_true rfl, Nat.le_of_ble_eq_true rfl⟩ ⟨Nat.le_of_ble_eq_true rfl, Nat.le_of_ble_eq_true rfl⟩ (Nat.le_of_ble_eq_true rfl) rfl dX10_nextIn_5 ?_
  refine V.topi (y := nI 0) (isIn_f hx) ?_
  refine V.if_ne C (tgt := 15) dX10_nextIn_8 (by decide) (fun c8 => ?_) (fun c8 => ?_)
  · exfalso; exact absurd c8 (by decide +kernel)
  refine V.iconst C (v := nI 1) dX10_nextIn_11 (by decide) ?_
  refine V.goto C (tgt := 16) dX10_nextIn_12 (by decide) ?_
  refine V.iconst C (v := nI 1) dX10_nextIn_16 (by decide) ?_
  refine V.zVix C ZE (X := []) (cz_X10_start_t1) (by first | rfl | exact (List.append_nil _).symm) gz_X10_63 (n := 2) ⟨rfl, by decide, by decide, by decide +kernel⟩ rfl (q0 := 0) rfl rfl rfl ⟨Nat.le_of_ble_eq_true rfl, Nat.le_of_ble_eq_true rfl⟩ ⟨Nat.le_of_ble_eq_true rfl, Nat.le_of_ble_eq_true rfl⟩ (Nat.le_of_ble_eq_true rfl) rfl dX10_nextIn_17 ?_
  refine V.if_eq C (tgt := 27) dX10_nextIn_20 (by decide) (fun c20 => ?_) (fun c20 => ?_)
  · exfalso; exact absurd c20 (by decide +kernel)
  refine V.iconst C (v := nI 0) dX10_nextIn_23 (by decide) ?_
  refine V.goto C (tgt := 32) dX10_nextIn_24 (by decide) ?_
  refine V.pick (k := 0) rfl ?_
  refine V.widen (k := 0) (n := 0) (Nat.le_of_ble_eq_true rfl) (Nat.le_of_ble_eq_true rfl) ?_
  exact hQ _ _ _ _ _ (Or.inr (Or.inl ⟨_, _, dX10_nextIn_32, rfl, by first | rfl | exact nar_bI _, rfl, rfl⟩)) ⟨_, rfl, rfl⟩
set_option maxRecDepth 100000 in
set_option maxHeartbeats 4000000 in
theorem cz_X10_offWith_x {l : Launch} {D : va_G} {cI cL cII cO : ClassId} {e0 : Nat} {g : Nat → Nat} {x : Int32} (hx : x < nI 0 ∨ nI 9 < x) : CtZ l D (TY cI cL cII cO) e0 yX10_offWith (Cond.code yX10_offWith cX10_offWith 2 (some .int) :: TBL) ({ frames := 2, cells := 0, slots := 0, locals := 44 } : Room) (MF cI cII e0 g ((nI 0))) [.ref (g 0), .int (x)] (fun r z => ∃ fs, r = some (.int (nI 0)) ∧ z = [(g 0, .inr (12, .int (nI 1) :: fs))]) := by
  refine CtZ.of [some (.ref (g 0)), some (.int (x))] (by decide) rfl rfl (Nat.le_of_ble_eq_true rfl) rfl (fun κ C ZE hQ => ?_)
  refine V.aload_n C dX10_offWith_0 rfl ?_
  refine V.iload_n C dX10_offWith_1 rfl ?_
  refine V.zSin C ZE (cz_X10_isNoRounds_t hx) gz_X10_264 (n := 1) ⟨by decide, by decide, by decide +kernel⟩ rfl rfl ⟨Nat.le_of_ble_eq_true rfl, Nat.le_of_ble_eq_true rfl⟩ ⟨Nat.le_of_ble_eq_true rfl, Nat.le_of_ble_eq_true rfl⟩ (Nat.le_of_ble_eq_true rfl) rfl dX10_offWith_2 ?_
  refine V.iconst C (v := nI 1) dX10_offWith_5 (by decide) ?_
  refine V.zVix C ZE (X := []) (cz_X10_start_t1) (by first | rfl | exact (List.append_nil _).symm) gz_X10_63 (n := 2) ⟨rfl, by decide, by decide, by decide +kernel⟩ rfl (q0 := 0) rfl rfl rfl ⟨Nat.le_of_ble_eq_true rfl, Nat.le_of_ble_eq_true rfl⟩ ⟨Nat.le_of_ble_eq_true rfl, Nat.le_of_ble_eq_true rfl⟩ (Nat.le_of_ble_eq_true rfl) rfl dX10_offWith_6 ?_
  refine V.if_eq C (tgt := 16) dX10_offWith_9 (by decide) (fun c9 => ?_) (fun c9 => ?_)
  · exfalso; exact absurd c9 (by decide +kernel)
  refine V.iconst C (v := nI 0) dX10_offWith_12 (by decide) ?_
  refine V.goto C (tgt := 21) dX10_offWith_13 (by decide) ?_
  refine V.pick (k := 0) rfl ?_
  refine V.widen (k := 0) (n := 0) (Nat.le_of_ble_eq_true rfl) (Nat.le_of_ble_eq_true rfl) ?_
  exact hQ _ _ _ _ _ (Or.inr (Or.inl ⟨_, _, dX10_offWith_21, rfl, by first | rfl | exact nar_bI _, rfl, rfl⟩)) ⟨_, rfl, rfl⟩
set_option maxRecDepth 100000 in
set_option maxHeartbeats 4000000 in
theorem cz_X10_shortest_x {l : Launch} {D : va_G} {cI cL cII cO : ClassId} {e0 : Nat} {g : Nat → Nat} {x : Int32}  : CtZ l D (TY cI cL cII cO) e0 yX10_shortest (Cond.code yX10_shortest cX10_shortest 2 (some .int) :: TBL) ({ frames := 2, cells := 0, slots := 0, locals := 44 } : Room) (MF cI cII e0 g ((nI 0))) [.ref (g 0), .int (x)] (fun r z => ∃ fs, r = some (.int (nI 0)) ∧ z = [(g 0, .inr (12, .int (nI 1) :: fs))]) := by
  refine CtZ.of [some (.ref (g 0)), some (.int (x))] (by decide) rfl rfl (Nat.le_of_ble_eq_true rfl) rfl (fun κ C ZE hQ => ?_)
  refine V.aload_n C dX10_shortest_0 rfl ?_
  refine V.aload_n C dX10_shortest_1 rfl ?_
  refine V.iload_n C dX10_shortest_2 rfl ?_
  refine V.zVix C ZE (X := []) (cz_X10_isNoQuestion) (by first | rfl | exact (List.append_nil _).symm) gz_X10_49 (n := 1) ⟨rfl, by decide, by decide, by decide +kernel⟩ rfl (q0 := 0) rfl rfl rfl ⟨Nat.le_of_ble_eq_true rfl, Nat.le_of_ble_eq_true rfl⟩ ⟨Nat.le_of_ble_eq_true rfl, Nat.le_of_ble_eq_true rfl⟩ (Nat.le_of_ble_eq_true rfl) rfl dX10_shortest_3 ?_
  refine V.iconst C (v := nI 1) dX10_shortest_6 (by decide) ?_
  refine V.zVix C ZE (X := []) (cz_X10_start_t1) (by first | rfl | exact (List.append_nil _).symm) gz_X10_63 (n := 2) ⟨rfl, by decide, by decide, by decide +kernel⟩ rfl (q0 := 0) rfl rfl rfl ⟨Nat.le_of_ble_eq_true rfl, Nat.le_of_ble_eq_true rfl⟩ ⟨Nat.le_of_ble_eq_true rfl, Nat.le_of_ble_eq_true rfl⟩ (Nat.le_of_ble_eq_true rfl) rfl dX10_shortest_7 ?_
  refine V.if_eq C (tgt := 17) dX10_shortest_10 (by decide) (fun c10 => ?_) (fun c10 => ?_)
  · exfalso; exact absurd c10 (by decide +kernel)
  refine V.iconst C (v := nI 0) dX10_shortest_13 (by decide) ?_
  refine V.goto C (tgt := 22) dX10_shortest_14 (by decide) ?_
  refine V.pick (k := 0) rfl ?_
  refine V.widen (k := 0) (n := 0) (Nat.le_of_ble_eq_true rfl) (Nat.le_of_ble_eq_true rfl) ?_
  exact hQ _ _ _ _ _ (Or.inr (Or.inl ⟨_, _, dX10_shortest_22, rfl, by first | rfl | exact nar_bI _, rfl, rfl⟩)) ⟨_, rfl, rfl⟩
set_option maxRecDepth 100000 in
set_option maxHeartbeats 4000000 in
theorem cz_X10_rotate_xa {l : Launch} {D : va_G} {cI cL cII cO : ClassId} {e0 : Nat} {g : Nat → Nat} {x : Int32} (hx : x < nI 0 ∨ nI 3 < x) : CtZ l D (TY cI cL cII cO) e0 yX10_rotate (Cond.code yX10_rotate cX10_rotate 3 (some .int) :: TBL) ({ frames := 2, cells := 0, slots := 0, locals := 44 } : Room) (MF cI cII e0 g ((nI 0))) [.ref (g 0), .int (x)] (fun r z => ∃ fs, r = some (.int (nI 0)) ∧ z = [(g 0, .inr (12, .int (nI 1) :: fs))]) := by
  refine CtZ.of [some (.ref (g 0)), some (.int (x)), none] (by decide) rfl rfl (Nat.le_of_ble_eq_true rfl) rfl (fun κ C ZE hQ => ?_)
  refine V.aload_n C dX10_rotate_0 rfl ?_
  refine V.iload_n C dX10_rotate_1 rfl ?_
  refine V.iconst C (v := nI 0) dX10_rotate_2 (by decide) ?_
  refine V.iconst C (v := nI 3) dX10_rotate_3 (by decide) ?_
  refine V.zSin C ZE (cz_X10_isIn) gz_X10_45 (n := 3) ⟨by decide, by decide, by decide +kernel⟩ rfl rfl ⟨Nat.le_of_ble_eq_true rfl, Nat.le_of_ble_eq_true rfl⟩ ⟨Nat.le_of_ble_eq_true rfl, Nat.le_of_ble_eq_true rfl⟩ (Nat.le_of_ble_eq_true rfl) rfl dX10_rotate_4 ?_
  refine V.topi (y := nI 0) (isIn_f hx) ?_
  refine V.if_eq C (tgt := 21) dX10_rotate_7 (by decide) (fun c7 => ?_) (fun c7 => ?_)
  rotate_left
  · exfalso; exact absurd c7 (by decide +kernel)
  refine V.iconst C (v := nI 1) dX10_rotate_21 (by decide) ?_
  refine V.goto C (tgt := 26) dX10_rotate_22 (by decide) ?_
  refine V.iconst C (v := nI 1) dX10_rotate_26 (by decide) ?_
  refine V.zVix C ZE (X := []) (cz_X10_start_t1) (by first | rfl | exact (List.append_nil _).symm) gz_X10_63 (n := 2) ⟨rfl, by decide, by decide, by decide +kernel⟩ rfl (q0 := 0) rfl rfl rfl ⟨Nat.le_of_ble_eq_true rfl, Nat.le_of_ble_eq_true rfl⟩ ⟨Nat.le_of_ble_eq_true rfl, Nat.le_of_ble_eq_true rfl⟩ (Nat.le_of_ble_eq_true rfl) rfl dX10_rotate_27 ?_
  refine V.if_ne C (tgt := 56) dX10_rotate_30 (by decide) (fun c30 => ?_) (fun c30 => ?_)
  rotate_left
  · exfalso; exact absurd c30 (by decide +kernel)
  refine V.iconst C (v := nI 0) dX10_rotate_56 (by decide) ?_
  refine V.pick (k := 0) rfl ?_
  refine V.widen (k := 0) (n := 0) (Nat.le_of_ble_eq_true rfl) (Nat.le_of_ble_eq_true rfl) ?_
  exact hQ _ _ _ _ _ (Or.inr (Or.inl ⟨_, _, dX10_rotate_57, rfl, by first | rfl | exact nar_bI _, rfl, rfl⟩)) ⟨_, rfl, rfl⟩
set_option maxRecDepth 100000 in
set_option maxHeartbeats 4000000 in
theorem cz_X10_rotate_xb {l : Launch} {D : va_G} {cI cL cII cO : ClassId} {e0 : Nat} {g : Nat → Nat} {x : Int32} (h1 : ¬ x < nI 0) (h2 : ¬ nI 3 < x) (hx : nI 0 < x) : CtZ l D (TY cI cL cII cO) e0 yX10_rotate (Cond.code yX10_rotate cX10_rotate 3 (some .int) :: TBL) ({ frames := 2, cells := 0, slots := 0, locals := 44 } : Room) (MF cI cII e0 g ((nI 0))) [.ref (g 0), .int (x)] (fun r z => ∃ fs, r = some (.int (nI 0)) ∧ z = [(g 0, .inr (12, .int (nI 1) :: fs))]) := by
  refine CtZ.of [some (.ref (g 0)), some (.int (x)), none] (by decide) rfl rfl (Nat.le_of_ble_eq_true rfl) rfl (fun κ C ZE hQ => ?_)
  refine V.aload_n C dX10_rotate_0 rfl ?_
  refine V.iload_n C dX10_rotate_1 rfl ?_
  refine V.iconst C (v := nI 0) dX10_rotate_2 (by decide) ?_
  refine V.iconst C (v := nI 3) dX10_rotate_3 (by decide) ?_
  refine V.zSin C ZE (cz_X10_isIn) gz_X10_45 (n := 3) ⟨by decide, by decide, by decide +kernel⟩ rfl rfl ⟨Nat.le_of_ble_eq_true rfl, Nat.le_of_ble_eq_true rfl⟩ ⟨Nat.le_of_ble_eq_true rfl, Nat.le_of_ble_eq_true rfl⟩ (Nat.le_of_ble_eq_true rfl) rfl dX10_rotate_4 ?_
  refine V.topi (y := nI 1) (isIn_t h1 h2) ?_
  refine V.if_eq C (tgt := 21) dX10_rotate_7 (by decide) (fun c7 => ?_) (fun c7 => ?_)
  · exfalso; exact absurd c7 (by decide +kernel)
  refine V.iload_n C dX10_rotate_10 rfl ?_
  refine V.aload_n C dX10_rotate_11 rfl ?_
  refine V.get C (q0 := 0) (k := 1) rfl rfl (by decide) (iz_X10 _) (List.mem_cons_of_mem _ tw_66) rfl rfl dX10_rotate_12 ?_
  refine V.zVin C ZE (cz_Jx4a65c_size_8abf5 (k := 1) rfl) gz_X10_41 (n := 0) ⟨rfl, by decide, by decide, by decide +kernel⟩ rfl (q0 := 1) rfl rfl rfl ⟨Nat.le_of_ble_eq_true rfl, Nat.le_of_ble_eq_true rfl⟩ ⟨Nat.le_of_ble_eq_true rfl, Nat.le_of_ble_eq_true rfl⟩ (Nat.le_of_ble_eq_true rfl) rfl dX10_rotate_15 ?_
  refine V.icmp_le C (tgt := 25) dX10_rotate_18 (by decide) (fun c18 => ?_) (fun c18 => ?_)
  · exfalso; exact c18 hx
  refine V.iconst C (v := nI 1) dX10_rotate_21 (by decide) ?_
  refine V.goto C (tgt := 26) dX10_rotate_22 (by decide) ?_
  refine V.iconst C (v := nI 1) dX10_rotate_26 (by decide) ?_
  refine V.zVix C ZE (X := []) (cz_X10_start_t1) (by first | rfl | exact (List.append_nil _).symm) gz_X10_63 (n := 2) ⟨rfl, by decide, by decide, by decide +kernel⟩ rfl (q0 := 0) rfl rfl rfl ⟨Nat.le_of_ble_eq_true rfl, Nat.le_of_ble_eq_true rfl⟩ ⟨Nat.le_of_ble_eq_true rfl, Nat.le_of_ble_eq_true rfl⟩ (Nat.le_of_ble_eq_true rfl) rfl dX10_rotate_27 ?_
  refine V.if_ne C (tgt := 56) dX10_rotate_30 (by decide) (fun c30 => ?_) (fun c30 => ?_)
  rotate_left
  · exfalso; exact absurd c30 (by decide +kernel)
  refine V.iconst C (v := nI 0) dX10_rotate_56 (by decide) ?_
  refine V.pick (k := 0) rfl ?_
  refine V.widen (k := 0) (n := 0) (Nat.le_of_ble_eq_true rfl) (Nat.le_of_ble_eq_true rfl) ?_
  exact hQ _ _ _ _ _ (Or.inr (Or.inl ⟨_, _, dX10_rotate_57, rfl, by first | rfl | exact nar_bI _, rfl, rfl⟩)) ⟨_, rfl, rfl⟩
set_option maxRecDepth 100000 in
set_option maxHeartbeats 4000000 in
theorem cz_X10_next {l : Launch} {D : va_G} {cI cL cII cO : ClassId} {e0 : Nat} {g : Nat → Nat}  : CtZ l D (TY cI cL cII cO) e0 yX10_next (Cond.code yX10_next cX10_next 1 (some .int) :: TBL) ({ frames := 2, cells := 0, slots := 0, locals := 45 } : Room) (MF cI cII e0 g ((nI 0))) [.ref (g 0)] (fun r z => ∃ fs, r = some (.int (-1)) ∧ z = [(g 0, .inr (12, .int (nI 0) :: fs))]) := by
  refine CtZ.of [some (.ref (g 0))] (by decide) rfl rfl (Nat.le_of_ble_eq_true rfl) rfl (fun κ C ZE hQ => ?_)
  refine V.aload_n C dX10_next_0 rfl ?_
  refine V.iconst C (v := nI 0) dX10_next_1 (by decide) ?_
  refine V.put C (q0 := 0) (k := 0) (w' := _) rfl rfl (by decide) (iz_X10 _) (List.mem_cons_of_mem _ tw_60) rfl tyX10 tyX10_ok nmX10 rfl rfl rfl rfl (Nat.le_of_ble_eq_true rfl) rfl dX10_next_2 ?_
  refine V.aload_n C dX10_next_5 rfl ?_
  refine V.iconst C (v := nI 0) dX10_next_6 (by decide) ?_
  refine V.zVix C ZE (X := []) (cz_X10_nextNow) (by first | rfl | exact (List.append_nil _).symm) gz_X10_190 (n := 1) ⟨rfl, by decide, by decide, by decide +kernel⟩ rfl (q0 := 0) rfl rfl rfl ⟨Nat.le_of_ble_eq_true rfl, Nat.le_of_ble_eq_true rfl⟩ ⟨Nat.le_of_ble_eq_true rfl, Nat.le_of_ble_eq_true rfl⟩ (Nat.le_of_ble_eq_true rfl) rfl dX10_next_7 ?_
  refine V.pick (k := 0) rfl ?_
  refine V.widen (k := 0) (n := 0) (Nat.le_of_ble_eq_true rfl) (Nat.le_of_ble_eq_true rfl) ?_
  exact hQ _ _ _ _ _ (Or.inr (Or.inl ⟨_, _, dX10_next_10, rfl, by first | rfl | exact nar_bI _, rfl, rfl⟩)) ⟨_, rfl, rfl⟩
set_option maxRecDepth 100000 in
set_option maxHeartbeats 4000000 in
theorem cz_X10_day {l : Launch} {D : va_G} {cI cL cII cO : ClassId} {e0 : Nat} {g : Nat → Nat}  : CtZ l D (TY cI cL cII cO) e0 yX10_day (Cond.code yX10_day cX10_day 3 (some .int) :: TBL) ({ frames := 3, cells := 1, slots := 4, locals := 69 } : Room) (MF cI cII e0 g ((nI 0))) [.ref (g 0)] (fun r z => ∃ fs, r = some (.int (nI 1)) ∧ z = [(g 0, .inr (12, .int (nI 0) :: fs))]) := by
  refine CtZ.of [some (.ref (g 0)), none, none] (by decide) rfl rfl (Nat.le_of_ble_eq_true rfl) rfl (fun κ C ZE hQ => ?_)
  refine V.aload_n C dX10_day_0 rfl ?_
  refine V.iconst C (v := nI 0) dX10_day_1 (by decide) ?_
  refine V.put C (q0 := 0) (k := 0) (w' := _) rfl rfl (by decide) (iz_X10 _) (List.mem_cons_of_mem _ tw_60) rfl tyX10 tyX10_ok nmX10 rfl rfl rfl rfl (Nat.le_of_ble_eq_true rfl) rfl dX10_day_2 ?_
  refine V.aload_n C dX10_day_5 rfl ?_
  refine V.dup C dX10_day_6 rfl ?_
  refine V.get C (q0 := 0) (k := 9) rfl rfl (by decide) (iz_X10 _) (List.mem_cons_of_mem _ tw_113) rfl rfl dX10_day_7 ?_
  refine V.iconst C (v := nI 1) dX10_day_10 (by decide) ?_
  refine V.iadd C dX10_day_11 ?_
  refine V.topi (y := nI 1) (by decide +kernel) ?_
  refine V.put C (q0 := 0) (k := 9) (w' := _) rfl rfl (by decide) (iz_X10 _) (List.mem_cons_of_mem _ tw_113) rfl tyX10 tyX10_ok nmX10 rfl rfl rfl rfl (Nat.le_of_ble_eq_true rfl) rfl dX10_day_12 ?_
  refine V.aload_n C dX10_day_15 rfl ?_
  refine V.get C (q0 := 0) (k := 2) rfl rfl (by decide) (iz_X10 _) (List.mem_cons_of_mem _ tw_75) rfl rfl dX10_day_16 ?_
  refine V.reord [2, 0, 1, 3, 4, 5, 6, 7, 8] (w' := [(g 2, .inr (1, [.int (nI 0), .ref e0, .int (nI 0)])), (g 0, .inr (12, [.int (nI 0), .ref (g 1), .ref (g 2), .ref (g 3), .ref (g 5), .ref (g 4), .int (nI 0), .int (nI 0), .int (nI 3), .int (nI 1)])), (g 1, .inr (1, [.int (nI 0), .ref e0, .int (nI 0)])), (g 3, .inr (1, [.int (nI 0), .ref e0, .int (nI 0)])), (g 4, .inr (1, [.int (nI 0), .ref e0, .int (nI 0)])), (g 5, .inl (cII, 3, .inr (.inr (.inr (.inr (fun i => if i < 3 then some (g 5 + 1 + i) else none)))))), (g 5 + 1, .inl (cI, 2, .inl (fun _ => (0 : Int32)))), (g 5 + 2, .inl (cI, 2, .inl (fun _ => (0 : Int32)))), (g 5 + 3, .inl (cI, 2, .inl (fun _ => (0 : Int32))))]) rfl (by decide) rfl ?_
  refine V.zVqx C ZE (X := [(g 0, .inr (12, [.int (nI 0), .ref (g 1), .ref (g 2), .ref (g 3), .ref (g 5), .ref (g 4), .int (nI 0), .int (nI 0), .int (nI 3), .int (nI 1)])), (g 1, .inr (1, [.int (nI 0), .ref e0, .int (nI 0)])), (g 3, .inr (1, [.int (nI 0), .ref e0, .int (nI 0)])), (g 4, .inr (1, [.int (nI 0), .ref e0, .int (nI 0)])), (g 5, .inl (cII, 3, .inr (.inr (.inr (.inr (fun i => if i < 3 then some (g 5 + 1 + i) else none)))))), (g 5 + 1, .inl (cI, 2, .inl (fun _ => (0 : Int32)))), (g 5 + 2, .inl (cI, 2, .inl (fun _ => (0 : Int32)))), (g 5 + 3, .inl (cI, 2, .inl (fun _ => (0 : Int32))))]) (cz_Jx4a65c_iterator_32c93) rfl gz_X10_109 (n := 0) ⟨rfl, by decide, by decide, by decide +kernel⟩ rfl (q0 := 0) rfl rfl rfl ⟨Nat.le_of_ble_eq_true rfl, Nat.le_of_ble_eq_true rfl⟩ ⟨Nat.le_of_ble_eq_true rfl, Nat.le_of_ble_eq_true rfl⟩ (Nat.le_of_ble_eq_true rfl) rfl dX10_day_19 (fun q1 => ?_)
  refine V.astore_n C dX10_day_22 (by decide) rfl ?_
  dsimp only [List.set, Fin.val]
  refine V.aload_n C dX10_day_23 rfl ?_
  refine V.zFi C ZE (cz_Jx35411_hasNext_aae02 (i := 1) (k := 0) rfl rfl) gz_X10_113 (q0 := 1) rfl rfl ⟨Nat.le_of_ble_eq_true rfl, Nat.le_of_ble_eq_true rfl⟩ ⟨Nat.le_of_ble_eq_true rfl, Nat.le_of_ble_eq_true rfl⟩ (Nat.le_of_ble_eq_true rfl) rfl dX10_day_24 ?_
  refine V.if_eq C (tgt := 59) dX10_day_29 (by decide) (fun c29 => ?_) (fun c29 => ?_)
  rotate_left
  · exfalso; exact absurd c29 (by decide +kernel)
  refine V.aload_n C dX10_day_59 rfl ?_
  refine V.get C (q0 := 2) (k := 9) rfl rfl (by decide) (iz_X10 _) (List.mem_cons_of_mem _ tw_113) rfl rfl dX10_day_60 ?_
  refine V.pick (k := 2) rfl ?_
  refine V.widen (k := 1) (n := 4) (Nat.le_of_ble_eq_true rfl) (Nat.le_of_ble_eq_true rfl) ?_
  exact hQ _ _ _ _ _ (Or.inr (Or.inl ⟨_, _, dX10_day_63, rfl, by first | rfl | exact nar_bI _, rfl, rfl⟩)) ⟨_, rfl, rfl⟩
set_option maxRecDepth 100000 in
set_option maxHeartbeats 4000000 in
theorem cz_X10_clean {l : Launch} {D : va_G} {cI cL cII cO : ClassId} {e0 : Nat} {g : Nat → Nat}  : CtZ l D (TY cI cL cII cO) e0 yX10_clean (Cond.code yX10_clean cX10_clean 4 (some .int) :: TBL) ({ frames := 4, cells := 2, slots := 8, locals := 92 } : Room) (MF cI cII e0 g ((nI 0))) [.ref (g 0)] (fun r z => ∃ fs, r = some (.int (nI 0)) ∧ z = [(g 0, .inr (12, .int (nI 0) :: fs))]) := by
  refine CtZ.of [some (.ref (g 0)), none, none, none] (by decide) rfl rfl (Nat.le_of_ble_eq_true rfl) rfl (fun κ C ZE hQ => ?_)
  refine V.aload_n C dX10_clean_0 rfl ?_
  refine V.iconst C (v := nI 0) dX10_clean_1 (by decide) ?_
  refine V.put C (q0 := 0) (k := 0) (w' := _) rfl rfl (by decide) (iz_X10 _) (List.mem_cons_of_mem _ tw_60) rfl tyX10 tyX10_ok nmX10 rfl rfl rfl rfl (Nat.le_of_ble_eq_true rfl) rfl dX10_clean_2 ?_
  refine V.aload_n C dX10_clean_5 rfl ?_
  refine V.zVix C ZE (X := []) (cz_X10_dirty) (by first | rfl | exact (List.append_nil _).symm) gz_X10_252 (n := 0) ⟨rfl, by decide, by decide, by decide +kernel⟩ rfl (q0 := 0) rfl rfl rfl ⟨Nat.le_of_ble_eq_true rfl, Nat.le_of_ble_eq_true rfl⟩ ⟨Nat.le_of_ble_eq_true rfl, Nat.le_of_ble_eq_true rfl⟩ (Nat.le_of_ble_eq_true rfl) rfl dX10_clean_6 ?_
  refine V.istore_n C dX10_clean_9 (by decide) rfl ?_
  dsimp only [List.set, Fin.val]
  refine V.aload_n C dX10_clean_10 rfl ?_
  refine V.get C (q0 := 0) (k := 3) rfl rfl (by decide) (iz_X10 _) (List.mem_cons_of_mem _ tw_80) rfl rfl dX10_clean_11 ?_
  refine V.reord [3, 0, 1, 2, 4, 5, 6, 7, 8] (w' := [(g 3, .inr (1, [.int (nI 0), .ref e0, .int (nI 0)])), (g 0, .inr (12, [.int (nI 0), .ref (g 1), .ref (g 2), .ref (g 3), .ref (g 5), .ref (g 4), .int (nI 0), .int (nI 0), .int (nI 3), .int (nI 0)])), (g 1, .inr (1, [.int (nI 0), .ref e0, .int (nI 0)])), (g 2, .inr (1, [.int (nI 0), .ref e0, .int (nI 0)])), (g 4, .inr (1, [.int (nI 0), .ref e0, .int (nI 0)])), (g 5, .inl (cII, 3, .inr (.inr (.inr (.inr (fun i => if i < 3 then some (g 5 + 1 + i) else none)))))), (g 5 + 1, .inl (cI, 2, .inl (fun _ => (0 : Int32)))), (g 5 + 2, .inl (cI, 2, .inl (fun _ => (0 : Int32)))), (g 5 + 3, .inl (cI, 2, .inl (fun _ => (0 : Int32))))]) rfl (by decide) rfl ?_
  refine V.zVqx C ZE (X := [(g 0, .inr (12, [.int (nI 0), .ref (g 1), .ref (g 2), .ref (g 3), .ref (g 5), .ref (g 4), .int (nI 0), .int (nI 0), .int (nI 3), .int (nI 0)])), (g 1, .inr (1, [.int (nI 0), .ref e0, .int (nI 0)])), (g 2, .inr (1, [.int (nI 0), .ref e0, .int (nI 0)])), (g 4, .inr (1, [.int (nI 0), .ref e0, .int (nI 0)])), (g 5, .inl (cII, 3, .inr (.inr (.inr (.inr (fun i => if i < 3 then some (g 5 + 1 + i) else none)))))), (g 5 + 1, .inl (cI, 2, .inl (fun _ => (0 : Int32)))), (g 5 + 2, .inl (cI, 2, .inl (fun _ => (0 : Int32)))), (g 5 + 3, .inl (cI, 2, .inl (fun _ => (0 : Int32))))]) (cz_Jx4a65c_iterator_32c93) rfl gz_X10_109 (n := 0) ⟨rfl, by decide, by decide, by decide +kernel⟩ rfl (q0 := 0) rfl rfl rfl ⟨Nat.le_of_ble_eq_true rfl, Nat.le_of_ble_eq_true rfl⟩ ⟨Nat.le_of_ble_eq_true rfl, Nat.le_of_ble_eq_true rfl⟩ (Nat.le_of_ble_eq_true rfl) rfl dX10_clean_14 (fun q1 => ?_)
  refine V.astore_n C dX10_clean_17 (by decide) rfl ?_
  dsimp only [List.set, Fin.val]
  refine V.aload_n C dX10_clean_18 rfl ?_
  refine V.zFi C ZE (cz_Jx35411_hasNext_aae02 (i := 1) (k := 0) rfl rfl) gz_X10_113 (q0 := 1) rfl rfl ⟨Nat.le_of_ble_eq_true rfl, Nat.le_of_ble_eq_true rfl⟩ ⟨Nat.le_of_ble_eq_true rfl, Nat.le_of_ble_eq_true rfl⟩ (Nat.le_of_ble_eq_true rfl) rfl dX10_clean_19 ?_
  refine V.if_eq C (tgt := 70) dX10_clean_24 (by decide) (fun c24 => ?_) (fun c24 => ?_)
  rotate_left
  · exfalso; exact absurd c24 (by decide +kernel)
  refine V.iload_n C dX10_clean_70 rfl ?_
  refine V.pick (k := 2) rfl ?_
  refine V.widen (k := 2) (n := 8) (Nat.le_of_ble_eq_true rfl) (Nat.le_of_ble_eq_true rfl) ?_
  exact hQ _ _ _ _ _ (Or.inr (Or.inl ⟨_, _, dX10_clean_71, rfl, by first | rfl | exact nar_bI _, rfl, rfl⟩)) ⟨_, rfl, rfl⟩
set_option maxRecDepth 100000 in
set_option maxHeartbeats 4000000 in
theorem cz_X10_off {l : Launch} {D : va_G} {cI cL cII cO : ClassId} {e0 : Nat} {g : Nat → Nat}  : CtZ l D (TY cI cL cII cO) e0 yX10_off (Cond.code yX10_off cX10_off 1 (some .int) :: TBL) ({ frames := 4, cells := 1, slots := 0, locals := 101 } : Room) (MF cI cII e0 g ((nI 0))) [.ref (g 0)] (fun r z => ∃ fs, r = some (.int (nI 0)) ∧ z = [(g 0, .inr (12, .int (nI 0) :: fs))]) := by
  refine CtZ.of [some (.ref (g 0))] (by decide) rfl rfl (Nat.le_of_ble_eq_true rfl) rfl (fun κ C ZE hQ => ?_)
  refine V.aload_n C dX10_off_0 rfl ?_
  refine V.iconst C (v := nI 0) dX10_off_1 (by decide) ?_
  refine V.put C (q0 := 0) (k := 0) (w' := _) rfl rfl (by decide) (iz_X10 _) (List.mem_cons_of_mem _ tw_60) rfl tyX10 tyX10_ok nmX10 rfl rfl rfl rfl (Nat.le_of_ble_eq_true rfl) rfl dX10_off_2 ?_
  refine V.aload_n C dX10_off_5 rfl ?_
  refine V.aload_n C dX10_off_6 rfl ?_
  refine V.get C (q0 := 0) (k := 8) rfl rfl (by decide) (iz_X10 _) (List.mem_cons_of_mem _ tw_179) rfl rfl dX10_off_7 ?_
  refine V.zVix C ZE (X := []) (cz_X10_offNow (n := 3) (by decide)) (by first | rfl | exact (List.append_nil _).symm) gz_X10_267 (n := 1) ⟨rfl, by decide, by decide, by decide +kernel⟩ rfl (q0 := 0) rfl rfl rfl ⟨Nat.le_of_ble_eq_true rfl, Nat.le_of_ble_eq_true rfl⟩ ⟨Nat.le_of_ble_eq_true rfl, Nat.le_of_ble_eq_true rfl⟩ (Nat.le_of_ble_eq_true rfl) rfl dX10_off_10 ?_
  refine V.pick (k := 0) rfl ?_
  refine V.widen (k := 1) (n := 0) (Nat.le_of_ble_eq_true rfl) (Nat.le_of_ble_eq_true rfl) ?_
  exact hQ _ _ _ _ _ (Or.inr (Or.inl ⟨_, _, dX10_off_13, rfl, by first | rfl | exact nar_bI _, rfl, rfl⟩)) ⟨_, rfl, rfl⟩
set_option maxRecDepth 100000 in
set_option maxHeartbeats 4000000 in
theorem cz_X10_cleaned {l : Launch} {D : va_G} {cI cL cII cO : ClassId} {e0 : Nat} {g : Nat → Nat}  : CtZ l D (TY cI cL cII cO) e0 yX10_cleaned (Cond.code yX10_cleaned cX10_cleaned 1 (some .int) :: TBL) ({ frames := 5, cells := 11, slots := 30, locals := 118 } : Room) (MF cI cII e0 g ((nI 0))) [.ref (g 0)] (fun r z => ∃ fs, r = some (.int (nI 0)) ∧ z = [(g 0, .inr (12, .int (nI 0) :: fs))]) := by
  refine CtZ.of [some (.ref (g 0))] (by decide) rfl rfl (Nat.le_of_ble_eq_true rfl) rfl (fun κ C ZE hQ => ?_)
  refine V.aload_n C dX10_cleaned_0 rfl ?_
  refine V.iconst C (v := nI 0) dX10_cleaned_1 (by decide) ?_
  refine V.put C (q0 := 0) (k := 0) (w' := _) rfl rfl (by decide) (iz_X10 _) (List.mem_cons_of_mem _ tw_60) rfl tyX10 tyX10_ok nmX10 rfl rfl rfl rfl (Nat.le_of_ble_eq_true rfl) rfl dX10_cleaned_2 ?_
  refine V.aload_n C dX10_cleaned_5 rfl ?_
  refine V.zVix C ZE (X := []) (cz_X10_cleanedNow) (by first | rfl | exact (List.append_nil _).symm) gz_X10_280 (n := 0) ⟨rfl, by decide, by decide, by decide +kernel⟩ rfl (q0 := 0) rfl rfl rfl ⟨Nat.le_of_ble_eq_true rfl, Nat.le_of_ble_eq_true rfl⟩ ⟨Nat.le_of_ble_eq_true rfl, Nat.le_of_ble_eq_true rfl⟩ (Nat.le_of_ble_eq_true rfl) rfl dX10_cleaned_6 ?_
  refine V.pick (k := 0) rfl ?_
  refine V.widen (k := 11) (n := 30) (Nat.le_of_ble_eq_true rfl) (Nat.le_of_ble_eq_true rfl) ?_
  exact hQ _ _ _ _ _ (Or.inr (Or.inl ⟨_, _, dX10_cleaned_9, rfl, by first | rfl | exact nar_bI _, rfl, rfl⟩)) ⟨_, rfl, rfl⟩
set_option maxRecDepth 100000 in
set_option maxHeartbeats 4000000 in
theorem cz_X10_meanSeconds {l : Launch} {D : va_G} {cI cL cII cO : ClassId} {e0 : Nat} {g : Nat → Nat}  : CtZ l D (TY cI cL cII cO) e0 yX10_meanSeconds (Cond.code yX10_meanSeconds cX10_meanSeconds 5 (some .double) :: TBL) ({ frames := 3, cells := 1, slots := 4, locals := 69 } : Room) (MF cI cII e0 g ((nI 0))) [.ref (g 0)] (fun r z => ∃ fs, r = some (.double (FP.dconst0)) ∧ z = [(g 0, .inr (12, .int (nI 0) :: fs))]) := by
  refine CtZ.of [some (.ref (g 0)), none, none, none, none] (by decide) rfl rfl (Nat.le_of_ble_eq_true rfl) rfl (fun κ C ZE hQ => ?_)
  refine V.aload_n C dX10_meanSeconds_0 rfl ?_
  refine V.iconst C (v := nI 0) dX10_meanSeconds_1 (by decide) ?_
  refine V.put C (q0 := 0) (k := 0) (w' := _) rfl rfl (by decide) (iz_X10 _) (List.mem_cons_of_mem _ tw_60) rfl tyX10 tyX10_ok nmX10 rfl rfl rfl rfl (Nat.le_of_ble_eq_true rfl) rfl dX10_meanSeconds_2 ?_
  refine V.iconst C (v := nI 0) dX10_meanSeconds_5 (by decide) ?_
  refine V.istore_n C dX10_meanSeconds_6 (by decide) rfl ?_
  dsimp only [List.set, Fin.val]
  refine V.iconst C (v := nI 0) dX10_meanSeconds_7 (by decide) ?_
  refine V.istore_n C dX10_meanSeconds_8 (by decide) rfl ?_
  dsimp only [List.set, Fin.val]
  refine V.aload_n C dX10_meanSeconds_9 rfl ?_
  refine V.get C (q0 := 0) (k := 3) rfl rfl (by decide) (iz_X10 _) (List.mem_cons_of_mem _ tw_80) rfl rfl dX10_meanSeconds_10 ?_
  refine V.reord [3, 0, 1, 2, 4, 5, 6, 7, 8] (w' := [(g 3, .inr (1, [.int (nI 0), .ref e0, .int (nI 0)])), (g 0, .inr (12, [.int (nI 0), .ref (g 1), .ref (g 2), .ref (g 3), .ref (g 5), .ref (g 4), .int (nI 0), .int (nI 0), .int (nI 3), .int (nI 0)])), (g 1, .inr (1, [.int (nI 0), .ref e0, .int (nI 0)])), (g 2, .inr (1, [.int (nI 0), .ref e0, .int (nI 0)])), (g 4, .inr (1, [.int (nI 0), .ref e0, .int (nI 0)])), (g 5, .inl (cII, 3, .inr (.inr (.inr (.inr (fun i => if i < 3 then some (g 5 + 1 + i) else none)))))), (g 5 + 1, .inl (cI, 2, .inl (fun _ => (0 : Int32)))), (g 5 + 2, .inl (cI, 2, .inl (fun _ => (0 : Int32)))), (g 5 + 3, .inl (cI, 2, .inl (fun _ => (0 : Int32))))]) rfl (by decide) rfl ?_
  refine V.zVqx C ZE (X := [(g 0, .inr (12, [.int (nI 0), .ref (g 1), .ref (g 2), .ref (g 3), .ref (g 5), .ref (g 4), .int (nI 0), .int (nI 0), .int (nI 3), .int (nI 0)])), (g 1, .inr (1, [.int (nI 0), .ref e0, .int (nI 0)])), (g 2, .inr (1, [.int (nI 0), .ref e0, .int (nI 0)])), (g 4, .inr (1, [.int (nI 0), .ref e0, .int (nI 0)])), (g 5, .inl (cII, 3, .inr (.inr (.inr (.inr (fun i => if i < 3 then some (g 5 + 1 + i) else none)))))), (g 5 + 1, .inl (cI, 2, .inl (fun _ => (0 : Int32)))), (g 5 + 2, .inl (cI, 2, .inl (fun _ => (0 : Int32)))), (g 5 + 3, .inl (cI, 2, .inl (fun _ => (0 : Int32))))]) (cz_Jx4a65c_iterator_32c93) rfl gz_X10_109 (n := 0) ⟨rfl, by decide, by decide, by decide +kernel⟩ rfl (q0 := 0) rfl rfl rfl ⟨Nat.le_of_ble_eq_true rfl, Nat.le_of_ble_eq_true rfl⟩ ⟨Nat.le_of_ble_eq_true rfl, Nat.le_of_ble_eq_true rfl⟩ (Nat.le_of_ble_eq_true rfl) rfl dX10_meanSeconds_13 (fun q1 => ?_)
  refine V.astore_n C dX10_meanSeconds_16 (by decide) rfl ?_
  dsimp only [List.set, Fin.val]
  refine V.aload_n C dX10_meanSeconds_17 rfl ?_
  refine V.zFi C ZE (cz_Jx35411_hasNext_aae02 (i := 1) (k := 0) rfl rfl) gz_X10_113 (q0 := 1) rfl rfl ⟨Nat.le_of_ble_eq_true rfl, Nat.le_of_ble_eq_true rfl⟩ ⟨Nat.le_of_ble_eq_true rfl, Nat.le_of_ble_eq_true rfl⟩ (Nat.le_of_ble_eq_true rfl) rfl dX10_meanSeconds_18 ?_
  refine V.if_eq C (tgt := 68) dX10_meanSeconds_23 (by decide) (fun c23 => ?_) (fun c23 => ?_)
  rotate_left
  · exfalso; exact absurd c23 (by decide +kernel)
  refine V.iload_n C dX10_meanSeconds_68 rfl ?_
  refine V.if_ne C (tgt := 76) dX10_meanSeconds_69 (by decide) (fun c69 => ?_) (fun c69 => ?_)
  · exfalso; exact absurd c69 (by decide +kernel)
  refine V.dconst0 C dX10_meanSeconds_72 ?_
  refine V.goto C (tgt := 81) dX10_meanSeconds_73 (by decide) ?_
  refine V.pick (k := 2) rfl ?_
  refine V.widen (k := 1) (n := 4) (Nat.le_of_ble_eq_true rfl) (Nat.le_of_ble_eq_true rfl) ?_
  exact hQ _ _ _ _ _ (Or.inr (Or.inr (Or.inr (Or.inr ⟨_, dX10_meanSeconds_81, rfl, rfl, rfl⟩)))) ⟨_, rfl, rfl⟩
set_option maxRecDepth 100000 in
set_option maxHeartbeats 4000000 in
theorem cz_X10_digest {l : Launch} {D : va_G} {cI cL cII cO : ClassId} {e0 : Nat} {g : Nat → Nat}  : CtZ l D (TY cI cL cII cO) e0 yX10_digest (Cond.code yX10_digest cX10_digest 7 (some .long) :: TBL) ({ frames := 5, cells := 284, slots := 916, locals := 119 } : Room) (MF cI cII e0 g ((nI 0))) [.ref (g 0)] (fun r z => ∃ fs, r = some (.long (6859490078996003618)) ∧ z = [(g 0, .inr (12, .int (nI 0) :: fs))]) := by
  refine CtZ.of [some (.ref (g 0)), none, none, none, none, none, none] (by decide) rfl rfl (Nat.le_of_ble_eq_true rfl) rfl (fun κ C ZE hQ => ?_)
  refine V.aload_n C dX10_digest_0 rfl ?_
  refine V.iconst C (v := nI 0) dX10_digest_1 (by decide) ?_
  refine V.put C (q0 := 0) (k := 0) (w' := _) rfl rfl (by decide) (iz_X10 _) (List.mem_cons_of_mem _ tw_60) rfl tyX10 tyX10_ok nmX10 rfl rfl rfl rfl (Nat.le_of_ble_eq_true rfl) rfl dX10_digest_2 ?_
  refine V.ldc2_w C (v := 58114) (List.mem_cons_of_mem _ tw_189) dX10_digest_5 ?_
  refine V.lstore_n C dX10_digest_8 (by decide) rfl ?_
  dsimp only [List.set, Fin.val]
  refine V.iconst C (v := nI 0) dX10_digest_9 (by decide) ?_
  refine V.istore_n C dX10_digest_10 (by decide) rfl ?_
  dsimp only [List.set, Fin.val]
  refine V.iload_n C dX10_digest_11 rfl ?_
  refine V.bipush C (v := nI 12) dX10_digest_12 (by decide) ?_
  refine V.icmp_ge C (tgt := 34) dX10_digest_14 (by decide) (fun c14 => ?_) (fun c14 => ?_)
  · exfalso; exact absurd c14 (by decide +kernel)
  refine V.lload_n C dX10_digest_17 rfl ?_
  refine V.aload_n C dX10_digest_18 rfl ?_
  refine V.iload_n C dX10_digest_19 rfl ?_
  refine V.zVix C ZE (X := []) (cz_X10_count (k := 0) (by decide)) (by first | rfl | exact (List.append_nil _).symm) gz_X10_261 (n := 1) ⟨rfl, by decide, by decide, by decide +kernel⟩ rfl (q0 := 0) rfl rfl rfl ⟨Nat.le_of_ble_eq_true rfl, Nat.le_of_ble_eq_true rfl⟩ ⟨Nat.le_of_ble_eq_true rfl, Nat.le_of_ble_eq_true rfl⟩ (Nat.le_of_ble_eq_true rfl) rfl dX10_digest_20 ?_
  refine V.i2l C dX10_digest_23 ?_
  refine V.topl (y := 0) (by decide +kernel) ?_
  refine V.zSin C ZE (cz_X10_add) gz_X10_290 (n := 2) ⟨by decide, by decide, by decide +kernel⟩ rfl rfl ⟨Nat.le_of_ble_eq_true rfl, Nat.le_of_ble_eq_true rfl⟩ ⟨Nat.le_of_ble_eq_true rfl, Nat.le_of_ble_eq_true rfl⟩ (Nat.le_of_ble_eq_true rfl) rfl dX10_digest_24 ?_
  refine V.topl (y := 1801534) (by decide +kernel) ?_
  refine V.lstore_n C dX10_digest_27 (by decide) rfl ?_
  dsimp only [List.set, Fin.val]
  refine V.iinc C (v := nI 1) dX10_digest_28 rfl (by decide +kernel) (by decide) rfl ?_
  dsimp only [List.set]
  refine V.goto C (tgt := 11) dX10_digest_31 (by decide) ?_
  refine V.iload_n C dX10_digest_11 rfl ?_
  refine V.bipush C (v := nI 12) dX10_digest_12 (by decide) ?_
  refine V.icmp_ge C (tgt := 34) dX10_digest_14 (by decide) (fun c14 => ?_) (fun c14 => ?_)
  · exfalso; exact absurd c14 (by decide +kernel)
  refine V.lload_n C dX10_digest_17 rfl ?_
  refine V.aload_n C dX10_digest_18 rfl ?_
  refine V.iload_n C dX10_digest_19 rfl ?_
  refine V.zVix C ZE (X := []) (cz_X10_count (k := 1) (by decide)) (by first | rfl | exact (List.append_nil _).symm) gz_X10_261 (n := 1) ⟨rfl, by decide, by decide, by decide +kernel⟩ rfl (q0 := 0) rfl rfl rfl ⟨Nat.le_of_ble_eq_true rfl, Nat.le_of_ble_eq_true rfl⟩ ⟨Nat.le_of_ble_eq_true rfl, Nat.le_of_ble_eq_true rfl⟩ (Nat.le_of_ble_eq_true rfl) rfl dX10_digest_20 ?_
  refine V.i2l C dX10_digest_23 ?_
  refine V.topl (y := 0) (by decide +kernel) ?_
  refine V.zSin C ZE (cz_X10_add) gz_X10_290 (n := 2) ⟨by decide, by decide, by decide +kernel⟩ rfl rfl ⟨Nat.le_of_ble_eq_true rfl, Nat.le_of_ble_eq_true rfl⟩ ⟨Nat.le_of_ble_eq_true rfl, Nat.le_of_ble_eq_true rfl⟩ (Nat.le_of_ble_eq_true rfl) rfl dX10_digest_24 ?_
  refine V.topl (y := 55847554) (by decide +kernel) ?_
  refine V.lstore_n C dX10_digest_27 (by decide) rfl ?_
  dsimp only [List.set, Fin.val]
  refine V.iinc C (v := nI 2) dX10_digest_28 rfl (by decide +kernel) (by decide) rfl ?_
  dsimp only [List.set]
  refine V.goto C (tgt := 11) dX10_digest_31 (by decide) ?_
  refine V.iload_n C dX10_digest_11 rfl ?_
  refine V.bipush C (v := nI 12) dX10_digest_12 (by decide) ?_
  refine V.icmp_ge C (tgt := 34) dX10_digest_14 (by decide) (fun c14 => ?_) (fun c14 => ?_)
  · exfalso; exact absurd c14 (by decide +kernel)
  refine V.lload_n C dX10_digest_17 rfl ?_
  refine V.aload_n C dX10_digest_18 rfl ?_
  refine V.iload_n C dX10_digest_19 rfl ?_
  refine V.zVix C ZE (X := []) (cz_X10_count (k := 2) (by decide)) (by first | rfl | exact (List.append_nil _).symm) gz_X10_261 (n := 1) ⟨rfl, by decide, by decide, by decide +kernel⟩ rfl (q0 := 0) rfl rfl rfl ⟨Nat.le_of_ble_eq_true rfl, Nat.le_of_ble_eq_true rfl⟩ ⟨Nat.le_of_ble_eq_true rfl, Nat.le_of_ble_eq_true rfl⟩ (Nat.le_of_ble_eq_true rfl) rfl dX10_digest_20 ?_
  refine V.i2l C dX10_digest_23 ?_
  refine V.topl (y := 0) (by decide +kernel) ?_
  refine V.zSin C ZE (cz_X10_add) gz_X10_290 (n := 2) ⟨by decide, by decide, by decide +kernel⟩ rfl rfl ⟨Nat.le_of_ble_eq_true rfl, Nat.le_of_ble_eq_true rfl⟩ ⟨Nat.le_of_ble_eq_true rfl, Nat.le_of_ble_eq_true rfl⟩ (Nat.le_of_ble_eq_true rfl) rfl dX10_digest_24 ?_
  refine V.topl (y := 1731274174) (by decide +kernel) ?_
  refine V.lstore_n C dX10_digest_27 (by decide) rfl ?_
  dsimp only [List.set, Fin.val]
  refine V.iinc C (v := nI 3) dX10_digest_28 rfl (by decide +kernel) (by decide) rfl ?_
  dsimp only [List.set]
  refine V.goto C (tgt := 11) dX10_digest_31 (by decide) ?_
  refine V.iload_n C dX10_digest_11 rfl ?_
  refine V.bipush C (v := nI 12) dX10_digest_12 (by decide) ?_
  refine V.icmp_ge C (tgt := 34) dX10_digest_14 (by decide) (fun c14 => ?_) (fun c14 => ?_)
  · exfalso; exact absurd c14 (by decide +kernel)
  refine V.lload_n C dX10_digest_17 rfl ?_
  refine V.aload_n C dX10_digest_18 rfl ?_
  refine V.iload_n C dX10_digest_19 rfl ?_
  refine V.zVix C ZE (X := []) (cz_X10_count (k := 3) (by decide)) (by first | rfl | exact (List.append_nil _).symm) gz_X10_261 (n := 1) ⟨rfl, by decide, by decide, by decide +kernel⟩ rfl (q0 := 0) rfl rfl rfl ⟨Nat.le_of_ble_eq_true rfl, Nat.le_of_ble_eq_true rfl⟩ ⟨Nat.le_of_ble_eq_true rfl, Nat.le_of_ble_eq_true rfl⟩ (Nat.le_of_ble_eq_true rfl) rfl dX10_digest_20 ?_
  refine V.i2l C dX10_digest_23 ?_
  refine V.topl (y := 0) (by decide +kernel) ?_
  refine V.zSin C ZE (cz_X10_add) gz_X10_290 (n := 2) ⟨by decide, by decide, by decide +kernel⟩ rfl rfl ⟨Nat.le_of_ble_eq_true rfl, Nat.le_of_ble_eq_true rfl⟩ ⟨Nat.le_of_ble_eq_true rfl, Nat.le_of_ble_eq_true rfl⟩ (Nat.le_of_ble_eq_true rfl) rfl dX10_digest_24 ?_
  refine V.topl (y := 53669499394) (by decide +kernel) ?_
  refine V.lstore_n C dX10_digest_27 (by decide) rfl ?_
  dsimp only [List.set, Fin.val]
  refine V.iinc C (v := nI 4) dX10_digest_28 rfl (by decide +kernel) (by decide) rfl ?_
  dsimp only [List.set]
  refine V.goto C (tgt := 11) dX10_digest_31 (by decide) ?_
  refine V.iload_n C dX10_digest_11 rfl ?_
  refine V.bipush C (v := nI 12) dX10_digest_12 (by decide) ?_
  refine V.icmp_ge C (tgt := 34) dX10_digest_14 (by decide) (fun c14 => ?_) (fun c14 => ?_)
  · exfalso; exact absurd c14 (by decide +kernel)
  refine V.lload_n C dX10_digest_17 rfl ?_
  refine V.aload_n C dX10_digest_18 rfl ?_
  refine V.iload_n C dX10_digest_19 rfl ?_
  refine V.zVix C ZE (X := []) (cz_X10_count (k := 4) (by decide)) (by first | rfl | exact (List.append_nil _).symm) gz_X10_261 (n := 1) ⟨rfl, by decide, by decide, by decide +kernel⟩ rfl (q0 := 0) rfl rfl rfl ⟨Nat.le_of_ble_eq_true rfl, Nat.le_of_ble_eq_true rfl⟩ ⟨Nat.le_of_ble_eq_true rfl, Nat.le_of_ble_eq_true rfl⟩ (Nat.le_of_ble_eq_true rfl) rfl dX10_digest_20 ?_
  refine V.i2l C dX10_digest_23 ?_
  refine V.topl (y := 0) (by decide +kernel) ?_
  refine V.zSin C ZE (cz_X10_add) gz_X10_290 (n := 2) ⟨by decide, by decide, by decide +kernel⟩ rfl rfl ⟨Nat.le_of_ble_eq_true rfl, Nat.le_of_ble_eq_true rfl⟩ ⟨Nat.le_of_ble_eq_true rfl, Nat.le_of_ble_eq_true rfl⟩ (Nat.le_of_ble_eq_true rfl) rfl dX10_digest_24 ?_
  refine V.topl (y := 1663754481214) (by decide +kernel) ?_
  refine V.lstore_n C dX10_digest_27 (by decide) rfl ?_
  dsimp only [List.set, Fin.val]
  refine V.iinc C (v := nI 5) dX10_digest_28 rfl (by decide +kernel) (by decide) rfl ?_
  dsimp only [List.set]
  refine V.goto C (tgt := 11) dX10_digest_31 (by decide) ?_
  refine V.iload_n C dX10_digest_11 rfl ?_
  refine V.bipush C (v := nI 12) dX10_digest_12 (by decide) ?_
  refine V.icmp_ge C (tgt := 34) dX10_digest_14 (by decide) (fun c14 => ?_) (fun c14 => ?_)
  · exfalso; exact absurd c14 (by decide +kernel)
  refine V.lload_n C dX10_digest_17 rfl ?_
  refine V.aload_n C dX10_digest_18 rfl ?_
  refine V.iload_n C dX10_digest_19 rfl ?_
  refine V.zVix C ZE (X := []) (cz_X10_count (k := 5) (by decide)) (by first | rfl | exact (List.append_nil _).symm) gz_X10_261 (n := 1) ⟨rfl, by decide, by decide, by decide +kernel⟩ rfl (q0 := 0) rfl rfl rfl ⟨Nat.le_of_ble_eq_true rfl, Nat.le_of_ble_eq_true rfl⟩ ⟨Nat.le_of_ble_eq_true rfl, Nat.le_of_ble_eq_true rfl⟩ (Nat.le_of_ble_eq_true rfl) rfl dX10_digest_20 ?_
  refine V.i2l C dX10_digest_23 ?_
  refine V.topl (y := 0) (by decide +kernel) ?_
  refine V.zSin C ZE (cz_X10_add) gz_X10_290 (n := 2) ⟨by decide, by decide, by decide +kernel⟩ rfl rfl ⟨Nat.le_of_ble_eq_true rfl, Nat.le_of_ble_eq_true rfl⟩ ⟨Nat.le_of_ble_eq_true rfl, Nat.le_of_ble_eq_true rfl⟩ (Nat.le_of_ble_eq_true rfl) rfl dX10_digest_24 ?_
  refine V.topl (y := 51576388917634) (by decide +kernel) ?_
  refine V.lstore_n C dX10_digest_27 (by decide) rfl ?_
  dsimp only [List.set, Fin.val]
  refine V.iinc C (v := nI 6) dX10_digest_28 rfl (by decide +kernel) (by decide) rfl ?_
  dsimp only [List.set]
  refine V.goto C (tgt := 11) dX10_digest_31 (by decide) ?_
  refine V.iload_n C dX10_digest_11 rfl ?_
  refine V.bipush C (v := nI 12) dX10_digest_12 (by decide) ?_
  refine V.icmp_ge C (tgt := 34) dX10_digest_14 (by decide) (fun c14 => ?_) (fun c14 => ?_)
  · exfalso; exact absurd c14 (by decide +kernel)
  refine V.lload_n C dX10_digest_17 rfl ?_
  refine V.aload_n C dX10_digest_18 rfl ?_
  refine V.iload_n C dX10_digest_19 rfl ?_
  refine V.zVix C ZE (X := []) (cz_X10_count (k := 6) (by decide)) (by first | rfl | exact (List.append_nil _).symm) gz_X10_261 (n := 1) ⟨rfl, by decide, by decide, by decide +kernel⟩ rfl (q0 := 0) rfl rfl rfl ⟨Nat.le_of_ble_eq_true rfl, Nat.le_of_ble_eq_true rfl⟩ ⟨Nat.le_of_ble_eq_true rfl, Nat.le_of_ble_eq_true rfl⟩ (Nat.le_of_ble_eq_true rfl) rfl dX10_digest_20 ?_
  refine V.i2l C dX10_digest_23 ?_
  refine V.topl (y := 0) (by decide +kernel) ?_
  refine V.zSin C ZE (cz_X10_add) gz_X10_290 (n := 2) ⟨by decide, by decide, by decide +kernel⟩ rfl rfl ⟨Nat.le_of_ble_eq_true rfl, Nat.le_of_ble_eq_true rfl⟩ ⟨Nat.le_of_ble_eq_true rfl, Nat.le_of_ble_eq_true rfl⟩ (Nat.le_of_ble_eq_true rfl) rfl dX10_digest_24 ?_
  refine V.topl (y := 1598868056446654) (by decide +kernel) ?_
  refine V.lstore_n C dX10_digest_27 (by decide) rfl ?_
  dsimp only [List.set, Fin.val]
  refine V.iinc C (v := nI 7) dX10_digest_28 rfl (by decide +kernel) (by decide) rfl ?_
  dsimp only [List.set]
  refine V.goto C (tgt := 11) dX10_digest_31 (by decide) ?_
  refine V.iload_n C dX10_digest_11 rfl ?_
  refine V.bipush C (v := nI 12) dX10_digest_12 (by decide) ?_
  refine V.icmp_ge C (tgt := 34) dX10_digest_14 (by decide) (fun c14 => ?_) (fun c14 => ?_)
  · exfalso; exact absurd c14 (by decide +kernel)
  refine V.lload_n C dX10_digest_17 rfl ?_
  refine V.aload_n C dX10_digest_18 rfl ?_
  refine V.iload_n C dX10_digest_19 rfl ?_
  refine V.zVix C ZE (X := []) (cz_X10_count (k := 7) (by decide)) (by first | rfl | exact (List.append_nil _).symm) gz_X10_261 (n := 1) ⟨rfl, by decide, by decide, by decide +kernel⟩ rfl (q0 := 0) rfl rfl rfl ⟨Nat.le_of_ble_eq_true rfl, Nat.le_of_ble_eq_true rfl⟩ ⟨Nat.le_of_ble_eq_true rfl, Nat.le_of_ble_eq_true rfl⟩ (Nat.le_of_ble_eq_true rfl) rfl dX10_digest_20 ?_
  refine V.i2l C dX10_digest_23 ?_
  refine V.topl (y := 0) (by decide +kernel) ?_
  refine V.zSin C ZE (cz_X10_add) gz_X10_290 (n := 2) ⟨by decide, by decide, by decide +kernel⟩ rfl rfl ⟨Nat.le_of_ble_eq_true rfl, Nat.le_of_ble_eq_true rfl⟩ ⟨Nat.le_of_ble_eq_true rfl, Nat.le_of_ble_eq_true rfl⟩ (Nat.le_of_ble_eq_true rfl) rfl dX10_digest_24 ?_
  refine V.topl (y := 49564909749846274) (by decide +kernel) ?_
  refine V.lstore_n C dX10_digest_27 (by decide) rfl ?_
  dsimp only [List.set, Fin.val]
  refine V.iinc C (v := nI 8) dX10_digest_28 rfl (by decide +kernel) (by decide) rfl ?_
  dsimp only [List.set]
  refine V.goto C (tgt := 11) dX10_digest_31 (by decide) ?_
  refine V.iload_n C dX10_digest_11 rfl ?_
  refine V.bipush C (v := nI 12) dX10_digest_12 (by decide) ?_
  refine V.icmp_ge C (tgt := 34) dX10_digest_14 (by decide) (fun c14 => ?_) (fun c14 => ?_)
  · exfalso; exact absurd c14 (by decide +kernel)
  refine V.lload_n C dX10_digest_17 rfl ?_
  refine V.aload_n C dX10_digest_18 rfl ?_
  refine V.iload_n C dX10_digest_19 rfl ?_
  refine V.zVix C ZE (X := []) (cz_X10_count (k := 8) (by decide)) (by first | rfl | exact (List.append_nil _).symm) gz_X10_261 (n := 1) ⟨rfl, by decide, by decide, by decide +kernel⟩ rfl (q0 := 0) rfl rfl rfl ⟨Nat.le_of_ble_eq_true rfl, Nat.le_of_ble_eq_true rfl⟩ ⟨Nat.le_of_ble_eq_true rfl, Nat.le_of_ble_eq_true rfl⟩ (Nat.le_of_ble_eq_true rfl) rfl dX10_digest_20 ?_
  refine V.i2l C dX10_digest_23 ?_
  refine V.topl (y := 0) (by decide +kernel) ?_
  refine V.zSin C ZE (cz_X10_add) gz_X10_290 (n := 2) ⟨by decide, by decide, by decide +kernel⟩ rfl rfl ⟨Nat.le_of_ble_eq_true rfl, Nat.le_of_ble_eq_true rfl⟩ ⟨Nat.le_of_ble_eq_true rfl, Nat.le_of_ble_eq_true rfl⟩ (Nat.le_of_ble_eq_true rfl) rfl dX10_digest_24 ?_
  refine V.topl (y := 1536512202245234494) (by decide +kernel) ?_
  refine V.lstore_n C dX10_digest_27 (by decide) rfl ?_
  dsimp only [List.set, Fin.val]
  refine V.iinc C (v := nI 9) dX10_digest_28 rfl (by decide +kernel) (by decide) rfl ?_
  dsimp only [List.set]
  refine V.goto C (tgt := 11) dX10_digest_31 (by decide) ?_
  refine V.iload_n C dX10_digest_11 rfl ?_
  refine V.bipush C (v := nI 12) dX10_digest_12 (by decide) ?_
  refine V.icmp_ge C (tgt := 34) dX10_digest_14 (by decide) (fun c14 => ?_) (fun c14 => ?_)
  · exfalso; exact absurd c14 (by decide +kernel)
  refine V.lload_n C dX10_digest_17 rfl ?_
  refine V.aload_n C dX10_digest_18 rfl ?_
  refine V.iload_n C dX10_digest_19 rfl ?_
  refine V.zVix C ZE (X := []) (cz_X10_count (k := 9) (by decide)) (by first | rfl | exact (List.append_nil _).symm) gz_X10_261 (n := 1) ⟨rfl, by decide, by decide, by decide +kernel⟩ rfl (q0 := 0) rfl rfl rfl ⟨Nat.le_of_ble_eq_true rfl, Nat.le_of_ble_eq_true rfl⟩ ⟨Nat.le_of_ble_eq_true rfl, Nat.le_of_ble_eq_true rfl⟩ (Nat.le_of_ble_eq_true rfl) rfl dX10_digest_20 ?_
  refine V.i2l C dX10_digest_23 ?_
  refine V.topl (y := 0) (by decide +kernel) ?_
  refine V.zSin C ZE (cz_X10_add) gz_X10_290 (n := 2) ⟨by decide, by decide, by decide +kernel⟩ rfl rfl ⟨Nat.le_of_ble_eq_true rfl, Nat.le_of_ble_eq_true rfl⟩ ⟨Nat.le_of_ble_eq_true rfl, Nat.le_of_ble_eq_true rfl⟩ (Nat.le_of_ble_eq_true rfl) rfl dX10_digest_24 ?_
  refine V.topl (y := -7708353951526385534) (by decide +kernel) ?_
  refine V.lstore_n C dX10_digest_27 (by decide) rfl ?_
  dsimp only [List.set, Fin.val]
  refine V.iinc C (v := nI 10) dX10_digest_28 rfl (by decide +kernel) (by decide) rfl ?_
  dsimp only [List.set]
  refine V.goto C (tgt := 11) dX10_digest_31 (by decide) ?_
  refine V.iload_n C dX10_digest_11 rfl ?_
  refine V.bipush C (v := nI 12) dX10_digest_12 (by decide) ?_
  refine V.icmp_ge C (tgt := 34) dX10_digest_14 (by decide) (fun c14 => ?_) (fun c14 => ?_)
  · exfalso; exact absurd c14 (by decide +kernel)
  refine V.lload_n C dX10_digest_17 rfl ?_
  refine V.aload_n C dX10_digest_18 rfl ?_
  refine V.iload_n C dX10_digest_19 rfl ?_
  refine V.zVix C ZE (X := []) (cz_X10_count (k := 10) (by decide)) (by first | rfl | exact (List.append_nil _).symm) gz_X10_261 (n := 1) ⟨rfl, by decide, by decide, by decide +kernel⟩ rfl (q0 := 0) rfl rfl rfl ⟨Nat.le_of_ble_eq_true rfl, Nat.le_of_ble_eq_true rfl⟩ ⟨Nat.le_of_ble_eq_true rfl, Nat.le_of_ble_eq_true rfl⟩ (Nat.le_of_ble_eq_true rfl) rfl dX10_digest_20 ?_
  refine V.i2l C dX10_digest_23 ?_
  refine V.topl (y := 0) (by decide +kernel) ?_
  refine V.zSin C ZE (cz_X10_add) gz_X10_290 (n := 2) ⟨by decide, by decide, by decide +kernel⟩ rfl rfl ⟨Nat.le_of_ble_eq_true rfl, Nat.le_of_ble_eq_true rfl⟩ ⟨Nat.le_of_ble_eq_true rfl, Nat.le_of_ble_eq_true rfl⟩ (Nat.le_of_ble_eq_true rfl) rfl dX10_digest_24 ?_
  refine V.topl (y := 848700460906219454) (by decide +kernel) ?_
  refine V.lstore_n C dX10_digest_27 (by decide) rfl ?_
  dsimp only [List.set, Fin.val]
  refine V.iinc C (v := nI 11) dX10_digest_28 rfl (by decide +kernel) (by decide) rfl ?_
  dsimp only [List.set]
  refine V.goto C (tgt := 11) dX10_digest_31 (by decide) ?_
  refine V.iload_n C dX10_digest_11 rfl ?_
  refine V.bipush C (v := nI 12) dX10_digest_12 (by decide) ?_
  refine V.icmp_ge C (tgt := 34) dX10_digest_14 (by decide) (fun c14 => ?_) (fun c14 => ?_)
  · exfalso; exact absurd c14 (by decide +kernel)
  refine V.lload_n C dX10_digest_17 rfl ?_
  refine V.aload_n C dX10_digest_18 rfl ?_
  refine V.iload_n C dX10_digest_19 rfl ?_
  refine V.zVix C ZE (X := []) (cz_X10_count (k := 11) (by decide)) (by first | rfl | exact (List.append_nil _).symm) gz_X10_261 (n := 1) ⟨rfl, by decide, by decide, by decide +kernel⟩ rfl (q0 := 0) rfl rfl rfl ⟨Nat.le_of_ble_eq_true rfl, Nat.le_of_ble_eq_true rfl⟩ ⟨Nat.le_of_ble_eq_true rfl, Nat.le_of_ble_eq_true rfl⟩ (Nat.le_of_ble_eq_true rfl) rfl dX10_digest_20 ?_
  refine V.i2l C dX10_digest_23 ?_
  refine V.topl (y := 0) (by decide +kernel) ?_
  refine V.zSin C ZE (cz_X10_add) gz_X10_290 (n := 2) ⟨by decide, by decide, by decide +kernel⟩ rfl rfl ⟨Nat.le_of_ble_eq_true rfl, Nat.le_of_ble_eq_true rfl⟩ ⟨Nat.le_of_ble_eq_true rfl, Nat.le_of_ble_eq_true rfl⟩ (Nat.le_of_ble_eq_true rfl) rfl dX10_digest_24 ?_
  refine V.topl (y := 7862970214383251458) (by decide +kernel) ?_
  refine V.lstore_n C dX10_digest_27 (by decide) rfl ?_
  dsimp only [List.set, Fin.val]
  refine V.iinc C (v := nI 12) dX10_digest_28 rfl (by decide +kernel) (by decide) rfl ?_
  dsimp only [List.set]
  refine V.goto C (tgt := 11) dX10_digest_31 (by decide) ?_
  refine V.iload_n C dX10_digest_11 rfl ?_
  refine V.bipush C (v := nI 12) dX10_digest_12 (by decide) ?_
  refine V.icmp_ge C (tgt := 34) dX10_digest_14 (by decide) (fun c14 => ?_) (fun c14 => ?_)
  rotate_left
  · exfalso; exact absurd c14 (by decide +kernel)
  refine V.iconst C (v := nI 0) dX10_digest_34 (by decide) ?_
  refine V.istore_n C dX10_digest_35 (by decide) rfl ?_
  dsimp only [List.set, Fin.val]
  refine V.iload_n C dX10_digest_36 rfl ?_
  refine V.iconst C (v := nI 3) dX10_digest_37 (by decide) ?_
  refine V.icmp_ge C (tgt := 92) dX10_digest_38 (by decide) (fun c38 => ?_) (fun c38 => ?_)
  · exfalso; exact absurd c38 (by decide +kernel)
  refine V.iconst C (v := nI 0) dX10_digest_41 (by decide) ?_
  refine V.istore C dX10_digest_42 (by decide) rfl ?_
  dsimp only [List.set]
  refine V.iload C dX10_digest_44 rfl ?_
  refine V.iconst C (v := nI 2) dX10_digest_46 (by decide) ?_
  refine V.icmp_ge C (tgt := 86) dX10_digest_47 (by decide) (fun c47 => ?_) (fun c47 => ?_)
  · exfalso; exact absurd c47 (by decide +kernel)
  refine V.iconst C (v := nI 0) dX10_digest_50 (by decide) ?_
  refine V.istore C dX10_digest_51 (by decide) rfl ?_
  dsimp only [List.set]
  refine V.iload C dX10_digest_53 rfl ?_
  refine V.iconst C (v := nI 5) dX10_digest_55 (by decide) ?_
  refine V.icmp_ge C (tgt := 80) dX10_digest_56 (by decide) (fun c56 => ?_) (fun c56 => ?_)
  · exfalso; exact absurd c56 (by decide +kernel)
  refine V.lload_n C dX10_digest_59 rfl ?_
  refine V.aload_n C dX10_digest_60 rfl ?_
  refine V.iload_n C dX10_digest_61 rfl ?_
  refine V.iload C dX10_digest_62 rfl ?_
  refine V.iload C dX10_digest_64 rfl ?_
  refine V.zVix C ZE (X := []) (cz_X10_ofCellNow_00) (by first | rfl | exact (List.append_nil _).symm) gz_X10_162 (n := 3) ⟨rfl, by decide, by decide, by decide +kernel⟩ rfl (q0 := 0) rfl rfl rfl ⟨Nat.le_of_ble_eq_true rfl, Nat.le_of_ble_eq_true rfl⟩ ⟨Nat.le_of_ble_eq_true rfl, Nat.le_of_ble_eq_true rfl⟩ (Nat.le_of_ble_eq_true rfl) rfl dX10_digest_66 ?_
  refine V.i2l C dX10_digest_69 ?_
  refine V.topl (y := 0) (by decide +kernel) ?_
  refine V.zSin C ZE (cz_X10_add) gz_X10_290 (n := 2) ⟨by decide, by decide, by decide +kernel⟩ rfl rfl ⟨Nat.le_of_ble_eq_true rfl, Nat.le_of_ble_eq_true rfl⟩ ⟨Nat.le_of_ble_eq_true rfl, Nat.le_of_ble_eq_true rfl⟩ (Nat.le_of_ble_eq_true rfl) rfl dX10_digest_70 ?_
  refine V.topl (y := 3944403687656624190) (by decide +kernel) ?_
  refine V.lstore_n C dX10_digest_73 (by decide) rfl ?_
  dsimp only [List.set, Fin.val]
  refine V.iinc C (v := nI 1) dX10_digest_74 rfl (by decide +kernel) (by decide) rfl ?_
  dsimp only [List.set]
  refine V.goto C (tgt := 53) dX10_digest_77 (by decide) ?_
  refine V.iload C dX10_digest_53 rfl ?_
  refine V.iconst C (v := nI 5) dX10_digest_55 (by decide) ?_
  refine V.icmp_ge C (tgt := 80) dX10_digest_56 (by decide) (fun c56 => ?_) (fun c56 => ?_)
  · exfalso; exact absurd c56 (by decide +kernel)
  refine V.lload_n C dX10_digest_59 rfl ?_
  refine V.aload_n C dX10_digest_60 rfl ?_
  refine V.iload_n C dX10_digest_61 rfl ?_
  refine V.iload C dX10_digest_62 rfl ?_
  refine V.iload C dX10_digest_64 rfl ?_
  refine V.zVix C ZE (X := []) (cz_X10_ofCellNow_00) (by first | rfl | exact (List.append_nil _).symm) gz_X10_162 (n := 3) ⟨rfl, by decide, by decide, by decide +kernel⟩ rfl (q0 := 0) rfl rfl rfl ⟨Nat.le_of_ble_eq_true rfl, Nat.le_of_ble_eq_true rfl⟩ ⟨Nat.le_of_ble_eq_true rfl, Nat.le_of_ble_eq_true rfl⟩ (Nat.le_of_ble_eq_true rfl) rfl dX10_digest_66 ?_
  refine V.i2l C dX10_digest_69 ?_
  refine V.topl (y := 0) (by decide +kernel) ?_
  refine V.zSin C ZE (cz_X10_add) gz_X10_290 (n := 2) ⟨by decide, by decide, by decide +kernel⟩ rfl rfl ⟨Nat.le_of_ble_eq_true rfl, Nat.le_of_ble_eq_true rfl⟩ ⟨Nat.le_of_ble_eq_true rfl, Nat.le_of_ble_eq_true rfl⟩ (Nat.le_of_ble_eq_true rfl) rfl dX10_digest_70 ?_
  refine V.topl (y := -6850694198611511422) (by decide +kernel) ?_
  refine V.lstore_n C dX10_digest_73 (by decide) rfl ?_
  dsimp only [List.set, Fin.val]
  refine V.iinc C (v := nI 2) dX10_digest_74 rfl (by decide +kernel) (by decide) rfl ?_
  dsimp only [List.set]
  refine V.goto C (tgt := 53) dX10_digest_77 (by decide) ?_
  refine V.iload C dX10_digest_53 rfl ?_
  refine V.iconst C (v := nI 5) dX10_digest_55 (by decide) ?_
  refine V.icmp_ge C (tgt := 80) dX10_digest_56 (by decide) (fun c56 => ?_) (fun c56 => ?_)
  · exfalso; exact absurd c56 (by decide +kernel)
  refine V.lload_n C dX10_digest_59 rfl ?_
  refine V.aload_n C dX10_digest_60 rfl ?_
  refine V.iload_n C dX10_digest_61 rfl ?_
  refine V.iload C dX10_digest_62 rfl ?_
  refine V.iload C dX10_digest_64 rfl ?_
  refine V.zVix C ZE (X := []) (cz_X10_ofCellNow_00) (by first | rfl | exact (List.append_nil _).symm) gz_X10_162 (n := 3) ⟨rfl, by decide, by decide, by decide +kernel⟩ rfl (q0 := 0) rfl rfl rfl ⟨Nat.le_of_ble_eq_true rfl, Nat.le_of_ble_eq_true rfl⟩ ⟨Nat.le_of_ble_eq_true rfl, Nat.le_of_ble_eq_true rfl⟩ (Nat.le_of_ble_eq_true rfl) rfl dX10_digest_66 ?_
  refine V.i2l C dX10_digest_69 ?_
  refine V.topl (y := 0) (by decide +kernel) ?_
  refine V.zSin C ZE (cz_X10_add) gz_X10_290 (n := 2) ⟨by decide, by decide, by decide +kernel⟩ rfl rfl ⟨Nat.le_of_ble_eq_true rfl, Nat.le_of_ble_eq_true rfl⟩ ⟨Nat.le_of_ble_eq_true rfl, Nat.le_of_ble_eq_true rfl⟩ (Nat.le_of_ble_eq_true rfl) rfl dX10_digest_70 ?_
  refine V.topl (y := 8989408727557765310) (by decide +kernel) ?_
  refine V.lstore_n C dX10_digest_73 (by decide) rfl ?_
  dsimp only [List.set, Fin.val]
  refine V.iinc C (v := nI 3) dX10_digest_74 rfl (by decide +kernel) (by decide) rfl ?_
  dsimp only [List.set]
  refine V.goto C (tgt := 53) dX10_digest_77 (by decide) ?_
  refine V.iload C dX10_digest_53 rfl ?_
  refine V.iconst C (v := nI 5) dX10_digest_55 (by decide) ?_
  refine V.icmp_ge C (tgt := 80) dX10_digest_56 (by decide) (fun c56 => ?_) (fun c56 => ?_)
  · exfalso; exact absurd c56 (by decide +kernel)
  refine V.lload_n C dX10_digest_59 rfl ?_
  refine V.aload_n C dX10_digest_60 rfl ?_
  refine V.iload_n C dX10_digest_61 rfl ?_
  refine V.iload C dX10_digest_62 rfl ?_
  refine V.iload C dX10_digest_64 rfl ?_
  refine V.zVix C ZE (X := []) (cz_X10_ofCellNow_00) (by first | rfl | exact (List.append_nil _).symm) gz_X10_162 (n := 3) ⟨rfl, by decide, by decide, by decide +kernel⟩ rfl (q0 := 0) rfl rfl rfl ⟨Nat.le_of_ble_eq_true rfl, Nat.le_of_ble_eq_true rfl⟩ ⟨Nat.le_of_ble_eq_true rfl, Nat.le_of_ble_eq_true rfl⟩ (Nat.le_of_ble_eq_true rfl) rfl dX10_digest_66 ?_
  refine V.i2l C dX10_digest_69 ?_
  refine V.topl (y := 0) (by decide +kernel) ?_
  refine V.zSin C ZE (cz_X10_add) gz_X10_290 (n := 2) ⟨by decide, by decide, by decide +kernel⟩ rfl rfl ⟨Nat.le_of_ble_eq_true rfl, Nat.le_of_ble_eq_true rfl⟩ ⟨Nat.le_of_ble_eq_true rfl, Nat.le_of_ble_eq_true rfl⟩ (Nat.le_of_ble_eq_true rfl) rfl dX10_digest_70 ?_
  refine V.topl (y := 1970509448647450370) (by decide +kernel) ?_
  refine V.lstore_n C dX10_digest_73 (by decide) rfl ?_
  dsimp only [List.set, Fin.val]
  refine V.iinc C (v := nI 4) dX10_digest_74 rfl (by decide +kernel) (by decide) rfl ?_
  dsimp only [List.set]
  refine V.goto C (tgt := 53) dX10_digest_77 (by decide) ?_
  refine V.iload C dX10_digest_53 rfl ?_
  refine V.iconst C (v := nI 5) dX10_digest_55 (by decide) ?_
  refine V.icmp_ge C (tgt := 80) dX10_digest_56 (by decide) (fun c56 => ?_) (fun c56 => ?_)
  · exfalso; exact absurd c56 (by decide +kernel)
  refine V.lload_n C dX10_digest_59 rfl ?_
  refine V.aload_n C dX10_digest_60 rfl ?_
  refine V.iload_n C dX10_digest_61 rfl ?_
  refine V.iload C dX10_digest_62 rfl ?_
  refine V.iload C dX10_digest_64 rfl ?_
  refine V.zVix C ZE (X := []) (cz_X10_ofCellNow_00) (by first | rfl | exact (List.append_nil _).symm) gz_X10_162 (n := 3) ⟨rfl, by decide, by decide, by decide +kernel⟩ rfl (q0 := 0) rfl rfl rfl ⟨Nat.le_of_ble_eq_true rfl, Nat.le_of_ble_eq_true rfl⟩ ⟨Nat.le_of_ble_eq_true rfl, Nat.le_of_ble_eq_true rfl⟩ (Nat.le_of_ble_eq_true rfl) rfl dX10_digest_66 ?_
  refine V.i2l C dX10_digest_69 ?_
  refine V.topl (y := 0) (by decide +kernel) ?_
  refine V.zSin C ZE (cz_X10_add) gz_X10_290 (n := 2) ⟨by decide, by decide, by decide +kernel⟩ rfl rfl ⟨Nat.le_of_ble_eq_true rfl, Nat.le_of_ble_eq_true rfl⟩ ⟨Nat.le_of_ble_eq_true rfl, Nat.le_of_ble_eq_true rfl⟩ (Nat.le_of_ble_eq_true rfl) rfl dX10_digest_70 ?_
  refine V.topl (y := 5745560686942306622) (by decide +kernel) ?_
  refine V.lstore_n C dX10_digest_73 (by decide) rfl ?_
  dsimp only [List.set, Fin.val]
  refine V.iinc C (v := nI 5) dX10_digest_74 rfl (by decide +kernel) (by decide) rfl ?_
  dsimp only [List.set]
  refine V.goto C (tgt := 53) dX10_digest_77 (by decide) ?_
  refine V.iload C dX10_digest_53 rfl ?_
  refine V.iconst C (v := nI 5) dX10_digest_55 (by decide) ?_
  refine V.icmp_ge C (tgt := 80) dX10_digest_56 (by decide) (fun c56 => ?_) (fun c56 => ?_)
  rotate_left
  · exfalso; exact absurd c56 (by decide +kernel)
  refine V.iinc C (v := nI 1) dX10_digest_80 rfl (by decide +kernel) (by decide) rfl ?_
  dsimp only [List.set]
  refine V.goto C (tgt := 44) dX10_digest_83 (by decide) ?_
  refine V.iload C dX10_digest_44 rfl ?_
  refine V.iconst C (v := nI 2) dX10_digest_46 (by decide) ?_
  refine V.icmp_ge C (tgt := 86) dX10_digest_47 (by decide) (fun c47 => ?_) (fun c47 => ?_)
  · exfalso; exact absurd c47 (by decide +kernel)
  refine V.iconst C (v := nI 0) dX10_digest_50 (by decide) ?_
  refine V.istore C dX10_digest_51 (by decide) rfl ?_
  dsimp only [List.set]
  refine V.iload C dX10_digest_53 rfl ?_
  refine V.iconst C (v := nI 5) dX10_digest_55 (by decide) ?_
  refine V.icmp_ge C (tgt := 80) dX10_digest_56 (by decide) (fun c56 => ?_) (fun c56 => ?_)
  · exfalso; exact absurd c56 (by decide +kernel)
  refine V.lload_n C dX10_digest_59 rfl ?_
  refine V.aload_n C dX10_digest_60 rfl ?_
  refine V.iload_n C dX10_digest_61 rfl ?_
  refine V.iload C dX10_digest_62 rfl ?_
  refine V.iload C dX10_digest_64 rfl ?_
  refine V.zVix C ZE (X := []) (cz_X10_ofCellNow_01) (by first | rfl | exact (List.append_nil _).symm) gz_X10_162 (n := 3) ⟨rfl, by decide, by decide, by decide +kernel⟩ rfl (q0 := 0) rfl rfl rfl ⟨Nat.le_of_ble_eq_true rfl, Nat.le_of_ble_eq_true rfl⟩ ⟨Nat.le_of_ble_eq_true rfl, Nat.le_of_ble_eq_true rfl⟩ (Nat.le_of_ble_eq_true rfl) rfl dX10_digest_66 ?_
  refine V.i2l C dX10_digest_69 ?_
  refine V.topl (y := 0) (by decide +kernel) ?_
  refine V.zSin C ZE (cz_X10_add) gz_X10_290 (n := 2) ⟨by decide, by decide, by decide +kernel⟩ rfl rfl ⟨Nat.le_of_ble_eq_true rfl, Nat.le_of_ble_eq_true rfl⟩ ⟨Nat.le_of_ble_eq_true rfl, Nat.le_of_ble_eq_true rfl⟩ (Nat.le_of_ble_eq_true rfl) rfl dX10_digest_70 ?_
  refine V.topl (y := -6355059441884010878) (by decide +kernel) ?_
  refine V.lstore_n C dX10_digest_73 (by decide) rfl ?_
  dsimp only [List.set, Fin.val]
  refine V.iinc C (v := nI 1) dX10_digest_74 rfl (by decide +kernel) (by decide) rfl ?_
  dsimp only [List.set]
  refine V.goto C (tgt := 53) dX10_digest_77 (by decide) ?_
  refine V.iload C dX10_digest_53 rfl ?_
  refine V.iconst C (v := nI 5) dX10_digest_55 (by decide) ?_
  refine V.icmp_ge C (tgt := 80) dX10_digest_56 (by decide) (fun c56 => ?_) (fun c56 => ?_)
  · exfalso; exact absurd c56 (by decide +kernel)
  refine V.lload_n C dX10_digest_59 rfl ?_
  refine V.aload_n C dX10_digest_60 rfl ?_
  refine V.iload_n C dX10_digest_61 rfl ?_
  refine V.iload C dX10_digest_62 rfl ?_
  refine V.iload C dX10_digest_64 rfl ?_
  refine V.zVix C ZE (X := []) (cz_X10_ofCellNow_01) (by first | rfl | exact (List.append_nil _).symm) gz_X10_162 (n := 3) ⟨rfl, by decide, by decide, by decide +kernel⟩ rfl (q0 := 0) rfl rfl rfl ⟨Nat.le_of_ble_eq_true rfl, Nat.le_of_ble_eq_true rfl⟩ ⟨Nat.le_of_ble_eq_true rfl, Nat.le_of_ble_eq_true rfl⟩ (Nat.le_of_ble_eq_true rfl) rfl dX10_digest_66 ?_
  refine V.i2l C dX10_digest_69 ?_
  refine V.topl (y := 0) (by decide +kernel) ?_
  refine V.zSin C ZE (cz_X10_add) gz_X10_290 (n := 2) ⟨by decide, by decide, by decide +kernel⟩ rfl rfl ⟨Nat.le_of_ble_eq_true rfl, Nat.le_of_ble_eq_true rfl⟩ ⟨Nat.le_of_ble_eq_true rfl, Nat.le_of_ble_eq_true rfl⟩ (Nat.le_of_ble_eq_true rfl) rfl dX10_digest_70 ?_
  refine V.topl (y := 5907342112400730558) (by decide +kernel) ?_
  refine V.lstore_n C dX10_digest_73 (by decide) rfl ?_
  dsimp only [List.set, Fin.val]
  refine V.iinc C (v := nI 2) dX10_digest_74 rfl (by decide +kernel) (by decide) rfl ?_
  dsimp only [List.set]
  refine V.goto C (tgt := 53) dX10_digest_77 (by decide) ?_
  refine V.iload C dX10_digest_53 rfl ?_
  refine V.iconst C (v := nI 5) dX10_digest_55 (by decide) ?_
  refine V.icmp_ge C (tgt := 80) dX10_digest_56 (by decide) (fun c56 => ?_) (fun c56 => ?_)
  · exfalso; exact absurd c56 (by decide +kernel)
  refine V.lload_n C dX10_digest_59 rfl ?_
  refine V.aload_n C dX10_digest_60 rfl ?_
  refine V.iload_n C dX10_digest_61 rfl ?_
  refine V.iload C dX10_digest_62 rfl ?_
  refine V.iload C dX10_digest_64 rfl ?_
  refine V.zVix C ZE (X := []) (cz_X10_ofCellNow_01) (by first | rfl | exact (List.append_nil _).symm) gz_X10_162 (n := 3) ⟨rfl, by decide, by decide, by decide +kernel⟩ rfl (q0 := 0) rfl rfl rfl ⟨Nat.le_of_ble_eq_true rfl, Nat.le_of_ble_eq_true rfl⟩ ⟨Nat.le_of_ble_eq_true rfl, Nat.le_of_ble_eq_true rfl⟩ (Nat.le_of_ble_eq_true rfl) rfl dX10_digest_66 ?_
  refine V.i2l C dX10_digest_69 ?_
  refine V.topl (y := 0) (by decide +kernel) ?_
  refine V.zSin C ZE (cz_X10_add) gz_X10_290 (n := 2) ⟨by decide, by decide, by decide +kernel⟩ rfl rfl ⟨Nat.le_of_ble_eq_true rfl, Nat.le_of_ble_eq_true rfl⟩ ⟨Nat.le_of_ble_eq_true rfl, Nat.le_of_ble_eq_true rfl⟩ (Nat.le_of_ble_eq_true rfl) rfl dX10_digest_70 ?_
  refine V.topl (y := -1339835252672868862) (by decide +kernel) ?_
  refine V.lstore_n C dX10_digest_73 (by decide) rfl ?_
  dsimp only [List.set, Fin.val]
  refine V.iinc C (v := nI 3) dX10_digest_74 rfl (by decide +kernel) (by decide) rfl ?_
  dsimp only [List.set]
  refine V.goto C (tgt := 53) dX10_digest_77 (by decide) ?_
  refine V.iload C dX10_digest_53 rfl ?_
  refine V.iconst C (v := nI 5) dX10_digest_55 (by decide) ?_
  refine V.icmp_ge C (tgt := 80) dX10_digest_56 (by decide) (fun c56 => ?_) (fun c56 => ?_)
  · exfalso; exact absurd c56 (by decide +kernel)
  refine V.lload_n C dX10_digest_59 rfl ?_
  refine V.aload_n C dX10_digest_60 rfl ?_
  refine V.iload_n C dX10_digest_61 rfl ?_
  refine V.iload C dX10_digest_62 rfl ?_
  refine V.iload C dX10_digest_64 rfl ?_
  refine V.zVix C ZE (X := []) (cz_X10_ofCellNow_01) (by first | rfl | exact (List.append_nil _).symm) gz_X10_162 (n := 3) ⟨rfl, by decide, by decide, by decide +kernel⟩ rfl (q0 := 0) rfl rfl rfl ⟨Nat.le_of_ble_eq_true rfl, Nat.le_of_ble_eq_true rfl⟩ ⟨Nat.le_of_ble_eq_true rfl, Nat.le_of_ble_eq_true rfl⟩ (Nat.le_of_ble_eq_true rfl) rfl dX10_digest_66 ?_
  refine V.i2l C dX10_digest_69 ?_
  refine V.topl (y := 0) (by decide +kernel) ?_
  refine V.zSin C ZE (cz_X10_add) gz_X10_290 (n := 2) ⟨by decide, by decide, by decide +kernel⟩ rfl rfl ⟨Nat.le_of_ble_eq_true rfl, Nat.le_of_ble_eq_true rfl⟩ ⟨Nat.le_of_ble_eq_true rfl, Nat.le_of_ble_eq_true rfl⟩ (Nat.le_of_ble_eq_true rfl) rfl dX10_digest_70 ?_
  refine V.topl (y := -4641404685439831490) (by decide +kernel) ?_
  refine V.lstore_n C dX10_digest_73 (by decide) rfl ?_
  dsimp only [List.set, Fin.val]
  refine V.iinc C (v := nI 4) dX10_digest_74 rfl (by decide +kernel) (by decide) rfl ?_
  dsimp only [List.set]
  refine V.goto C (tgt := 53) dX10_digest_77 (by decide) ?_
  refine V.iload C dX10_digest_53 rfl ?_
  refine V.iconst C (v := nI 5) dX10_digest_55 (by decide) ?_
  refine V.icmp_ge C (tgt := 80) dX10_digest_56 (by decide) (fun c56 => ?_) (fun c56 => ?_)
  · exfalso; exact absurd c56 (by decide +kernel)
  refine V.lload_n C dX10_digest_59 rfl ?_
  refine V.aload_n C dX10_digest_60 rfl ?_
  refine V.iload_n C dX10_digest_61 rfl ?_
  refine V.iload C dX10_digest_62 rfl ?_
  refine V.iload C dX10_digest_64 rfl ?_
  refine V.zVix C ZE (X := []) (cz_X10_ofCellNow_01) (by first | rfl | exact (List.append_nil _).symm) gz_X10_162 (n := 3) ⟨rfl, by decide, by decide, by decide +kernel⟩ rfl (q0 := 0) rfl rfl rfl ⟨Nat.le_of_ble_eq_true rfl, Nat.le_of_ble_eq_true rfl⟩ ⟨Nat.le_of_ble_eq_true rfl, Nat.le_of_ble_eq_true rfl⟩ (Nat.le_of_ble_eq_true rfl) rfl dX10_digest_66 ?_
  refine V.i2l C dX10_digest_69 ?_
  refine V.topl (y := 0) (by decide +kernel) ?_
  refine V.zSin C ZE (cz_X10_add) gz_X10_290 (n := 2) ⟨by decide, by decide, by decide +kernel⟩ rfl rfl ⟨Nat.le_of_ble_eq_true rfl, Nat.le_of_ble_eq_true rfl⟩ ⟨Nat.le_of_ble_eq_true rfl, Nat.le_of_ble_eq_true rfl⟩ (Nat.le_of_ble_eq_true rfl) rfl dX10_digest_70 ?_
  refine V.topl (y := 3690407341041636738) (by decide +kernel) ?_
  refine V.lstore_n C dX10_digest_73 (by decide) rfl ?_
  dsimp only [List.set, Fin.val]
  refine V.iinc C (v := nI 5) dX10_digest_74 rfl (by decide +kernel) (by decide) rfl ?_
  dsimp only [List.set]
  refine V.goto C (tgt := 53) dX10_digest_77 (by decide) ?_
  refine V.iload C dX10_digest_53 rfl ?_
  refine V.iconst C (v := nI 5) dX10_digest_55 (by decide) ?_
  refine V.icmp_ge C (tgt := 80) dX10_digest_56 (by decide) (fun c56 => ?_) (fun c56 => ?_)
  rotate_left
  · exfalso; exact absurd c56 (by decide +kernel)
  refine V.iinc C (v := nI 2) dX10_digest_80 rfl (by decide +kernel) (by decide) rfl ?_
  dsimp only [List.set]
  refine V.goto C (tgt := 44) dX10_digest_83 (by decide) ?_
  refine V.iload C dX10_digest_44 rfl ?_
  refine V.iconst C (v := nI 2) dX10_digest_46 (by decide) ?_
  refine V.icmp_ge C (tgt := 86) dX10_digest_47 (by decide) (fun c47 => ?_) (fun c47 => ?_)
  rotate_left
  · exfalso; exact absurd c47 (by decide +kernel)
  refine V.iinc C (v := nI 1) dX10_digest_86 rfl (by decide +kernel) (by decide) rfl ?_
  dsimp only [List.set]
  refine V.goto C (tgt := 36) dX10_digest_89 (by decide) ?_
  refine V.iload_n C dX10_digest_36 rfl ?_
  refine V.iconst C (v := nI 3) dX10_digest_37 (by decide) ?_
  refine V.icmp_ge C (tgt := 92) dX10_digest_38 (by decide) (fun c38 => ?_) (fun c38 => ?_)
  · exfalso; exact absurd c38 (by decide +kernel)
  refine V.iconst C (v := nI 0) dX10_digest_41 (by decide) ?_
  refine V.istore C dX10_digest_42 (by decide) rfl ?_
  dsimp only [List.set]
  refine V.iload C dX10_digest_44 rfl ?_
  refine V.iconst C (v := nI 2) dX10_digest_46 (by decide) ?_
  refine V.icmp_ge C (tgt := 86) dX10_digest_47 (by decide) (fun c47 => ?_) (fun c47 => ?_)
  · exfalso; exact absurd c47 (by decide +kernel)
  refine V.iconst C (v := nI 0) dX10_digest_50 (by decide) ?_
  refine V.istore C dX10_digest_51 (by decide) rfl ?_
  dsimp only [List.set]
  refine V.iload C dX10_digest_53 rfl ?_
  refine V.iconst C (v := nI 5) dX10_digest_55 (by decide) ?_
  refine V.icmp_ge C (tgt := 80) dX10_digest_56 (by decide) (fun c56 => ?_) (fun c56 => ?_)
  · exfalso; exact absurd c56 (by decide +kernel)
  refine V.lload_n C dX10_digest_59 rfl ?_
  refine V.aload_n C dX10_digest_60 rfl ?_
  refine V.iload_n C dX10_digest_61 rfl ?_
  refine V.iload C dX10_digest_62 rfl ?_
  refine V.iload C dX10_digest_64 rfl ?_
  refine V.zVix C ZE (X := []) (cz_X10_ofCellNow_10) (by first | rfl | exact (List.append_nil _).symm) gz_X10_162 (n := 3) ⟨rfl, by decide, by decide, by decide +kernel⟩ rfl (q0 := 0) rfl rfl rfl ⟨Nat.le_of_ble_eq_true rfl, Nat.le_of_ble_eq_true rfl⟩ ⟨Nat.le_of_ble_eq_true rfl, Nat.le_of_ble_eq_true rfl⟩ (Nat.le_of_ble_eq_true rfl) rfl dX10_digest_66 ?_
  refine V.i2l C dX10_digest_69 ?_
  refine V.topl (y := 0) (by decide +kernel) ?_
  refine V.zSin C ZE (cz_X10_add) gz_X10_290 (n := 2) ⟨by decide, by decide, by decide +kernel⟩ rfl rfl ⟨Nat.le_of_ble_eq_true rfl, Nat.le_of_ble_eq_true rfl⟩ ⟨Nat.le_of_ble_eq_true rfl, Nat.le_of_ble_eq_true rfl⟩ (Nat.le_of_ble_eq_true rfl) rfl dX10_digest_70 ?_
  refine V.topl (y := 3722163130033429182) (by decide +kernel) ?_
  refine V.lstore_n C dX10_digest_73 (by decide) rfl ?_
  dsimp only [List.set, Fin.val]
  refine V.iinc C (v := nI 1) dX10_digest_74 rfl (by decide +kernel) (by decide) rfl ?_
  dsimp only [List.set]
  refine V.goto C (tgt := 53) dX10_digest_77 (by decide) ?_
  refine V.iload C dX10_digest_53 rfl ?_
  refine V.iconst C (v := nI 5) dX10_digest_55 (by decide) ?_
  refine V.icmp_ge C (tgt := 80) dX10_digest_56 (by decide) (fun c56 => ?_) (fun c56 => ?_)
  · exfalso; exact absurd c56 (by decide +kernel)
  refine V.lload_n C dX10_digest_59 rfl ?_
  refine V.aload_n C dX10_digest_60 rfl ?_
  refine V.iload_n C dX10_digest_61 rfl ?_
  refine V.iload C dX10_digest_62 rfl ?_
  refine V.iload C dX10_digest_64 rfl ?_
  refine V.zVix C ZE (X := []) (cz_X10_ofCellNow_10) (by first | rfl | exact (List.append_nil _).symm) gz_X10_162 (n := 3) ⟨rfl, by decide, by decide, by decide +kernel⟩ rfl (q0 := 0) rfl rfl rfl ⟨Nat.le_of_ble_eq_true rfl, Nat.le_of_ble_eq_true rfl⟩ ⟨Nat.le_of_ble_eq_true rfl, Nat.le_of_ble_eq_true rfl⟩ (Nat.le_of_ble_eq_true rfl) rfl dX10_digest_66 ?_
  refine V.i2l C dX10_digest_69 ?_
  refine V.topl (y := 0) (by decide +kernel) ?_
  refine V.zSin C ZE (cz_X10_add) gz_X10_290 (n := 2) ⟨by decide, by decide, by decide +kernel⟩ rfl rfl ⟨Nat.le_of_ble_eq_true rfl, Nat.le_of_ble_eq_true rfl⟩ ⟨Nat.le_of_ble_eq_true rfl, Nat.le_of_ble_eq_true rfl⟩ (Nat.le_of_ble_eq_true rfl) rfl dX10_digest_70 ?_
  refine V.topl (y := 4706592588778994946) (by decide +kernel) ?_
  refine V.lstore_n C dX10_digest_73 (by decide) rfl ?_
  dsimp only [List.set, Fin.val]
  refine V.iinc C (v := nI 2) dX10_digest_74 rfl (by decide +kernel) (by decide) rfl ?_
  dsimp only [List.set]
  refine V.goto C (tgt := 53) dX10_digest_77 (by decide) ?_
  refine V.iload C dX10_digest_53 rfl ?_
  refine V.iconst C (v := nI 5) dX10_digest_55 (by decide) ?_
  refine V.icmp_ge C (tgt := 80) dX10_digest_56 (by decide) (fun c56 => ?_) (fun c56 => ?_)
  · exfalso; exact absurd c56 (by decide +kernel)
  refine V.lload_n C dX10_digest_59 rfl ?_
  refine V.aload_n C dX10_digest_60 rfl ?_
  refine V.iload_n C dX10_digest_61 rfl ?_
  refine V.iload C dX10_digest_62 rfl ?_
  refine V.iload C dX10_digest_64 rfl ?_
  refine V.zVix C ZE (X := []) (cz_X10_ofCellNow_10) (by first | rfl | exact (List.append_nil _).symm) gz_X10_162 (n := 3) ⟨rfl, by decide, by decide, by decide +kernel⟩ rfl (q0 := 0) rfl rfl rfl ⟨Nat.le_of_ble_eq_true rfl, Nat.le_of_ble_eq_true rfl⟩ ⟨Nat.le_of_ble_eq_true rfl, Nat.le_of_ble_eq_true rfl⟩ (Nat.le_of_ble_eq_true rfl) rfl dX10_digest_66 ?_
  refine V.i2l C dX10_digest_69 ?_
  refine V.topl (y := 0) (by decide +kernel) ?_
  refine V.zSin C ZE (cz_X10_add) gz_X10_290 (n := 2) ⟨by decide, by decide, by decide +kernel⟩ rfl rfl ⟨Nat.le_of_ble_eq_true rfl, Nat.le_of_ble_eq_true rfl⟩ ⟨Nat.le_of_ble_eq_true rfl, Nat.le_of_ble_eq_true rfl⟩ (Nat.le_of_ble_eq_true rfl) rfl dX10_digest_70 ?_
  refine V.topl (y := -1669582337527569602) (by decide +kernel) ?_
  refine V.lstore_n C dX10_digest_73 (by decide) rfl ?_
  dsimp only [List.set, Fin.val]
  refine V.iinc C (v := nI 3) dX10_digest_74 rfl (by decide +kernel) (by decide) rfl ?_
  dsimp only [List.set]
  refine V.goto C (tgt := 53) dX10_digest_77 (by decide) ?_
  refine V.iload C dX10_digest_53 rfl ?_
  refine V.iconst C (v := nI 5) dX10_digest_55 (by decide) ?_
  refine V.icmp_ge C (tgt := 80) dX10_digest_56 (by decide) (fun c56 => ?_) (fun c56 => ?_)
  · exfalso; exact absurd c56 (by decide +kernel)
  refine V.lload_n C dX10_digest_59 rfl ?_
  refine V.aload_n C dX10_digest_60 rfl ?_
  refine V.iload_n C dX10_digest_61 rfl ?_
  refine V.iload C dX10_digest_62 rfl ?_
  refine V.iload C dX10_digest_64 rfl ?_
  refine V.zVix C ZE (X := []) (cz_X10_ofCellNow_10) (by first | rfl | exact (List.append_nil _).symm) gz_X10_162 (n := 3) ⟨rfl, by decide, by decide, by decide +kernel⟩ rfl (q0 := 0) rfl rfl rfl ⟨Nat.le_of_ble_eq_true rfl, Nat.le_of_ble_eq_true rfl⟩ ⟨Nat.le_of_ble_eq_true rfl, Nat.le_of_ble_eq_true rfl⟩ (Nat.le_of_ble_eq_true rfl) rfl dX10_digest_66 ?_
  refine V.i2l C dX10_digest_69 ?_
  refine V.topl (y := 0) (by decide +kernel) ?_
  refine V.zSin C ZE (cz_X10_add) gz_X10_290 (n := 2) ⟨by decide, by decide, by decide +kernel⟩ rfl rfl ⟨Nat.le_of_ble_eq_true rfl, Nat.le_of_ble_eq_true rfl⟩ ⟨Nat.le_of_ble_eq_true rfl, Nat.le_of_ble_eq_true rfl⟩ (Nat.le_of_ble_eq_true rfl) rfl dX10_digest_70 ?_
  refine V.topl (y := 3583179757773997186) (by decide +kernel) ?_
  refine V.lstore_n C dX10_digest_73 (by decide) rfl ?_
  dsimp only [List.set, Fin.val]
  refine V.iinc C (v := nI 4) dX10_digest_74 rfl (by decide +kernel) (by decide) rfl ?_
  dsimp only [List.set]
  refine V.goto C (tgt := 53) dX10_digest_77 (by decide) ?_
  refine V.iload C dX10_digest_53 rfl ?_
  refine V.iconst C (v := nI 5) dX10_digest_55 (by decide) ?_
  refine V.icmp_ge C (tgt := 80) dX10_digest_56 (by decide) (fun c56 => ?_) (fun c56 => ?_)
  · exfalso; exact absurd c56 (by decide +kernel)
  refine V.lload_n C dX10_digest_59 rfl ?_
  refine V.aload_n C dX10_digest_60 rfl ?_
  refine V.iload_n C dX10_digest_61 rfl ?_
  refine V.iload C dX10_digest_62 rfl ?_
  refine V.iload C dX10_digest_64 rfl ?_
  refine V.zVix C ZE (X := []) (cz_X10_ofCellNow_10) (by first | rfl | exact (List.append_nil _).symm) gz_X10_162 (n := 3) ⟨rfl, by decide, by decide, by decide +kernel⟩ rfl (q0 := 0) rfl rfl rfl ⟨Nat.le_of_ble_eq_true rfl, Nat.le_of_ble_eq_true rfl⟩ ⟨Nat.le_of_ble_eq_true rfl, Nat.le_of_ble_eq_true rfl⟩ (Nat.le_of_ble_eq_true rfl) rfl dX10_digest_66 ?_
  refine V.i2l C dX10_digest_69 ?_
  refine V.topl (y := 0) (by decide +kernel) ?_
  refine V.zSin C ZE (cz_X10_add) gz_X10_290 (n := 2) ⟨by decide, by decide, by decide +kernel⟩ rfl rfl ⟨Nat.le_of_ble_eq_true rfl, Nat.le_of_ble_eq_true rfl⟩ ⟨Nat.le_of_ble_eq_true rfl, Nat.le_of_ble_eq_true rfl⟩ (Nat.le_of_ble_eq_true rfl) rfl dX10_digest_70 ?_
  refine V.topl (y := 398108048736603070) (by decide +kernel) ?_
  refine V.lstore_n C dX10_digest_73 (by decide) rfl ?_
  dsimp only [List.set, Fin.val]
  refine V.iinc C (v := nI 5) dX10_digest_74 rfl (by decide +kernel) (by decide) rfl ?_
  dsimp only [List.set]
  refine V.goto C (tgt := 53) dX10_digest_77 (by decide) ?_
  refine V.iload C dX10_digest_53 rfl ?_
  refine V.iconst C (v := nI 5) dX10_digest_55 (by decide) ?_
  refine V.icmp_ge C (tgt := 80) dX10_digest_56 (by decide) (fun c56 => ?_) (fun c56 => ?_)
  rotate_left
  · exfalso; exact absurd c56 (by decide +kernel)
  refine V.iinc C (v := nI 1) dX10_digest_80 rfl (by decide +kernel) (by decide) rfl ?_
  dsimp only [List.set]
  refine V.goto C (tgt := 44) dX10_digest_83 (by decide) ?_
  refine V.iload C dX10_digest_44 rfl ?_
  refine V.iconst C (v := nI 2) dX10_digest_46 (by decide) ?_
  refine V.icmp_ge C (tgt := 86) dX10_digest_47 (by decide) (fun c47 => ?_) (fun c47 => ?_)
  · exfalso; exact absurd c47 (by decide +kernel)
  refine V.iconst C (v := nI 0) dX10_digest_50 (by decide) ?_
  refine V.istore C dX10_digest_51 (by decide) rfl ?_
  dsimp only [List.set]
  refine V.iload C dX10_digest_53 rfl ?_
  refine V.iconst C (v := nI 5) dX10_digest_55 (by decide) ?_
  refine V.icmp_ge C (tgt := 80) dX10_digest_56 (by decide) (fun c56 => ?_) (fun c56 => ?_)
  · exfalso; exact absurd c56 (by decide +kernel)
  refine V.lload_n C dX10_digest_59 rfl ?_
  refine V.aload_n C dX10_digest_60 rfl ?_
  refine V.iload_n C dX10_digest_61 rfl ?_
  refine V.iload C dX10_digest_62 rfl ?_
  refine V.iload C dX10_digest_64 rfl ?_
  refine V.zVix C ZE (X := []) (cz_X10_ofCellNow_11) (by first | rfl | exact (List.append_nil _).symm) gz_X10_162 (n := 3) ⟨rfl, by decide, by decide, by decide +kernel⟩ rfl (q0 := 0) rfl rfl rfl ⟨Nat.le_of_ble_eq_true rfl, Nat.le_of_ble_eq_true rfl⟩ ⟨Nat.le_of_ble_eq_true rfl, Nat.le_of_ble_eq_true rfl⟩ (Nat.le_of_ble_eq_true rfl) rfl dX10_digest_66 ?_
  refine V.i2l C dX10_digest_69 ?_
  refine V.topl (y := 0) (by decide +kernel) ?_
  refine V.zSin C ZE (cz_X10_add) gz_X10_290 (n := 2) ⟨by decide, by decide, by decide +kernel⟩ rfl rfl ⟨Nat.le_of_ble_eq_true rfl, Nat.le_of_ble_eq_true rfl⟩ ⟨Nat.le_of_ble_eq_true rfl, Nat.le_of_ble_eq_true rfl⟩ (Nat.le_of_ble_eq_true rfl) rfl dX10_digest_70 ?_
  refine V.topl (y := -6105394562874856446) (by decide +kernel) ?_
  refine V.lstore_n C dX10_digest_73 (by decide) rfl ?_
  dsimp only [List.set, Fin.val]
  refine V.iinc C (v := nI 1) dX10_digest_74 rfl (by decide +kernel) (by decide) rfl ?_
  dsimp only [List.set]
  refine V.goto C (tgt := 53) dX10_digest_77 (by decide) ?_
  refine V.iload C dX10_digest_53 rfl ?_
  refine V.iconst C (v := nI 5) dX10_digest_55 (by decide) ?_
  refine V.icmp_ge C (tgt := 80) dX10_digest_56 (by decide) (fun c56 => ?_) (fun c56 => ?_)
  · exfalso; exact absurd c56 (by decide +kernel)
  refine V.lload_n C dX10_digest_59 rfl ?_
  refine V.aload_n C dX10_digest_60 rfl ?_
  refine V.iload_n C dX10_digest_61 rfl ?_
  refine V.iload C dX10_digest_62 rfl ?_
  refine V.iload C dX10_digest_64 rfl ?_
  refine V.zVix C ZE (X := []) (cz_X10_ofCellNow_11) (by first | rfl | exact (List.append_nil _).symm) gz_X10_162 (n := 3) ⟨rfl, by decide, by decide, by decide +kernel⟩ rfl (q0 := 0) rfl rfl rfl ⟨Nat.le_of_ble_eq_true rfl, Nat.le_of_ble_eq_true rfl⟩ ⟨Nat.le_of_ble_eq_true rfl, Nat.le_of_ble_eq_true rfl⟩ (Nat.le_of_ble_eq_true rfl) rfl dX10_digest_66 ?_
  refine V.i2l C dX10_digest_69 ?_
  refine V.topl (y := 0) (by decide +kernel) ?_
  refine V.zSin C ZE (cz_X10_add) gz_X10_290 (n := 2) ⟨by decide, by decide, by decide +kernel⟩ rfl rfl ⟨Nat.le_of_ble_eq_true rfl, Nat.le_of_ble_eq_true rfl⟩ ⟨Nat.le_of_ble_eq_true rfl, Nat.le_of_ble_eq_true rfl⟩ (Nat.le_of_ble_eq_true rfl) rfl dX10_digest_70 ?_
  refine V.topl (y := -4799790712025033666) (by decide +kernel) ?_
  refine V.lstore_n C dX10_digest_73 (by decide) rfl ?_
  dsimp only [List.set, Fin.val]
  refine V.iinc C (v := nI 2) dX10_digest_74 rfl (by decide +kernel) (by decide) rfl ?_
  dsimp only [List.set]
  refine V.goto C (tgt := 53) dX10_digest_77 (by decide) ?_
  refine V.iload C dX10_digest_53 rfl ?_
  refine V.iconst C (v := nI 5) dX10_digest_55 (by decide) ?_
  refine V.icmp_ge C (tgt := 80) dX10_digest_56 (by decide) (fun c56 => ?_) (fun c56 => ?_)
  · exfalso; exact absurd c56 (by decide +kernel)
  refine V.lload_n C dX10_digest_59 rfl ?_
  refine V.aload_n C dX10_digest_60 rfl ?_
  refine V.iload_n C dX10_digest_61 rfl ?_
  refine V.iload C dX10_digest_62 rfl ?_
  refine V.iload C dX10_digest_64 rfl ?_
  refine V.zVix C ZE (X := []) (cz_X10_ofCellNow_11) (by first | rfl | exact (List.append_nil _).symm) gz_X10_162 (n := 3) ⟨rfl, by decide, by decide, by decide +kernel⟩ rfl (q0 := 0) rfl rfl rfl ⟨Nat.le_of_ble_eq_true rfl, Nat.le_of_ble_eq_true rfl⟩ ⟨Nat.le_of_ble_eq_true rfl, Nat.le_of_ble_eq_true rfl⟩ (Nat.le_of_ble_eq_true rfl) rfl dX10_digest_66 ?_
  refine V.i2l C dX10_digest_69 ?_
  refine V.topl (y := 0) (by decide +kernel) ?_
  refine V.zSin C ZE (cz_X10_add) gz_X10_290 (n := 2) ⟨by decide, by decide, by decide +kernel⟩ rfl rfl ⟨Nat.le_of_ble_eq_true rfl, Nat.le_of_ble_eq_true rfl⟩ ⟨Nat.le_of_ble_eq_true rfl, Nat.le_of_ble_eq_true rfl⟩ (Nat.le_of_ble_eq_true rfl) rfl dX10_digest_70 ?_
  refine V.topl (y := -1219559483099630718) (by decide +kernel) ?_
  refine V.lstore_n C dX10_digest_73 (by decide) rfl ?_
  dsimp only [List.set, Fin.val]
  refine V.iinc C (v := nI 3) dX10_digest_74 rfl (by decide +kernel) (by decide) rfl ?_
  dsimp only [List.set]
  refine V.goto C (tgt := 53) dX10_digest_77 (by decide) ?_
  refine V.iload C dX10_digest_53 rfl ?_
  refine V.iconst C (v := nI 5) dX10_digest_55 (by decide) ?_
  refine V.icmp_ge C (tgt := 80) dX10_digest_56 (by decide) (fun c56 => ?_) (fun c56 => ?_)
  · exfalso; exact absurd c56 (by decide +kernel)
  refine V.lload_n C dX10_digest_59 rfl ?_
  refine V.aload_n C dX10_digest_60 rfl ?_
  refine V.iload_n C dX10_digest_61 rfl ?_
  refine V.iload C dX10_digest_62 rfl ?_
  refine V.iload C dX10_digest_64 rfl ?_
  refine V.zVix C ZE (X := []) (cz_X10_ofCellNow_11) (by first | rfl | exact (List.append_nil _).symm) gz_X10_162 (n := 3) ⟨rfl, by decide, by decide, by decide +kernel⟩ rfl (q0 := 0) rfl rfl rfl ⟨Nat.le_of_ble_eq_true rfl, Nat.le_of_ble_eq_true rfl⟩ ⟨Nat.le_of_ble_eq_true rfl, Nat.le_of_ble_eq_true rfl⟩ (Nat.le_of_ble_eq_true rfl) rfl dX10_digest_66 ?_
  refine V.i2l C dX10_digest_69 ?_
  refine V.topl (y := 0) (by decide +kernel) ?_
  refine V.zSin C ZE (cz_X10_add) gz_X10_290 (n := 2) ⟨by decide, by decide, by decide +kernel⟩ rfl rfl ⟨Nat.le_of_ble_eq_true rfl, Nat.le_of_ble_eq_true rfl⟩ ⟨Nat.le_of_ble_eq_true rfl, Nat.le_of_ble_eq_true rfl⟩ (Nat.le_of_ble_eq_true rfl) rfl dX10_digest_70 ?_
  refine V.topl (y := -912855828669449026) (by decide +kernel) ?_
  refine V.lstore_n C dX10_digest_73 (by decide) rfl ?_
  dsimp only [List.set, Fin.val]
  refine V.iinc C (v := nI 4) dX10_digest_74 rfl (by decide +kernel) (by decide) rfl ?_
  dsimp only [List.set]
  refine V.goto C (tgt := 53) dX10_digest_77 (by decide) ?_
  refine V.iload C dX10_digest_53 rfl ?_
  refine V.iconst C (v := nI 5) dX10_digest_55 (by decide) ?_
  refine V.icmp_ge C (tgt := 80) dX10_digest_56 (by decide) (fun c56 => ?_) (fun c56 => ?_)
  · exfalso; exact absurd c56 (by decide +kernel)
  refine V.lload_n C dX10_digest_59 rfl ?_
  refine V.aload_n C dX10_digest_60 rfl ?_
  refine V.iload_n C dX10_digest_61 rfl ?_
  refine V.iload C dX10_digest_62 rfl ?_
  refine V.iload C dX10_digest_64 rfl ?_
  refine V.zVix C ZE (X := []) (cz_X10_ofCellNow_11) (by first | rfl | exact (List.append_nil _).symm) gz_X10_162 (n := 3) ⟨rfl, by decide, by decide, by decide +kernel⟩ rfl (q0 := 0) rfl rfl rfl ⟨Nat.le_of_ble_eq_true rfl, Nat.le_of_ble_eq_true rfl⟩ ⟨Nat.le_of_ble_eq_true rfl, Nat.le_of_ble_eq_true rfl⟩ (Nat.le_of_ble_eq_true rfl) rfl dX10_digest_66 ?_
  refine V.i2l C dX10_digest_69 ?_
  refine V.topl (y := 0) (by decide +kernel) ?_
  refine V.zSin C ZE (cz_X10_add) gz_X10_290 (n := 2) ⟨by decide, by decide, by decide +kernel⟩ rfl rfl ⟨Nat.le_of_ble_eq_true rfl, Nat.le_of_ble_eq_true rfl⟩ ⟨Nat.le_of_ble_eq_true rfl, Nat.le_of_ble_eq_true rfl⟩ (Nat.le_of_ble_eq_true rfl) rfl dX10_digest_70 ?_
  refine V.topl (y := 8594957458666183426) (by decide +kernel) ?_
  refine V.lstore_n C dX10_digest_73 (by decide) rfl ?_
  dsimp only [List.set, Fin.val]
  refine V.iinc C (v := nI 5) dX10_digest_74 rfl (by decide +kernel) (by decide) rfl ?_
  dsimp only [List.set]
  refine V.goto C (tgt := 53) dX10_digest_77 (by decide) ?_
  refine V.iload C dX10_digest_53 rfl ?_
  refine V.iconst C (v := nI 5) dX10_digest_55 (by decide) ?_
  refine V.icmp_ge C (tgt := 80) dX10_digest_56 (by decide) (fun c56 => ?_) (fun c56 => ?_)
  rotate_left
  · exfalso; exact absurd c56 (by decide +kernel)
  refine V.iinc C (v := nI 2) dX10_digest_80 rfl (by decide +kernel) (by decide) rfl ?_
  dsimp only [List.set]
  refine V.goto C (tgt := 44) dX10_digest_83 (by decide) ?_
  refine V.iload C dX10_digest_44 rfl ?_
  refine V.iconst C (v := nI 2) dX10_digest_46 (by decide) ?_
  refine V.icmp_ge C (tgt := 86) dX10_digest_47 (by decide) (fun c47 => ?_) (fun c47 => ?_)
  rotate_left
  · exfalso; exact absurd c47 (by decide +kernel)
  refine V.iinc C (v := nI 2) dX10_digest_86 rfl (by decide +kernel) (by decide) rfl ?_
  dsimp only [List.set]
  refine V.goto C (tgt := 36) dX10_digest_89 (by decide) ?_
  refine V.iload_n C dX10_digest_36 rfl ?_
  refine V.iconst C (v := nI 3) dX10_digest_37 (by decide) ?_
  refine V.icmp_ge C (tgt := 92) dX10_digest_38 (by decide) (fun c38 => ?_) (fun c38 => ?_)
  · exfalso; exact absurd c38 (by decide +kernel)
  refine V.iconst C (v := nI 0) dX10_digest_41 (by decide) ?_
  refine V.istore C dX10_digest_42 (by decide) rfl ?_
  dsimp only [List.set]
  refine V.iload C dX10_digest_44 rfl ?_
  refine V.iconst C (v := nI 2) dX10_digest_46 (by decide) ?_
  refine V.icmp_ge C (tgt := 86) dX10_digest_47 (by decide) (fun c47 => ?_) (fun c47 => ?_)
  · exfalso; exact absurd c47 (by decide +kernel)
  refine V.iconst C (v := nI 0) dX10_digest_50 (by decide) ?_
  refine V.istore C dX10_digest_51 (by decide) rfl ?_
  dsimp only [List.set]
  refine V.iload C dX10_digest_53 rfl ?_
  refine V.iconst C (v := nI 5) dX10_digest_55 (by decide) ?_
  refine V.icmp_ge C (tgt := 80) dX10_digest_56 (by decide) (fun c56 => ?_) (fun c56 => ?_)
  · exfalso; exact absurd c56 (by decide +kernel)
  refine V.lload_n C dX10_digest_59 rfl ?_
  refine V.aload_n C dX10_digest_60 rfl ?_
  refine V.iload_n C dX10_digest_61 rfl ?_
  refine V.iload C dX10_digest_62 rfl ?_
  refine V.iload C dX10_digest_64 rfl ?_
  refine V.zVix C ZE (X := []) (cz_X10_ofCellNow_20) (by first | rfl | exact (List.append_nil _).symm) gz_X10_162 (n := 3) ⟨rfl, by decide, by decide, by decide +kernel⟩ rfl (q0 := 0) rfl rfl rfl ⟨Nat.le_of_ble_eq_true rfl, Nat.le_of_ble_eq_true rfl⟩ ⟨Nat.le_of_ble_eq_true rfl, Nat.le_of_ble_eq_true rfl⟩ (Nat.le_of_ble_eq_true rfl) rfl dX10_digest_66 ?_
  refine V.i2l C dX10_digest_69 ?_
  refine V.topl (y := 0) (by decide +kernel) ?_
  refine V.zSin C ZE (cz_X10_add) gz_X10_290 (n := 2) ⟨by decide, by decide, by decide +kernel⟩ rfl rfl ⟨Nat.le_of_ble_eq_true rfl, Nat.le_of_ble_eq_true rfl⟩ ⟨Nat.le_of_ble_eq_true rfl, Nat.le_of_ble_eq_true rfl⟩ (Nat.le_of_ble_eq_true rfl) rfl dX10_digest_70 ?_
  refine V.topl (y := 8189264186717963582) (by decide +kernel) ?_
  refine V.lstore_n C dX10_digest_73 (by decide) rfl ?_
  dsimp only [List.set, Fin.val]
  refine V.iinc C (v := nI 1) dX10_digest_74 rfl (by decide +kernel) (by decide) rfl ?_
  dsimp only [List.set]
  refine V.goto C (tgt := 53) dX10_digest_77 (by decide) ?_
  refine V.iload C dX10_digest_53 rfl ?_
  refine V.iconst C (v := nI 5) dX10_digest_55 (by decide) ?_
  refine V.icmp_ge C (tgt := 80) dX10_digest_56 (by decide) (fun c56 => ?_) (fun c56 => ?_)
  · exfalso; exact absurd c56 (by decide +kernel)
  refine V.lload_n C dX10_digest_59 rfl ?_
  refine V.aload_n C dX10_digest_60 rfl ?_
  refine V.iload_n C dX10_digest_61 rfl ?_
  refine V.iload C dX10_digest_62 rfl ?_
  refine V.iload C dX10_digest_64 rfl ?_
  refine V.zVix C ZE (X := []) (cz_X10_ofCellNow_20) (by first | rfl | exact (List.append_nil _).symm) gz_X10_162 (n := 3) ⟨rfl, by decide, by decide, by decide +kernel⟩ rfl (q0 := 0) rfl rfl rfl ⟨Nat.le_of_ble_eq_true rfl, Nat.le_of_ble_eq_true rfl⟩ ⟨Nat.le_of_ble_eq_true rfl, Nat.le_of_ble_eq_true rfl⟩ (Nat.le_of_ble_eq_true rfl) rfl dX10_digest_66 ?_
  refine V.i2l C dX10_digest_69 ?_
  refine V.topl (y := 0) (by decide +kernel) ?_
  refine V.zSin C ZE (cz_X10_add) gz_X10_290 (n := 2) ⟨by decide, by decide, by decide +kernel⟩ rfl rfl ⟨Nat.le_of_ble_eq_true rfl, Nat.le_of_ble_eq_true rfl⟩ ⟨Nat.le_of_ble_eq_true rfl, Nat.le_of_ble_eq_true rfl⟩ (Nat.le_of_ble_eq_true rfl) rfl dX10_digest_70 ?_
  refine V.topl (y := -4387227243676851582) (by decide +kernel) ?_
  refine V.lstore_n C dX10_digest_73 (by decide) rfl ?_
  dsimp only [List.set, Fin.val]
  refine V.iinc C (v := nI 2) dX10_digest_74 rfl (by decide +kernel) (by decide) rfl ?_
  dsimp only [List.set]
  refine V.goto C (tgt := 53) dX10_digest_77 (by decide) ?_
  refine V.iload C dX10_digest_53 rfl ?_
  refine V.iconst C (v := nI 5) dX10_digest_55 (by decide) ?_
  refine V.icmp_ge C (tgt := 80) dX10_digest_56 (by decide) (fun c56 => ?_) (fun c56 => ?_)
  · exfalso; exact absurd c56 (by decide +kernel)
  refine V.lload_n C dX10_digest_59 rfl ?_
  refine V.aload_n C dX10_digest_60 rfl ?_
  refine V.iload_n C dX10_digest_61 rfl ?_
  refine V.iload C dX10_digest_62 rfl ?_
  refine V.iload C dX10_digest_64 rfl ?_
  refine V.zVix C ZE (X := []) (cz_X10_ofCellNow_20) (by first | rfl | exact (List.append_nil _).symm) gz_X10_162 (n := 3) ⟨rfl, by decide, by decide, by decide +kernel⟩ rfl (q0 := 0) rfl rfl rfl ⟨Nat.le_of_ble_eq_true rfl, Nat.le_of_ble_eq_true rfl⟩ ⟨Nat.le_of_ble_eq_true rfl, Nat.le_of_ble_eq_true rfl⟩ (Nat.le_of_ble_eq_true rfl) rfl dX10_digest_66 ?_
  refine V.i2l C dX10_digest_69 ?_
  refine V.topl (y := 0) (by decide +kernel) ?_
  refine V.zSin C ZE (cz_X10_add) gz_X10_290 (n := 2) ⟨by decide, by decide, by decide +kernel⟩ rfl rfl ⟨Nat.le_of_ble_eq_true rfl, Nat.le_of_ble_eq_true rfl⟩ ⟨Nat.le_of_ble_eq_true rfl, Nat.le_of_ble_eq_true rfl⟩ (Nat.le_of_ble_eq_true rfl) rfl dX10_digest_70 ?_
  refine V.topl (y := -6876836038015537730) (by decide +kernel) ?_
  refine V.lstore_n C dX10_digest_73 (by decide) rfl ?_
  dsimp only [List.set, Fin.val]
  refine V.iinc C (v := nI 3) dX10_digest_74 rfl (by decide +kernel) (by decide) rfl ?_
  dsimp only [List.set]
  refine V.goto C (tgt := 53) dX10_digest_77 (by decide) ?_
  refine V.iload C dX10_digest_53 rfl ?_
  refine V.iconst C (v := nI 5) dX10_digest_55 (by decide) ?_
  refine V.icmp_ge C (tgt := 80) dX10_digest_56 (by decide) (fun c56 => ?_) (fun c56 => ?_)
  · exfalso; exact absurd c56 (by decide +kernel)
  refine V.lload_n C dX10_digest_59 rfl ?_
  refine V.aload_n C dX10_digest_60 rfl ?_
  refine V.iload_n C dX10_digest_61 rfl ?_
  refine V.iload C dX10_digest_62 rfl ?_
  refine V.iload C dX10_digest_64 rfl ?_
  refine V.zVix C ZE (X := []) (cz_X10_ofCellNow_20) (by first | rfl | exact (List.append_nil _).symm) gz_X10_162 (n := 3) ⟨rfl, by decide, by decide, by decide +kernel⟩ rfl (q0 := 0) rfl rfl rfl ⟨Nat.le_of_ble_eq_true rfl, Nat.le_of_ble_eq_true rfl⟩ ⟨Nat.le_of_ble_eq_true rfl, Nat.le_of_ble_eq_true rfl⟩ (Nat.le_of_ble_eq_true rfl) rfl dX10_digest_66 ?_
  refine V.i2l C dX10_digest_69 ?_
  refine V.topl (y := 0) (by decide +kernel) ?_
  refine V.zSin C ZE (cz_X10_add) gz_X10_290 (n := 2) ⟨by decide, by decide, by decide +kernel⟩ rfl rfl ⟨Nat.le_of_ble_eq_true rfl, Nat.le_of_ble_eq_true rfl⟩ ⟨Nat.le_of_ble_eq_true rfl, Nat.le_of_ble_eq_true rfl⟩ (Nat.le_of_ble_eq_true rfl) rfl dX10_digest_70 ?_
  refine V.topl (y := 8179011706032949762) (by decide +kernel) ?_
  refine V.lstore_n C dX10_digest_73 (by decide) rfl ?_
  dsimp only [List.set, Fin.val]
  refine V.iinc C (v := nI 4) dX10_digest_74 rfl (by decide +kernel) (by decide) rfl ?_
  dsimp only [List.set]
  refine V.goto C (tgt := 53) dX10_digest_77 (by decide) ?_
  refine V.iload C dX10_digest_53 rfl ?_
  refine V.iconst C (v := nI 5) dX10_digest_55 (by decide) ?_
  refine V.icmp_ge C (tgt := 80) dX10_digest_56 (by decide) (fun c56 => ?_) (fun c56 => ?_)
  · exfalso; exact absurd c56 (by decide +kernel)
  refine V.lload_n C dX10_digest_59 rfl ?_
  refine V.aload_n C dX10_digest_60 rfl ?_
  refine V.iload_n C dX10_digest_61 rfl ?_
  refine V.iload C dX10_digest_62 rfl ?_
  refine V.iload C dX10_digest_64 rfl ?_
  refine V.zVix C ZE (X := []) (cz_X10_ofCellNow_20) (by first | rfl | exact (List.append_nil _).symm) gz_X10_162 (n := 3) ⟨rfl, by decide, by decide, by decide +kernel⟩ rfl (q0 := 0) rfl rfl rfl ⟨Nat.le_of_ble_eq_true rfl, Nat.le_of_ble_eq_true rfl⟩ ⟨Nat.le_of_ble_eq_true rfl, Nat.le_of_ble_eq_true rfl⟩ (Nat.le_of_ble_eq_true rfl) rfl dX10_digest_66 ?_
  refine V.i2l C dX10_digest_69 ?_
  refine V.topl (y := 0) (by decide +kernel) ?_
  refine V.zSin C ZE (cz_X10_add) gz_X10_290 (n := 2) ⟨by decide, by decide, by decide +kernel⟩ rfl rfl ⟨Nat.le_of_ble_eq_true rfl, Nat.le_of_ble_eq_true rfl⟩ ⟨Nat.le_of_ble_eq_true rfl, Nat.le_of_ble_eq_true rfl⟩ (Nat.le_of_ble_eq_true rfl) rfl dX10_digest_70 ?_
  refine V.topl (y := -4705054144912280002) (by decide +kernel) ?_
  refine V.lstore_n C dX10_digest_73 (by decide) rfl ?_
  dsimp only [List.set, Fin.val]
  refine V.iinc C (v := nI 5) dX10_digest_74 rfl (by decide +kernel) (by decide) rfl ?_
  dsimp only [List.set]
  refine V.goto C (tgt := 53) dX10_digest_77 (by decide) ?_
  refine V.iload C dX10_digest_53 rfl ?_
  refine V.iconst C (v := nI 5) dX10_digest_55 (by decide) ?_
  refine V.icmp_ge C (tgt := 80) dX10_digest_56 (by decide) (fun c56 => ?_) (fun c56 => ?_)
  rotate_left
  · exfalso; exact absurd c56 (by decide +kernel)
  refine V.iinc C (v := nI 1) dX10_digest_80 rfl (by decide +kernel) (by decide) rfl ?_
  dsimp only [List.set]
  refine V.goto C (tgt := 44) dX10_digest_83 (by decide) ?_
  refine V.iload C dX10_digest_44 rfl ?_
  refine V.iconst C (v := nI 2) dX10_digest_46 (by decide) ?_
  refine V.icmp_ge C (tgt := 86) dX10_digest_47 (by decide) (fun c47 => ?_) (fun c47 => ?_)
  · exfalso; exact absurd c47 (by decide +kernel)
  refine V.iconst C (v := nI 0) dX10_digest_50 (by decide) ?_
  refine V.istore C dX10_digest_51 (by decide) rfl ?_
  dsimp only [List.set]
  refine V.iload C dX10_digest_53 rfl ?_
  refine V.iconst C (v := nI 5) dX10_digest_55 (by decide) ?_
  refine V.icmp_ge C (tgt := 80) dX10_digest_56 (by decide) (fun c56 => ?_) (fun c56 => ?_)
  · exfalso; exact absurd c56 (by decide +kernel)
  refine V.lload_n C dX10_digest_59 rfl ?_
  refine V.aload_n C dX10_digest_60 rfl ?_
  refine V.iload_n C dX10_digest_61 rfl ?_
  refine V.iload C dX10_digest_62 rfl ?_
  refine V.iload C dX10_digest_64 rfl ?_
  refine V.zVix C ZE (X := []) (cz_X10_ofCellNow_21) (by first | rfl | exact (List.append_nil _).symm) gz_X10_162 (n := 3) ⟨rfl, by decide, by decide, by decide +kernel⟩ rfl (q0 := 0) rfl rfl rfl ⟨Nat.le_of_ble_eq_true rfl, Nat.le_of_ble_eq_true rfl⟩ ⟨Nat.le_of_ble_eq_true rfl, Nat.le_of_ble_eq_true rfl⟩ (Nat.le_of_ble_eq_true rfl) rfl dX10_digest_66 ?_
  refine V.i2l C dX10_digest_69 ?_
  refine V.topl (y := 0) (by decide +kernel) ?_
  refine V.zSin C ZE (cz_X10_add) gz_X10_290 (n := 2) ⟨by decide, by decide, by decide +kernel⟩ rfl rfl ⟨Nat.le_of_ble_eq_true rfl, Nat.le_of_ble_eq_true rfl⟩ ⟨Nat.le_of_ble_eq_true rfl, Nat.le_of_ble_eq_true rfl⟩ (Nat.le_of_ble_eq_true rfl) rfl dX10_digest_70 ?_
  refine V.topl (y := 1717274097395732866) (by decide +kernel) ?_
  refine V.lstore_n C dX10_digest_73 (by decide) rfl ?_
  dsimp only [List.set, Fin.val]
  refine V.iinc C (v := nI 1) dX10_digest_74 rfl (by decide +kernel) (by decide) rfl ?_
  dsimp only [List.set]
  refine V.goto C (tgt := 53) dX10_digest_77 (by decide) ?_
  refine V.iload C dX10_digest_53 rfl ?_
  refine V.iconst C (v := nI 5) dX10_digest_55 (by decide) ?_
  refine V.icmp_ge C (tgt := 80) dX10_digest_56 (by decide) (fun c56 => ?_) (fun c56 => ?_)
  · exfalso; exact absurd c56 (by decide +kernel)
  refine V.lload_n C dX10_digest_59 rfl ?_
  refine V.aload_n C dX10_digest_60 rfl ?_
  refine V.iload_n C dX10_digest_61 rfl ?_
  refine V.iload C dX10_digest_62 rfl ?_
  refine V.iload C dX10_digest_64 rfl ?_
  refine V.zVix C ZE (X := []) (cz_X10_ofCellNow_21) (by first | rfl | exact (List.append_nil _).symm) gz_X10_162 (n := 3) ⟨rfl, by decide, by decide, by decide +kernel⟩ rfl (q0 := 0) rfl rfl rfl ⟨Nat.le_of_ble_eq_true rfl, Nat.le_of_ble_eq_true rfl⟩ ⟨Nat.le_of_ble_eq_true rfl, Nat.le_of_ble_eq_true rfl⟩ (Nat.le_of_ble_eq_true rfl) rfl dX10_digest_66 ?_
  refine V.i2l C dX10_digest_69 ?_
  refine V.topl (y := 0) (by decide +kernel) ?_
  refine V.zSin C ZE (cz_X10_add) gz_X10_290 (n := 2) ⟨by decide, by decide, by decide +kernel⟩ rfl rfl ⟨Nat.le_of_ble_eq_true rfl, Nat.le_of_ble_eq_true rfl⟩ ⟨Nat.le_of_ble_eq_true rfl, Nat.le_of_ble_eq_true rfl⟩ (Nat.le_of_ble_eq_true rfl) rfl dX10_digest_70 ?_
  refine V.topl (y := -2104735201860936002) (by decide +kernel) ?_
  refine V.lstore_n C dX10_digest_73 (by decide) rfl ?_
  dsimp only [List.set, Fin.val]
  refine V.iinc C (v := nI 2) dX10_digest_74 rfl (by decide +kernel) (by decide) rfl ?_
  dsimp only [List.set]
  refine V.goto C (tgt := 53) dX10_digest_77 (by decide) ?_
  refine V.iload C dX10_digest_53 rfl ?_
  refine V.iconst C (v := nI 5) dX10_digest_55 (by decide) ?_
  refine V.icmp_ge C (tgt := 80) dX10_digest_56 (by decide) (fun c56 => ?_) (fun c56 => ?_)
  · exfalso; exact absurd c56 (by decide +kernel)
  refine V.lload_n C dX10_digest_59 rfl ?_
  refine V.aload_n C dX10_digest_60 rfl ?_
  refine V.iload_n C dX10_digest_61 rfl ?_
  refine V.iload C dX10_digest_62 rfl ?_
  refine V.iload C dX10_digest_64 rfl ?_
  refine V.zVix C ZE (X := []) (cz_X10_ofCellNow_21) (by first | rfl | exact (List.append_nil _).symm) gz_X10_162 (n := 3) ⟨rfl, by decide, by decide, by decide +kernel⟩ rfl (q0 := 0) rfl rfl rfl ⟨Nat.le_of_ble_eq_true rfl, Nat.le_of_ble_eq_true rfl⟩ ⟨Nat.le_of_ble_eq_true rfl, Nat.le_of_ble_eq_true rfl⟩ (Nat.le_of_ble_eq_true rfl) rfl dX10_digest_66 ?_
  refine V.i2l C dX10_digest_69 ?_
  refine V.topl (y := 0) (by decide +kernel) ?_
  refine V.zSin C ZE (cz_X10_add) gz_X10_290 (n := 2) ⟨by decide, by decide, by decide +kernel⟩ rfl rfl ⟨Nat.le_of_ble_eq_true rfl, Nat.le_of_ble_eq_true rfl⟩ ⟨Nat.le_of_ble_eq_true rfl, Nat.le_of_ble_eq_true rfl⟩ (Nat.le_of_ble_eq_true rfl) rfl dX10_digest_70 ?_
  refine V.topl (y := 8540185037149190402) (by decide +kernel) ?_
  refine V.lstore_n C dX10_digest_73 (by decide) rfl ?_
  dsimp only [List.set, Fin.val]
  refine V.iinc C (v := nI 3) dX10_digest_74 rfl (by decide +kernel) (by decide) rfl ?_
  dsimp only [List.set]
  refine V.goto C (tgt := 53) dX10_digest_77 (by decide) ?_
  refine V.iload C dX10_digest_53 rfl ?_
  refine V.iconst C (v := nI 5) dX10_digest_55 (by decide) ?_
  refine V.icmp_ge C (tgt := 80) dX10_digest_56 (by decide) (fun c56 => ?_) (fun c56 => ?_)
  · exfalso; exact absurd c56 (by decide +kernel)
  refine V.lload_n C dX10_digest_59 rfl ?_
  refine V.aload_n C dX10_digest_60 rfl ?_
  refine V.iload_n C dX10_digest_61 rfl ?_
  refine V.iload C dX10_digest_62 rfl ?_
  refine V.iload C dX10_digest_64 rfl ?_
  refine V.zVix C ZE (X := []) (cz_X10_ofCellNow_21) (by first | rfl | exact (List.append_nil _).symm) gz_X10_162 (n := 3) ⟨rfl, by decide, by decide, by decide +kernel⟩ rfl (q0 := 0) rfl rfl rfl ⟨Nat.le_of_ble_eq_true rfl, Nat.le_of_ble_eq_true rfl⟩ ⟨Nat.le_of_ble_eq_true rfl, Nat.le_of_ble_eq_true rfl⟩ (Nat.le_of_ble_eq_true rfl) rfl dX10_digest_66 ?_
  refine V.i2l C dX10_digest_69 ?_
  refine V.topl (y := 0) (by decide +kernel) ?_
  refine V.zSin C ZE (cz_X10_add) gz_X10_290 (n := 2) ⟨by decide, by decide, by decide +kernel⟩ rfl rfl ⟨Nat.le_of_ble_eq_true rfl, Nat.le_of_ble_eq_true rfl⟩ ⟨Nat.le_of_ble_eq_true rfl, Nat.le_of_ble_eq_true rfl⟩ (Nat.le_of_ble_eq_true rfl) rfl dX10_digest_70 ?_
  refine V.topl (y := 6491319119691179838) (by decide +kernel) ?_
  refine V.lstore_n C dX10_digest_73 (by decide) rfl ?_
  dsimp only [List.set, Fin.val]
  refine V.iinc C (v := nI 4) dX10_digest_74 rfl (by decide +kernel) (by decide) rfl ?_
  dsimp only [List.set]
  refine V.goto C (tgt := 53) dX10_digest_77 (by decide) ?_
  refine V.iload C dX10_digest_53 rfl ?_
  refine V.iconst C (v := nI 5) dX10_digest_55 (by decide) ?_
  refine V.icmp_ge C (tgt := 80) dX10_digest_56 (by decide) (fun c56 => ?_) (fun c56 => ?_)
  · exfalso; exact absurd c56 (by decide +kernel)
  refine V.lload_n C dX10_digest_59 rfl ?_
  refine V.aload_n C dX10_digest_60 rfl ?_
  refine V.iload_n C dX10_digest_61 rfl ?_
  refine V.iload C dX10_digest_62 rfl ?_
  refine V.iload C dX10_digest_64 rfl ?_
  refine V.zVix C ZE (X := []) (cz_X10_ofCellNow_21) (by first | rfl | exact (List.append_nil _).symm) gz_X10_162 (n := 3) ⟨rfl, by decide, by decide, by decide +kernel⟩ rfl (q0 := 0) rfl rfl rfl ⟨Nat.le_of_ble_eq_true rfl, Nat.le_of_ble_eq_true rfl⟩ ⟨Nat.le_of_ble_eq_true rfl, Nat.le_of_ble_eq_true rfl⟩ (Nat.le_of_ble_eq_true rfl) rfl dX10_digest_66 ?_
  refine V.i2l C dX10_digest_69 ?_
  refine V.topl (y := 0) (by decide +kernel) ?_
  refine V.zSin C ZE (cz_X10_add) gz_X10_290 (n := 2) ⟨by decide, by decide, by decide +kernel⟩ rfl rfl ⟨Nat.le_of_ble_eq_true rfl, Nat.le_of_ble_eq_true rfl⟩ ⟨Nat.le_of_ble_eq_true rfl, Nat.le_of_ble_eq_true rfl⟩ (Nat.le_of_ble_eq_true rfl) rfl dX10_digest_70 ?_
  refine V.topl (y := -1683292100378492798) (by decide +kernel) ?_
  refine V.lstore_n C dX10_digest_73 (by decide) rfl ?_
  dsimp only [List.set, Fin.val]
  refine V.iinc C (v := nI 5) dX10_digest_74 rfl (by decide +kernel) (by decide) rfl ?_
  dsimp only [List.set]
  refine V.goto C (tgt := 53) dX10_digest_77 (by decide) ?_
  refine V.iload C dX10_digest_53 rfl ?_
  refine V.iconst C (v := nI 5) dX10_digest_55 (by decide) ?_
  refine V.icmp_ge C (tgt := 80) dX10_digest_56 (by decide) (fun c56 => ?_) (fun c56 => ?_)
  rotate_left
  · exfalso; exact absurd c56 (by decide +kernel)
  refine V.iinc C (v := nI 2) dX10_digest_80 rfl (by decide +kernel) (by decide) rfl ?_
  dsimp only [List.set]
  refine V.goto C (tgt := 44) dX10_digest_83 (by decide) ?_
  refine V.iload C dX10_digest_44 rfl ?_
  refine V.iconst C (v := nI 2) dX10_digest_46 (by decide) ?_
  refine V.icmp_ge C (tgt := 86) dX10_digest_47 (by decide) (fun c47 => ?_) (fun c47 => ?_)
  rotate_left
  · exfalso; exact absurd c47 (by decide +kernel)
  refine V.iinc C (v := nI 3) dX10_digest_86 rfl (by decide +kernel) (by decide) rfl ?_
  dsimp only [List.set]
  refine V.goto C (tgt := 36) dX10_digest_89 (by decide) ?_
  refine V.iload_n C dX10_digest_36 rfl ?_
  refine V.iconst C (v := nI 3) dX10_digest_37 (by decide) ?_
  refine V.icmp_ge C (tgt := 92) dX10_digest_38 (by decide) (fun c38 => ?_) (fun c38 => ?_)
  rotate_left
  · exfalso; exact absurd c38 (by decide +kernel)
  refine V.iconst C (v := nI 0) dX10_digest_92 (by decide) ?_
  refine V.istore_n C dX10_digest_93 (by decide) rfl ?_
  dsimp only [List.set, Fin.val]
  refine V.iload_n C dX10_digest_94 rfl ?_
  refine V.aload_n C dX10_digest_95 rfl ?_
  refine V.get C (q0 := 0) (k := 2) rfl rfl (by decide) (iz_X10 _) (List.mem_cons_of_mem _ tw_75) rfl rfl dX10_digest_96 ?_
  refine V.zVin C ZE (cz_Jx4a65c_size_8abf5 (k := 2) rfl) gz_X10_41 (n := 0) ⟨rfl, by decide, by decide, by decide +kernel⟩ rfl (q0 := 2) rfl rfl rfl ⟨Nat.le_of_ble_eq_true rfl, Nat.le_of_ble_eq_true rfl⟩ ⟨Nat.le_of_ble_eq_true rfl, Nat.le_of_ble_eq_true rfl⟩ (Nat.le_of_ble_eq_true rfl) rfl dX10_digest_99 ?_
  refine V.icmp_ge C (tgt := 140) dX10_digest_102 (by decide) (fun c102 => ?_) (fun c102 => ?_)
  rotate_left
  · exfalso; exact absurd c102 (by decide +kernel)
  refine V.aload_n C dX10_digest_140 rfl ?_
  refine V.aload_n C dX10_digest_141 rfl ?_
  refine V.get C (q0 := 0) (k := 8) rfl rfl (by decide) (iz_X10 _) (List.mem_cons_of_mem _ tw_179) rfl rfl dX10_digest_142 ?_
  refine V.zVqx C ZE (X := []) (cz_X10_weights (n := 3) (by decide)) (by first | rfl | exact (List.append_nil _).symm) gz_X10_235 (n := 1) ⟨rfl, by decide, by decide, by decide +kernel⟩ rfl (q0 := 0) rfl rfl rfl ⟨Nat.le_of_ble_eq_true rfl, Nat.le_of_ble_eq_true rfl⟩ ⟨Nat.le_of_ble_eq_true rfl, Nat.le_of_ble_eq_true rfl⟩ (Nat.le_of_ble_eq_true rfl) rfl dX10_digest_145 (fun q1 => ?_)
  refine V.astore_n C dX10_digest_148 (by decide) rfl ?_
  dsimp only [List.set, Fin.val]
  refine V.aload_n C dX10_digest_149 rfl ?_
  refine V.get C (q0 := 0) (k := 3) rfl rfl (by decide) (iz_X10 _) (List.mem_cons_of_mem _ tw_80) rfl rfl dX10_digest_150 ?_
  refine V.reord [3, 0, 1, 2, 4, 5, 6, 7, 8, 9] (w' := [(g 3, .inr (1, [.int (nI 0), .ref e0, .int (nI 0)])), (g 0, .inr (12, [.int (nI 0), .ref (g 1), .ref (g 2), .ref (g 3), .ref (g 5), .ref (g 4), .int (nI 0), .int (nI 0), .int (nI 3), .int (nI 0)])), (g 1, .inr (1, [.int (nI 0), .ref e0, .int (nI 0)])), (g 2, .inr (1, [.int (nI 0), .ref e0, .int (nI 0)])), (g 4, .inr (1, [.int (nI 0), .ref e0, .int (nI 0)])), (g 5, .inl (cII, 3, .inr (.inr (.inr (.inr (fun i => if i < 3 then some (g 5 + 1 + i) else none)))))), (g 5 + 1, .inl (cI, 2, .inl (fun _ => (0 : Int32)))), (g 5 + 2, .inl (cI, 2, .inl (fun _ => (0 : Int32)))), (g 5 + 3, .inl (cI, 2, .inl (fun _ => (0 : Int32)))), (q1, .inl (cL, 0, .inr (.inl (fun _ => (0 : Int64)))))]) rfl (by decide) rfl ?_
  refine V.zVqx C ZE (X := [(g 0, .inr (12, [.int (nI 0), .ref (g 1), .ref (g 2), .ref (g 3), .ref (g 5), .ref (g 4), .int (nI 0), .int (nI 0), .int (nI 3), .int (nI 0)])), (g 1, .inr (1, [.int (nI 0), .ref e0, .int (nI 0)])), (g 2, .inr (1, [.int (nI 0), .ref e0, .int (nI 0)])), (g 4, .inr (1, [.int (nI 0), .ref e0, .int (nI 0)])), (g 5, .inl (cII, 3, .inr (.inr (.inr (.inr (fun i => if i < 3 then some (g 5 + 1 + i) else none)))))), (g 5 + 1, .inl (cI, 2, .inl (fun _ => (0 : Int32)))), (g 5 + 2, .inl (cI, 2, .inl (fun _ => (0 : Int32)))), (g 5 + 3, .inl (cI, 2, .inl (fun _ => (0 : Int32)))), (q1, .inl (cL, 0, .inr (.inl (fun _ => (0 : Int64)))))]) (cz_Jx4a65c_iterator_32c93) rfl gz_X10_109 (n := 0) ⟨rfl, by decide, by decide, by decide +kernel⟩ rfl (q0 := 0) rfl rfl rfl ⟨Nat.le_of_ble_eq_true rfl, Nat.le_of_ble_eq_true rfl⟩ ⟨Nat.le_of_ble_eq_true rfl, Nat.le_of_ble_eq_true rfl⟩ (Nat.le_of_ble_eq_true rfl) rfl dX10_digest_153 (fun q2 => ?_)
  refine V.astore C dX10_digest_156 (by decide) rfl ?_
  dsimp only [List.set]
  refine V.aload C dX10_digest_158 rfl ?_
  refine V.zFi C ZE (cz_Jx35411_hasNext_aae02 (i := 1) (k := 0) rfl rfl) gz_X10_113 (q0 := 1) rfl rfl ⟨Nat.le_of_ble_eq_true rfl, Nat.le_of_ble_eq_true rfl⟩ ⟨Nat.le_of_ble_eq_true rfl, Nat.le_of_ble_eq_true rfl⟩ (Nat.le_of_ble_eq_true rfl) rfl dX10_digest_160 ?_
  refine V.if_eq C (tgt := 248) dX10_digest_165 (by decide) (fun c165 => ?_) (fun c165 => ?_)
  rotate_left
  · exfalso; exact absurd c165 (by decide +kernel)
  refine V.reord [2, 3, 4, 0, 5, 6, 7, 8, 9, 1, 10] (w' := [(g 0, .inr (12, [.int (nI 0), .ref (g 1), .ref (g 2), .ref (g 3), .ref (g 5), .ref (g 4), .int (nI 0), .int (nI 0), .int (nI 3), .int (nI 0)])), (g 1, .inr (1, [.int (nI 0), .ref e0, .int (nI 0)])), (g 2, .inr (1, [.int (nI 0), .ref e0, .int (nI 0)])), (g 3, .inr (1, [.int (nI 0), .ref e0, .int (nI 0)])), (g 4, .inr (1, [.int (nI 0), .ref e0, .int (nI 0)])), (g 5, .inl (cII, 3, .inr (.inr (.inr (.inr (fun i => if i < 3 then some (g 5 + 1 + i) else none)))))), (g 5 + 1, .inl (cI, 2, .inl (fun _ => (0 : Int32)))), (g 5 + 2, .inl (cI, 2, .inl (fun _ => (0 : Int32)))), (g 5 + 3, .inl (cI, 2, .inl (fun _ => (0 : Int32)))), (q2, .inr (0, [.int (nI 0), .int (-1), .int (nI 0), .ref (g 3)])), (q1, .inl (cL, 0, .inr (.inl (fun _ => (0 : Int64)))))]) rfl (by decide) rfl ?_
  refine V.iconst C (v := nI 0) dX10_digest_248 (by decide) ?_
  refine V.istore C dX10_digest_249 (by decide) rfl ?_
  dsimp only [List.set]
  refine V.iload C dX10_digest_251 rfl ?_
  refine V.aload_n C dX10_digest_253 rfl ?_
  refine V.get C (q0 := 0) (k := 1) rfl rfl (by decide) (iz_X10 _) (List.mem_cons_of_mem _ tw_66) rfl rfl dX10_digest_254 ?_
  refine V.zVin C ZE (cz_Jx4a65c_size_8abf5 (k := 1) rfl) gz_X10_41 (n := 0) ⟨rfl, by decide, by decide, by decide +kernel⟩ rfl (q0 := 1) rfl rfl rfl ⟨Nat.le_of_ble_eq_true rfl, Nat.le_of_ble_eq_true rfl⟩ ⟨Nat.le_of_ble_eq_true rfl, Nat.le_of_ble_eq_true rfl⟩ (Nat.le_of_ble_eq_true rfl) rfl dX10_digest_257 ?_
  refine V.icmp_ge C (tgt := 327) dX10_digest_260 (by decide) (fun c260 => ?_) (fun c260 => ?_)
  rotate_left
  · exfalso; exact absurd c260 (by decide +kernel)
  refine V.lload_n C dX10_digest_327 rfl ?_
  refine V.aload_n C dX10_digest_328 rfl ?_
  refine V.iconst C (v := nI 0) dX10_digest_329 (by decide) ?_
  refine V.zVix C ZE (X := [(q2, .inr (0, [.int (nI 0), .int (-1), .int (nI 0), .ref (g 3)])), (q1, .inl (cL, 0, .inr (.inl (fun _ => (0 : Int64)))))]) (cz_X10_nextNow) rfl gz_X10_190 (n := 1) ⟨rfl, by decide, by decide, by decide +kernel⟩ rfl (q0 := 0) rfl rfl rfl ⟨Nat.le_of_ble_eq_true rfl, Nat.le_of_ble_eq_true rfl⟩ ⟨Nat.le_of_ble_eq_true rfl, Nat.le_of_ble_eq_true rfl⟩ (Nat.le_of_ble_eq_true rfl) rfl dX10_digest_330 ?_
  refine V.i2l C dX10_digest_333 ?_
  refine V.topl (y := -1) (by decide +kernel) ?_
  refine V.zSin C ZE (cz_X10_add) gz_X10_290 (n := 2) ⟨by decide, by decide, by decide +kernel⟩ rfl rfl ⟨Nat.le_of_ble_eq_true rfl, Nat.le_of_ble_eq_true rfl⟩ ⟨Nat.le_of_ble_eq_true rfl, Nat.le_of_ble_eq_true rfl⟩ (Nat.le_of_ble_eq_true rfl) rfl dX10_digest_334 ?_
  refine V.topl (y := 3158177109395378109) (by decide +kernel) ?_
  refine V.aload_n C dX10_digest_337 rfl ?_
  refine V.aload_n C dX10_digest_338 rfl ?_
  refine V.get C (q0 := 0) (k := 8) rfl rfl (by decide) (iz_X10 _) (List.mem_cons_of_mem _ tw_179) rfl rfl dX10_digest_339 ?_
  refine V.zVix C ZE (X := [(q2, .inr (0, [.int (nI 0), .int (-1), .int (nI 0), .ref (g 3)])), (q1, .inl (cL, 0, .inr (.inl (fun _ => (0 : Int64)))))]) (cz_X10_offNow (n := 3) (by decide)) rfl gz_X10_267 (n := 1) ⟨rfl, by decide, by decide, by decide +kernel⟩ rfl (q0 := 0) rfl rfl rfl ⟨Nat.le_of_ble_eq_true rfl, Nat.le_of_ble_eq_true rfl⟩ ⟨Nat.le_of_ble_eq_true rfl, Nat.le_of_ble_eq_true rfl⟩ (Nat.le_of_ble_eq_true rfl) rfl dX10_digest_342 ?_
  refine V.i2l C dX10_digest_345 ?_
  refine V.topl (y := 0) (by decide +kernel) ?_
  refine V.zSin C ZE (cz_X10_add) gz_X10_290 (n := 2) ⟨by decide, by decide, by decide +kernel⟩ rfl rfl ⟨Nat.le_of_ble_eq_true rfl, Nat.le_of_ble_eq_true rfl⟩ ⟨Nat.le_of_ble_eq_true rfl, Nat.le_of_ble_eq_true rfl⟩ (Nat.le_of_ble_eq_true rfl) rfl dX10_digest_346 ?_
  refine V.topl (y := 5669770022708963299) (by decide +kernel) ?_
  refine V.aload_n C dX10_digest_349 rfl ?_
  refine V.zVix C ZE (X := [(q2, .inr (0, [.int (nI 0), .int (-1), .int (nI 0), .ref (g 3)])), (q1, .inl (cL, 0, .inr (.inl (fun _ => (0 : Int64)))))]) (cz_X10_cleanedNow) rfl gz_X10_280 (n := 0) ⟨rfl, by decide, by decide, by decide +kernel⟩ rfl (q0 := 0) rfl rfl rfl ⟨Nat.le_of_ble_eq_true rfl, Nat.le_of_ble_eq_true rfl⟩ ⟨Nat.le_of_ble_eq_true rfl, Nat.le_of_ble_eq_true rfl⟩ (Nat.le_of_ble_eq_true rfl) rfl dX10_digest_350 ?_
  refine V.i2l C dX10_digest_353 ?_
  refine V.topl (y := 0) (by decide +kernel) ?_
  refine V.zSin C ZE (cz_X10_add) gz_X10_290 (n := 2) ⟨by decide, by decide, by decide +kernel⟩ rfl rfl ⟨Nat.le_of_ble_eq_true rfl, Nat.le_of_ble_eq_true rfl⟩ ⟨Nat.le_of_ble_eq_true rfl, Nat.le_of_ble_eq_true rfl⟩ (Nat.le_of_ble_eq_true rfl) rfl dX10_digest_354 ?_
  refine V.topl (y := -8704570033117653891) (by decide +kernel) ?_
  refine V.aload_n C dX10_digest_357 rfl ?_
  refine V.iconst C (v := nI 3) dX10_digest_358 (by decide) ?_
  refine V.zVix C ZE (X := [(q2, .inr (0, [.int (nI 0), .int (-1), .int (nI 0), .ref (g 3)])), (q1, .inl (cL, 0, .inr (.inl (fun _ => (0 : Int64)))))]) (cz_X10_nextNow) rfl gz_X10_190 (n := 1) ⟨rfl, by decide, by decide, by decide +kernel⟩ rfl (q0 := 0) rfl rfl rfl ⟨Nat.le_of_ble_eq_true rfl, Nat.le_of_ble_eq_true rfl⟩ ⟨Nat.le_of_ble_eq_true rfl, Nat.le_of_ble_eq_true rfl⟩ (Nat.le_of_ble_eq_true rfl) rfl dX10_digest_359 ?_
  refine V.i2l C dX10_digest_362 ?_
  refine V.topl (y := -1) (by decide +kernel) ?_
  refine V.zSin C ZE (cz_X10_add) gz_X10_290 (n := 2) ⟨by decide, by decide, by decide +kernel⟩ rfl rfl ⟨Nat.le_of_ble_eq_true rfl, Nat.le_of_ble_eq_true rfl⟩ ⟨Nat.le_of_ble_eq_true rfl, Nat.le_of_ble_eq_true rfl⟩ (Nat.le_of_ble_eq_true rfl) rfl dX10_digest_363 ?_
  refine V.topl (y := 6859490078996003618) (by decide +kernel) ?_
  refine V.pick (k := 0) rfl ?_
  refine V.widen (k := 284) (n := 916) (Nat.le_of_ble_eq_true rfl) (Nat.le_of_ble_eq_true rfl) ?_
  exact hQ _ _ _ _ _ (Or.inr (Or.inr (Or.inl ⟨_, dX10_digest_366, rfl, rfl, rfl⟩))) ⟨_, rfl, rfl⟩
set_option maxRecDepth 100000 in
set_option maxHeartbeats 4000000 in
theorem cz_X10_rotate_ok {l : Launch} {D : va_G} {cI cL cII cO : ClassId} {e0 : Nat} {g : Nat → Nat}  : CtZ l D (TY cI cL cII cO) e0 yX10_rotate (Cond.code yX10_rotate cX10_rotate 3 (some .int) :: TBL) ({ frames := 2, cells := 0, slots := 0, locals := 44 } : Room) (MF cI cII e0 g ((nI 0))) [.ref (g 0), .int (nI 0)] (fun r z => ∃ fs, r = some (.int (nI 0)) ∧ z = [(g 0, .inr (12, .int (nI 0) :: fs))]) := by
  refine CtZ.of [some (.ref (g 0)), some (.int (nI 0)), none] (by decide) rfl rfl (Nat.le_of_ble_eq_true rfl) rfl (fun κ C ZE hQ => ?_)
  refine V.aload_n C dX10_rotate_0 rfl ?_
  refine V.iload_n C dX10_rotate_1 rfl ?_
  refine V.iconst C (v := nI 0) dX10_rotate_2 (by decide) ?_
  refine V.iconst C (v := nI 3) dX10_rotate_3 (by decide) ?_
  refine V.zSin C ZE (cz_X10_isIn) gz_X10_45 (n := 3) ⟨by decide, by decide, by decide +kernel⟩ rfl rfl ⟨Nat.le_of_ble_eq_true rfl, Nat.le_of_ble_eq_true rfl⟩ ⟨Nat.le_of_ble_eq_true rfl, Nat.le_of_ble_eq_true rfl⟩ (Nat.le_of_ble_eq_true rfl) rfl dX10_rotate_4 ?_
  refine V.topi (y := nI 1) (by decide +kernel) ?_
  refine V.if_eq C (tgt := 21) dX10_rotate_7 (by decide) (fun c7 => ?_) (fun c7 => ?_)
  · exfalso; exact absurd c7 (by decide +kernel)
  refine V.iload_n C dX10_rotate_10 rfl ?_
  refine V.aload_n C dX10_rotate_11 rfl ?_
  refine V.get C (q0 := 0) (k := 1) rfl rfl (by decide) (iz_X10 _) (List.mem_cons_of_mem _ tw_66) rfl rfl dX10_rotate_12 ?_
  refine V.zVin C ZE (cz_Jx4a65c_size_8abf5 (k := 1) rfl) gz_X10_41 (n := 0) ⟨rfl, by decide, by decide, by decide +kernel⟩ rfl (q0 := 1) rfl rfl rfl ⟨Nat.le_of_ble_eq_true rfl, Nat.le_of_ble_eq_true rfl⟩ ⟨Nat.le_of_ble_eq_true rfl, Nat.le_of_ble_eq_true rfl⟩ (Nat.le_of_ble_eq_true rfl) rfl dX10_rotate_15 ?_
  refine V.icmp_le C (tgt := 25) dX10_rotate_18 (by decide) (fun c18 => ?_) (fun c18 => ?_)
  rotate_left
  · exfalso; exact absurd c18 (by decide +kernel)
  refine V.iconst C (v := nI 0) dX10_rotate_25 (by decide) ?_
  refine V.iconst C (v := nI 1) dX10_rotate_26 (by decide) ?_
  refine V.zVix C ZE (X := []) (cz_X10_start_f1) (by first | rfl | exact (List.append_nil _).symm) gz_X10_63 (n := 2) ⟨rfl, by decide, by decide, by decide +kernel⟩ rfl (q0 := 0) rfl rfl rfl ⟨Nat.le_of_ble_eq_true rfl, Nat.le_of_ble_eq_true rfl⟩ ⟨Nat.le_of_ble_eq_true rfl, Nat.le_of_ble_eq_true rfl⟩ (Nat.le_of_ble_eq_true rfl) rfl dX10_rotate_27 ?_
  refine V.if_ne C (tgt := 56) dX10_rotate_30 (by decide) (fun c30 => ?_) (fun c30 => ?_)
  · exfalso; exact absurd c30 (by decide +kernel)
  refine V.aload_n C dX10_rotate_33 rfl ?_
  refine V.aload_n C dX10_rotate_34 rfl ?_
  refine V.get C (q0 := 0) (k := 3) rfl rfl (by decide) (iz_X10 _) (List.mem_cons_of_mem _ tw_80) rfl rfl dX10_rotate_35 ?_
  refine V.zVin C ZE (cz_Jx4a65c_isEmpty_aae02 (k := 3) rfl) gz_X10_66 (n := 0) ⟨rfl, by decide, by decide, by decide +kernel⟩ rfl (q0 := 3) rfl rfl rfl ⟨Nat.le_of_ble_eq_true rfl, Nat.le_of_ble_eq_true rfl⟩ ⟨Nat.le_of_ble_eq_true rfl, Nat.le_of_ble_eq_true rfl⟩ (Nat.le_of_ble_eq_true rfl) rfl dX10_rotate_38 ?_
  refine V.if_ne C (tgt := 48) dX10_rotate_41 (by decide) (fun c41 => ?_) (fun c41 => ?_)
  rotate_left
  · exfalso; exact absurd c41 (by decide +kernel)
  refine V.iconst C (v := nI 0) dX10_rotate_48 (by decide) ?_
  refine V.iconst C (v := nI 2) dX10_rotate_49 (by decide) ?_
  refine V.zVix C ZE (X := []) (cz_X10_refuse_f2) (by first | rfl | exact (List.append_nil _).symm) gz_X10_37 (n := 2) ⟨rfl, by decide, by decide, by decide +kernel⟩ rfl (q0 := 0) rfl rfl rfl ⟨Nat.le_of_ble_eq_true rfl, Nat.le_of_ble_eq_true rfl⟩ ⟨Nat.le_of_ble_eq_true rfl, Nat.le_of_ble_eq_true rfl⟩ (Nat.le_of_ble_eq_true rfl) rfl dX10_rotate_50 ?_
  refine V.if_eq C (tgt := 58) dX10_rotate_53 (by decide) (fun c53 => ?_) (fun c53 => ?_)
  rotate_left
  · exfalso; exact absurd c53 (by decide +kernel)
  refine V.aload_n C dX10_rotate_58 rfl ?_
  refine V.get C (q0 := 0) (k := 6) rfl rfl (by decide) (iz_X10 _) (List.mem_cons_of_mem _ tw_202) rfl rfl dX10_rotate_59 ?_
  refine V.istore_n C dX10_rotate_62 (by decide) rfl ?_
  dsimp only [List.set, Fin.val]
  refine V.aload_n C dX10_rotate_63 rfl ?_
  refine V.iload_n C dX10_rotate_64 rfl ?_
  refine V.put C (q0 := 0) (k := 6) (w' := _) rfl rfl (by decide) (iz_X10 _) (List.mem_cons_of_mem _ tw_202) rfl tyX10 tyX10_ok nmX10 rfl rfl rfl rfl (Nat.le_of_ble_eq_true rfl) rfl dX10_rotate_65 ?_
  refine V.iload_n C dX10_rotate_68 rfl ?_
  refine V.pick (k := 0) rfl ?_
  refine V.widen (k := 0) (n := 0) (Nat.le_of_ble_eq_true rfl) (Nat.le_of_ble_eq_true rfl) ?_
  exact hQ _ _ _ _ _ (Or.inr (Or.inl ⟨_, _, dX10_rotate_69, rfl, by first | rfl | exact nar_bI _, rfl, rfl⟩)) ⟨_, rfl, rfl⟩
set_option maxRecDepth 100000 in
set_option maxHeartbeats 4000000 in
theorem cz_X10_soft_ok {l : Launch} {D : va_G} {cI cL cII cO : ClassId} {e0 : Nat} {g : Nat → Nat} {a : Nat} (ha : a ≤ 3) : CtZ l D (TY cI cL cII cO) e0 yX10_soft (Cond.code yX10_soft cX10_soft 3 (some .int) :: TBL) ({ frames := 2, cells := 0, slots := 0, locals := 44 } : Room) (MF cI cII e0 g ((nI 0))) [.ref (g 0), .int (nI a)] (fun r z => ∃ fs, r = some (.int (nI 0)) ∧ z = [(g 0, .inr (12, .int (nI 0) :: fs))]) := by
  refine CtZ.of [some (.ref (g 0)), some (.int (nI a)), none] (by decide) rfl rfl (Nat.le_of_ble_eq_true rfl) rfl (fun κ C ZE hQ => ?_)
  refine V.aload_n C dX10_soft_0 rfl ?_
  refine V.iload_n C dX10_soft_1 rfl ?_
  refine V.iconst C (v := nI 0) dX10_soft_2 (by decide) ?_
  refine V.iconst C (v := nI 3) dX10_soft_3 (by decide) ?_
  refine V.zSin C ZE (cz_X10_isIn) gz_X10_45 (n := 3) ⟨by decide, by decide, by decide +kernel⟩ rfl rfl ⟨Nat.le_of_ble_eq_true rfl, Nat.le_of_ble_eq_true rfl⟩ ⟨Nat.le_of_ble_eq_true rfl, Nat.le_of_ble_eq_true rfl⟩ (Nat.le_of_ble_eq_true rfl) rfl dX10_soft_4 ?_
  refine V.topi (y := nI 1) (isIn_t (nI_pos (by omega)) (nI_nlt ha (by decide))) ?_
  refine V.if_ne C (tgt := 14) dX10_soft_7 (by decide) (fun c7 => ?_) (fun c7 => ?_)
  rotate_left
  · exfalso; exact absurd c7 (by decide +kernel)
  refine V.iconst C (v := nI 0) dX10_soft_14 (by decide) ?_
  refine V.iconst C (v := nI 1) dX10_soft_15 (by decide) ?_
  refine V.zVix C ZE (X := []) (cz_X10_start_f1) (by first | rfl | exact (List.append_nil _).symm) gz_X10_63 (n := 2) ⟨rfl, by decide, by decide, by decide +kernel⟩ rfl (q0 := 0) rfl rfl rfl ⟨Nat.le_of_ble_eq_true rfl, Nat.le_of_ble_eq_true rfl⟩ ⟨Nat.le_of_ble_eq_true rfl, Nat.le_of_ble_eq_true rfl⟩ (Nat.le_of_ble_eq_true rfl) rfl dX10_soft_16 ?_
  refine V.if_eq C (tgt := 24) dX10_soft_19 (by decide) (fun c19 => ?_) (fun c19 => ?_)
  rotate_left
  · exfalso; exact absurd c19 (by decide +kernel)
  refine V.aload_n C dX10_soft_24 rfl ?_
  refine V.get C (q0 := 0) (k := 7) rfl rfl (by decide) (iz_X10 _) (List.mem_cons_of_mem _ tw_93) rfl rfl dX10_soft_25 ?_
  refine V.istore_n C dX10_soft_28 (by decide) rfl ?_
  dsimp only [List.set, Fin.val]
  refine V.aload_n C dX10_soft_29 rfl ?_
  refine V.iload_n C dX10_soft_30 rfl ?_
  refine V.put C (q0 := 0) (k := 7) (w' := _) rfl rfl (by decide) (iz_X10 _) (List.mem_cons_of_mem _ tw_93) rfl tyX10 tyX10_ok nmX10 rfl rfl rfl rfl (Nat.le_of_ble_eq_true rfl) rfl dX10_soft_31 ?_
  refine V.iload_n C dX10_soft_34 rfl ?_
  refine V.pick (k := 0) rfl ?_
  refine V.widen (k := 0) (n := 0) (Nat.le_of_ble_eq_true rfl) (Nat.le_of_ble_eq_true rfl) ?_
  exact hQ _ _ _ _ _ (Or.inr (Or.inl ⟨_, _, dX10_soft_35, rfl, by first | rfl | exact nar_bI _, rfl, rfl⟩)) ⟨_, rfl, rfl⟩
set_option maxRecDepth 100000 in
set_option maxHeartbeats 4000000 in
theorem cz_X10_rounds_ok {l : Launch} {D : va_G} {cI cL cII cO : ClassId} {e0 : Nat} {g : Nat → Nat} {a : Nat} (ha : a ≤ 9) : CtZ l D (TY cI cL cII cO) e0 yX10_rounds (Cond.code yX10_rounds cX10_rounds 3 (some .int) :: TBL) ({ frames := 2, cells := 0, slots := 0, locals := 44 } : Room) (MF cI cII e0 g ((nI 0))) [.ref (g 0), .int (nI a)] (fun r z => ∃ fs, r = some (.int (nI 3)) ∧ z = [(g 0, .inr (12, .int (nI 0) :: fs))]) := by
  refine CtZ.of [some (.ref (g 0)), some (.int (nI a)), none] (by decide) rfl rfl (Nat.le_of_ble_eq_true rfl) rfl (fun κ C ZE hQ => ?_)
  refine V.aload_n C dX10_rounds_0 rfl ?_
  refine V.iload_n C dX10_rounds_1 rfl ?_
  refine V.zSin C ZE (cz_X10_isNoRounds_f (nI_pos (by omega)) (nI_nlt ha (by decide))) gz_X10_264 (n := 1) ⟨by decide, by decide, by decide +kernel⟩ rfl rfl ⟨Nat.le_of_ble_eq_true rfl, Nat.le_of_ble_eq_true rfl⟩ ⟨Nat.le_of_ble_eq_true rfl, Nat.le_of_ble_eq_true rfl⟩ (Nat.le_of_ble_eq_true rfl) rfl dX10_rounds_2 ?_
  refine V.iconst C (v := nI 1) dX10_rounds_5 (by decide) ?_
  refine V.zVix C ZE (X := []) (cz_X10_start_f1) (by first | rfl | exact (List.append_nil _).symm) gz_X10_63 (n := 2) ⟨rfl, by decide, by decide, by decide +kernel⟩ rfl (q0 := 0) rfl rfl rfl ⟨Nat.le_of_ble_eq_true rfl, Nat.le_of_ble_eq_true rfl⟩ ⟨Nat.le_of_ble_eq_true rfl, Nat.le_of_ble_eq_true rfl⟩ (Nat.le_of_ble_eq_true rfl) rfl dX10_rounds_6 ?_
  refine V.if_eq C (tgt := 14) dX10_rounds_9 (by decide) (fun c9 => ?_) (fun c9 => ?_)
  rotate_left
  · exfalso; exact absurd c9 (by decide +kernel)
  refine V.aload_n C dX10_rounds_14 rfl ?_
  refine V.get C (q0 := 0) (k := 8) rfl rfl (by decide) (iz_X10 _) (List.mem_cons_of_mem _ tw_179) rfl rfl dX10_rounds_15 ?_
  refine V.istore_n C dX10_rounds_18 (by decide) rfl ?_
  dsimp only [List.set, Fin.val]
  refine V.aload_n C dX10_rounds_19 rfl ?_
  refine V.iload_n C dX10_rounds_20 rfl ?_
  refine V.put C (q0 := 0) (k := 8) (w' := _) rfl rfl (by decide) (iz_X10 _) (List.mem_cons_of_mem _ tw_179) rfl tyX10 tyX10_ok nmX10 rfl rfl rfl rfl (Nat.le_of_ble_eq_true rfl) rfl dX10_rounds_21 ?_
  refine V.iload_n C dX10_rounds_24 rfl ?_
  refine V.pick (k := 0) rfl ?_
  refine V.widen (k := 0) (n := 0) (Nat.le_of_ble_eq_true rfl) (Nat.le_of_ble_eq_true rfl) ?_
  exact hQ _ _ _ _ _ (Or.inr (Or.inl ⟨_, _, dX10_rounds_25, rfl, by first | rfl | exact nar_bI _, rfl, rfl⟩)) ⟨_, rfl, rfl⟩
set_option maxRecDepth 100000 in
set_option maxHeartbeats 4000000 in
theorem cz_X10_nextIn_ok {l : Launch} {D : va_G} {cI cL cII cO : ClassId} {e0 : Nat} {g : Nat → Nat} {a : Nat} (ha : a ≤ 9) : CtZ l D (TY cI cL cII cO) e0 yX10_nextIn (Cond.code yX10_nextIn cX10_nextIn 2 (some .int) :: TBL) ({ frames := 2, cells := 0, slots := 0, locals := 45 } : Room) (MF cI cII e0 g ((nI 0))) [.ref (g 0), .int (nI a)] (fun r z => ∃ fs, r = some (.int (-1)) ∧ z = [(g 0, .inr (12, .int (nI 0) :: fs))]) := by
  refine CtZ.of [some (.ref (g 0)), some (.int (nI a))] (by decide) rfl rfl (Nat.le_of_ble_eq_true rfl) rfl (fun κ C ZE hQ => ?_)
  refine V.aload_n C dX10_nextIn_0 rfl ?_
  refine V.iload_n C dX10_nextIn_1 rfl ?_
  refine V.iconst C (v := nI 0) dX10_nextIn_2 (by decide) ?_
  refine V.bipush C (v := nI 9) dX10_nextIn_3 (by decide) ?_
  refine V.zSin C ZE (cz_X10_isIn) gz_X10_45 (n := 3) ⟨by decide, by decide, by decide +kernel⟩ rfl rfl ⟨Nat.le_of_ble_eq_true rfl, Nat.le_of_ble_eq_true rfl⟩ ⟨Nat.le_of_ble_eq_true rfl, Nat.le_of_ble_eq_true rfl⟩ (Nat.le_of_ble_eq_true rfl) rfl dX10_nextIn_5 ?_
  refine V.topi (y := nI 1) (isIn_t (nI_pos (by omega)) (nI_nlt ha (by decide))) ?_
  refine V.if_ne C (tgt := 15) dX10_nextIn_8 (by decide) (fun c8 => ?_) (fun c8 => ?_)
  rotate_left
  · exfalso; exact absurd c8 (by decide +kernel)
  refine V.iconst C (v := nI 0) dX10_nextIn_15 (by decide) ?_
  refine V.iconst C (v := nI 1) dX10_nextIn_16 (by decide) ?_
  refine V.zVix C ZE (X := []) (cz_X10_start_f1) (by first | rfl | exact (List.append_nil _).symm) gz_X10_63 (n := 2) ⟨rfl, by decide, by decide, by decide +kernel⟩ rfl (q0 := 0) rfl rfl rfl ⟨Nat.le_of_ble_eq_true rfl, Nat.le_of_ble_eq_true rfl⟩ ⟨Nat.le_of_ble_eq_true rfl, Nat.le_of_ble_eq_true rfl⟩ (Nat.le_of_ble_eq_true rfl) rfl dX10_nextIn_17 ?_
  refine V.if_eq C (tgt := 27) dX10_nextIn_20 (by decide) (fun c20 => ?_) (fun c20 => ?_)
  rotate_left
  · exfalso; exact absurd c20 (by decide +kernel)
  refine V.aload_n C dX10_nextIn_27 rfl ?_
  refine V.iload_n C dX10_nextIn_28 rfl ?_
  refine V.zVix C ZE (X := []) (cz_X10_nextNow) (by first | rfl | exact (List.append_nil _).symm) gz_X10_190 (n := 1) ⟨rfl, by decide, by decide, by decide +kernel⟩ rfl (q0 := 0) rfl rfl rfl ⟨Nat.le_of_ble_eq_true rfl, Nat.le_of_ble_eq_true rfl⟩ ⟨Nat.le_of_ble_eq_true rfl, Nat.le_of_ble_eq_true rfl⟩ (Nat.le_of_ble_eq_true rfl) rfl dX10_nextIn_29 ?_
  refine V.pick (k := 0) rfl ?_
  refine V.widen (k := 0) (n := 0) (Nat.le_of_ble_eq_true rfl) (Nat.le_of_ble_eq_true rfl) ?_
  exact hQ _ _ _ _ _ (Or.inr (Or.inl ⟨_, _, dX10_nextIn_32, rfl, by first | rfl | exact nar_bI _, rfl, rfl⟩)) ⟨_, rfl, rfl⟩
set_option maxRecDepth 100000 in
set_option maxHeartbeats 4000000 in
theorem cz_X10_offWith_ok {l : Launch} {D : va_G} {cI cL cII cO : ClassId} {e0 : Nat} {g : Nat → Nat} {n : Nat} (hn : n ≤ 9) : CtZ l D (TY cI cL cII cO) e0 yX10_offWith (Cond.code yX10_offWith cX10_offWith 2 (some .int) :: TBL) ({ frames := 4, cells := 1, slots := 0, locals := 101 } : Room) (MF cI cII e0 g ((nI 0))) [.ref (g 0), .int (nI n)] (fun r z => ∃ fs, r = some (.int (nI 0)) ∧ z = [(g 0, .inr (12, .int (nI 0) :: fs))]) := by
  refine CtZ.of [some (.ref (g 0)), some (.int (nI n))] (by decide) rfl rfl (Nat.le_of_ble_eq_true rfl) rfl (fun κ C ZE hQ => ?_)
  refine V.aload_n C dX10_offWith_0 rfl ?_
  refine V.iload_n C dX10_offWith_1 rfl ?_
  refine V.zSin C ZE (cz_X10_isNoRounds_f (nI_pos (by omega)) (nI_nlt hn (by decide))) gz_X10_264 (n := 1) ⟨by decide, by decide, by decide +kernel⟩ rfl rfl ⟨Nat.le_of_ble_eq_true rfl, Nat.le_of_ble_eq_true rfl⟩ ⟨Nat.le_of_ble_eq_true rfl, Nat.le_of_ble_eq_true rfl⟩ (Nat.le_of_ble_eq_true rfl) rfl dX10_offWith_2 ?_
  refine V.iconst C (v := nI 1) dX10_offWith_5 (by decide) ?_
  refine V.zVix C ZE (X := []) (cz_X10_start_f1) (by first | rfl | exact (List.append_nil _).symm) gz_X10_63 (n := 2) ⟨rfl, by decide, by decide, by decide +kernel⟩ rfl (q0 := 0) rfl rfl rfl ⟨Nat.le_of_ble_eq_true rfl, Nat.le_of_ble_eq_true rfl⟩ ⟨Nat.le_of_ble_eq_true rfl, Nat.le_of_ble_eq_true rfl⟩ (Nat.le_of_ble_eq_true rfl) rfl dX10_offWith_6 ?_
  refine V.if_eq C (tgt := 16) dX10_offWith_9 (by decide) (fun c9 => ?_) (fun c9 => ?_)
  rotate_left
  · exfalso; exact absurd c9 (by decide +kernel)
  refine V.aload_n C dX10_offWith_16 rfl ?_
  refine V.iload_n C dX10_offWith_17 rfl ?_
  refine V.zVix C ZE (X := []) (cz_X10_offNow (n := n) hn) (by first | rfl | exact (List.append_nil _).symm) gz_X10_267 (n := 1) ⟨rfl, by decide, by decide, by decide +kernel⟩ rfl (q0 := 0) rfl rfl rfl ⟨Nat.le_of_ble_eq_true rfl, Nat.le_of_ble_eq_true rfl⟩ ⟨Nat.le_of_ble_eq_true rfl, Nat.le_of_ble_eq_true rfl⟩ (Nat.le_of_ble_eq_true rfl) rfl dX10_offWith_18 ?_
  refine V.pick (k := 0) rfl ?_
  refine V.widen (k := 1) (n := 0) (Nat.le_of_ble_eq_true rfl) (Nat.le_of_ble_eq_true rfl) ?_
  exact hQ _ _ _ _ _ (Or.inr (Or.inl ⟨_, _, dX10_offWith_21, rfl, by first | rfl | exact nar_bI _, rfl, rfl⟩)) ⟨_, rfl, rfl⟩
set_option maxRecDepth 100000 in
set_option maxHeartbeats 4000000 in
theorem cz_X10_many_ok {l : Launch} {D : va_G} {cI cL cII cO : ClassId} {e0 : Nat} {g : Nat → Nat} {k : Nat} (hk : k < 12) : CtZ l D (TY cI cL cII cO) e0 yX10_many (Cond.code yX10_many cX10_many 2 (some .int) :: TBL) ({ frames := 5, cells := 10, slots := 41, locals := 117 } : Room) (MF cI cII e0 g ((nI 0))) [.ref (g 0), .int (nI k)] (fun r z => ∃ fs, r = some (.int (nI 0)) ∧ z = [(g 0, .inr (12, .int (nI 0) :: fs))]) := by
  refine CtZ.of [some (.ref (g 0)), some (.int (nI k))] (by decide) rfl rfl (Nat.le_of_ble_eq_true rfl) rfl (fun κ C ZE hQ => ?_)
  refine V.aload_n C dX10_many_0 rfl ?_
  refine V.iload_n C dX10_many_1 rfl ?_
  refine V.iconst C (v := nI 0) dX10_many_2 (by decide) ?_
  refine V.bipush C (v := nI 11) dX10_many_3 (by decide) ?_
  refine V.zSin C ZE (cz_X10_isIn) gz_X10_45 (n := 3) ⟨by decide, by decide, by decide +kernel⟩ rfl rfl ⟨Nat.le_of_ble_eq_true rfl, Nat.le_of_ble_eq_true rfl⟩ ⟨Nat.le_of_ble_eq_true rfl, Nat.le_of_ble_eq_true rfl⟩ (Nat.le_of_ble_eq_true rfl) rfl dX10_many_5 ?_
  refine V.topi (y := nI 1) (isIn_t (nI_pos (by omega)) (nI_nlt (show k ≤ 11 by omega) (by decide))) ?_
  refine V.if_ne C (tgt := 15) dX10_many_8 (by decide) (fun c8 => ?_) (fun c8 => ?_)
  rotate_left
  · exfalso; exact absurd c8 (by decide +kernel)
  refine V.iconst C (v := nI 0) dX10_many_15 (by decide) ?_
  refine V.iconst C (v := nI 1) dX10_many_16 (by decide) ?_
  refine V.zVix C ZE (X := []) (cz_X10_start_f1) (by first | rfl | exact (List.append_nil _).symm) gz_X10_63 (n := 2) ⟨rfl, by decide, by decide, by decide +kernel⟩ rfl (q0 := 0) rfl rfl rfl ⟨Nat.le_of_ble_eq_true rfl, Nat.le_of_ble_eq_true rfl⟩ ⟨Nat.le_of_ble_eq_true rfl, Nat.le_of_ble_eq_true rfl⟩ (Nat.le_of_ble_eq_true rfl) rfl dX10_many_17 ?_
  refine V.if_eq C (tgt := 27) dX10_many_20 (by decide) (fun c20 => ?_) (fun c20 => ?_)
  rotate_left
  · exfalso; exact absurd c20 (by decide +kernel)
  refine V.aload_n C dX10_many_27 rfl ?_
  refine V.iload_n C dX10_many_28 rfl ?_
  refine V.zVix C ZE (X := []) (cz_X10_count (k := k) hk) (by first | rfl | exact (List.append_nil _).symm) gz_X10_261 (n := 1) ⟨rfl, by decide, by decide, by decide +kernel⟩ rfl (q0 := 0) rfl rfl rfl ⟨Nat.le_of_ble_eq_true rfl, Nat.le_of_ble_eq_true rfl⟩ ⟨Nat.le_of_ble_eq_true rfl, Nat.le_of_ble_eq_true rfl⟩ (Nat.le_of_ble_eq_true rfl) rfl dX10_many_29 ?_
  refine V.pick (k := 0) rfl ?_
  refine V.widen (k := 10) (n := 41) (Nat.le_of_ble_eq_true rfl) (Nat.le_of_ble_eq_true rfl) ?_
  exact hQ _ _ _ _ _ (Or.inr (Or.inl ⟨_, _, dX10_many_32, rfl, by first | rfl | exact nar_bI _, rfl, rfl⟩)) ⟨_, rfl, rfl⟩
set_option maxRecDepth 100000 in
set_option maxHeartbeats 4000000 in
theorem cz_X8_init {l : Launch} {D : va_G} {cI cL cII cO : ClassId} {e0 : Nat} {o : Nat} {a b : Int32} : CtZ l D (TY cI cL cII cO) e0 yX8_init (Cond.code yX8_init cX8_init 3 none :: TBL) ({ frames := 1, cells := 0, slots := 0, locals := 28 } : Room) [(o, .inr (10, [.int (nI 0), .int (nI 0), .int (nI 0), .int (nI 0)]))] [.ref o, .int (a), .int (b)] (fun r z => r = none ∧ z = [(o, .inr (10, [.int (a), .int (b), .int (nI 0), .int (nI 0)]))]) := by
  refine CtZ.of [some (.ref o), some (.int (a)), some (.int (b))] (by decide) rfl rfl (Nat.le_of_ble_eq_true rfl) rfl (fun κ C ZE hQ => ?_)
  refine V.aload_n C dX8_init_0 rfl ?_
  refine V.objInit C (List.mem_cons_of_mem _ tw_203) (List.mem_cons_of_mem _ tw_1) (List.mem_cons_of_mem _ tw_2) (Nat.le_of_ble_eq_true rfl) (Nat.le_of_ble_eq_true rfl) dX8_init_1 ?_
  refine V.aload_n C dX8_init_4 rfl ?_
  refine V.iload_n C dX8_init_5 rfl ?_
  refine V.putF C (q0 := 0) (k := 0) (w' := _) rfl rfl (by decide) (iz_X8 _) (List.mem_cons_of_mem _ tw_204) rfl tyX8 tyX8_ok nmX8 rfl rfl rfl rfl rfl rfl (Nat.le_of_ble_eq_true rfl) rfl dX8_init_6 ?_
  refine V.aload_n C dX8_init_9 rfl ?_
  refine V.iload_n C dX8_init_10 rfl ?_
  refine V.putF C (q0 := 0) (k := 1) (w' := _) rfl rfl (by decide) (iz_X8 _) (List.mem_cons_of_mem _ tw_205) rfl tyX8 tyX8_ok nmX8 rfl rfl rfl rfl rfl rfl (Nat.le_of_ble_eq_true rfl) rfl dX8_init_11 ?_
  refine V.widen (k := 0) (n := 0) (Nat.le_of_ble_eq_true rfl) (Nat.le_of_ble_eq_true rfl) ?_
  exact hQ _ _ _ _ _ (Or.inl ⟨dX8_init_14, rfl, rfl, rfl⟩) ⟨rfl, rfl⟩
set_option maxRecDepth 100000 in
set_option maxHeartbeats 4000000 in
theorem cz_X10_person_ok {l : Launch} {D : va_G} {cI cL cII cO : ClassId} {e0 : Nat} {g : Nat → Nat} {a b : Nat} (ha : a < 3) (hb : b < 2) : CtZ l D (TY cI cL cII cO) e0 yX10_person (Cond.code yX10_person cX10_person 3 (some .int) :: TBL) ({ frames := 5, cells := 2, slots := 14, locals := 116 } : Room) (MF cI cII e0 g ((nI 0))) [.ref (g 0), .int (nI a), .int (nI b)] (fun r z => ∃ fs, r = some (.int (nI 0)) ∧ z = [(g 0, .inr (12, .int (nI 0) :: fs))]) := by
  refine CtZ.of [some (.ref (g 0)), some (.int (nI a)), some (.int (nI b))] (by decide) rfl rfl (Nat.le_of_ble_eq_true rfl) rfl (fun κ C ZE hQ => ?_)
  refine V.aload_n C dX10_person_0 rfl ?_
  refine V.iload_n C dX10_person_1 rfl ?_
  refine V.zSin C ZE (cz_X10_isNoA_f (nI_pos (by omega)) (nI_nlt (show a ≤ 2 by omega) (by decide))) gz_X10_92 (n := 1) ⟨by decide, by decide, by decide +kernel⟩ rfl rfl ⟨Nat.le_of_ble_eq_true rfl, Nat.le_of_ble_eq_true rfl⟩ ⟨Nat.le_of_ble_eq_true rfl, Nat.le_of_ble_eq_true rfl⟩ (Nat.le_of_ble_eq_true rfl) rfl dX10_person_2 ?_
  refine V.if_ne C (tgt := 15) dX10_person_5 (by decide) (fun c5 => ?_) (fun c5 => ?_)
  · exfalso; exact absurd c5 (by decide +kernel)
  refine V.iload_n C dX10_person_8 rfl ?_
  refine V.zSin C ZE (cz_X10_isNoB_f (nI_pos (by omega)) (nI_nlt (show b ≤ 1 by omega) (by decide))) gz_X10_95 (n := 1) ⟨by decide, by decide, by decide +kernel⟩ rfl rfl ⟨Nat.le_of_ble_eq_true rfl, Nat.le_of_ble_eq_true rfl⟩ ⟨Nat.le_of_ble_eq_true rfl, Nat.le_of_ble_eq_true rfl⟩ (Nat.le_of_ble_eq_true rfl) rfl dX10_person_9 ?_
  refine V.if_eq C (tgt := 19) dX10_person_12 (by decide) (fun c12 => ?_) (fun c12 => ?_)
  rotate_left
  · exfalso; exact absurd c12 (by decide +kernel)
  refine V.iconst C (v := nI 0) dX10_person_19 (by decide) ?_
  refine V.iconst C (v := nI 1) dX10_person_20 (by decide) ?_
  refine V.zVix C ZE (X := []) (cz_X10_start_f1) (by first | rfl | exact (List.append_nil _).symm) gz_X10_63 (n := 2) ⟨rfl, by decide, by decide, by decide +kernel⟩ rfl (q0 := 0) rfl rfl rfl ⟨Nat.le_of_ble_eq_true rfl, Nat.le_of_ble_eq_true rfl⟩ ⟨Nat.le_of_ble_eq_true rfl, Nat.le_of_ble_eq_true rfl⟩ (Nat.le_of_ble_eq_true rfl) rfl dX10_person_21 ?_
  refine V.if_ne C (tgt := 52) dX10_person_24 (by decide) (fun c24 => ?_) (fun c24 => ?_)
  · exfalso; exact absurd c24 (by decide +kernel)
  refine V.aload_n C dX10_person_27 rfl ?_
  refine V.aload_n C dX10_person_28 rfl ?_
  refine V.get C (q0 := 0) (k := 2) rfl rfl (by decide) (iz_X10 _) (List.mem_cons_of_mem _ tw_75) rfl rfl dX10_person_29 ?_
  refine V.zVin C ZE (cz_Jx4a65c_size_8abf5 (k := 2) rfl) gz_X10_41 (n := 0) ⟨rfl, by decide, by decide, by decide +kernel⟩ rfl (q0 := 2) rfl rfl rfl ⟨Nat.le_of_ble_eq_true rfl, Nat.le_of_ble_eq_true rfl⟩ ⟨Nat.le_of_ble_eq_true rfl, Nat.le_of_ble_eq_true rfl⟩ (Nat.le_of_ble_eq_true rfl) rfl dX10_person_32 ?_
  refine V.bipush C (v := nI 24) dX10_person_35 (by decide) ?_
  refine V.icmp_ne C (tgt := 44) dX10_person_37 (by decide) (fun c37 => ?_) (fun c37 => ?_)
  rotate_left
  · exfalso; exact absurd c37 (by decide +kernel)
  refine V.iconst C (v := nI 0) dX10_person_44 (by decide) ?_
  refine V.iconst C (v := nI 2) dX10_person_45 (by decide) ?_
  refine V.zVix C ZE (X := []) (cz_X10_refuse_f2) (by first | rfl | exact (List.append_nil _).symm) gz_X10_37 (n := 2) ⟨rfl, by decide, by decide, by decide +kernel⟩ rfl (q0 := 0) rfl rfl rfl ⟨Nat.le_of_ble_eq_true rfl, Nat.le_of_ble_eq_true rfl⟩ ⟨Nat.le_of_ble_eq_true rfl, Nat.le_of_ble_eq_true rfl⟩ (Nat.le_of_ble_eq_true rfl) rfl dX10_person_46 ?_
  refine V.if_eq C (tgt := 54) dX10_person_49 (by decide) (fun c49 => ?_) (fun c49 => ?_)
  rotate_left
  · exfalso; exact absurd c49 (by decide +kernel)
  refine V.aload_n C dX10_person_54 rfl ?_
  refine V.get C (q0 := 0) (k := 2) rfl rfl (by decide) (iz_X10 _) (List.mem_cons_of_mem _ tw_75) rfl rfl dX10_person_55 ?_
  refine V.new C (ci := 10) (fs := [.int 0, .int 0, .int 0, .int 0]) (iz_X8 _) tyX8 tyX8_ok (List.mem_cons_of_mem _ tw_207) (List.mem_cons_of_mem _ tw_208) (List.mem_cons_of_mem _ tw_209) rfl (by intro j hj; rcases (show j = 0 ∨ j = 1 ∨ j = 2 ∨ j = 3 by omega) with rfl | rfl | rfl | rfl <;> rfl) (Nat.le_of_ble_eq_true rfl) (Nat.le_of_ble_eq_true rfl) dX10_person_58 (fun q1 => ?_)
  refine V.dup C dX10_person_61 rfl ?_
  refine V.iload_n C dX10_person_62 rfl ?_
  refine V.iload_n C dX10_person_63 rfl ?_
  refine V.swapw ?_
  refine V.zIvx C ZE (cz_X8_init) (by first | rfl | exact (List.append_nil _).symm) gi_X8_init (List.mem_cons_of_mem _ tw_209) (List.mem_cons_of_mem _ tw_210) (List.mem_cons_of_mem _ tw_211) rfl (n := 2) ⟨by decide, by decide, by decide +kernel⟩ rfl rfl ⟨Nat.le_of_ble_eq_true rfl, Nat.le_of_ble_eq_true rfl⟩ ⟨Nat.le_of_ble_eq_true rfl, Nat.le_of_ble_eq_true rfl⟩ (Nat.le_of_ble_eq_true rfl) rfl dX10_person_64 ?_
  refine V.swapw ?_
  refine V.reord [2, 9, 0] (w' := [(g 2, .inr (1, [.int (nI 0), .ref e0, .int (nI 0)])), (q1, .inr (10, [.int (nI a), .int (nI b), .int (nI 0), .int (nI 0)])), (g 0, .inr (12, [.int (nI 0), .ref (g 1), .ref (g 2), .ref (g 3), .ref (g 5), .ref (g 4), .int (nI 0), .int (nI 0), .int (nI 3), .int (nI 0)]))]) rfl (by decide) rfl ?_
  refine V.zVex C ZE (X := [(g 0, .inr (12, [.int (nI 0), .ref (g 1), .ref (g 2), .ref (g 3), .ref (g 5), .ref (g 4), .int (nI 0), .int (nI 0), .int (nI 3), .int (nI 0)]))]) (cz_Jx4a65c_add_9ea2d_o (E1 := RX8) (by decide +kernel) (Or.inl ⟨10, _, _, _, rfl, rfl⟩)) rfl gz_X10_73 (n := 1) ⟨rfl, by decide, by decide, by decide +kernel⟩ rfl (q0 := 0) rfl rfl rfl ⟨Nat.le_of_ble_eq_true rfl, Nat.le_of_ble_eq_true rfl⟩ ⟨Nat.le_of_ble_eq_true rfl, Nat.le_of_ble_eq_true rfl⟩ (Nat.le_of_ble_eq_true rfl) rfl dX10_person_67 (fun q2 => ?_)
  refine V.pop C dX10_person_70 rfl ?_
  refine V.aload_n C dX10_person_71 rfl ?_
  refine V.get C (q0 := 2) (k := 2) rfl rfl (by decide) (iz_X10 _) (List.mem_cons_of_mem _ tw_75) rfl rfl dX10_person_72 ?_
  refine V.zVin C ZE (cz_Jx4a65c_size_8abf5 (k := 0) rfl) gz_X10_41 (n := 0) ⟨rfl, by decide, by decide, by decide +kernel⟩ rfl (q0 := 0) rfl rfl rfl ⟨Nat.le_of_ble_eq_true rfl, Nat.le_of_ble_eq_true rfl⟩ ⟨Nat.le_of_ble_eq_true rfl, Nat.le_of_ble_eq_true rfl⟩ (Nat.le_of_ble_eq_true rfl) rfl dX10_person_75 ?_
  refine V.iconst C (v := nI 1) dX10_person_78 (by decide) ?_
  refine V.isub C dX10_person_79 ?_
  refine V.topi (y := nI 0) (by decide +kernel) ?_
  refine V.pick (k := 2) rfl ?_
  refine V.widen (k := 2) (n := 14) (Nat.le_of_ble_eq_true rfl) (Nat.le_of_ble_eq_true rfl) ?_
  exact hQ _ _ _ _ _ (Or.inr (Or.inl ⟨_, _, dX10_person_80, rfl, by first | rfl | exact nar_bI _, rfl, rfl⟩)) ⟨_, rfl, rfl⟩
set_option maxRecDepth 100000 in
set_option maxHeartbeats 4000000 in
theorem cz_X9_init_2 {l : Launch} {D : va_G} {cI cL cII cO : ClassId} {e0 : Nat} {o : Nat} : CtZ l D (TY cI cL cII cO) e0 yX9_init (Cond.code yX9_init cX9_init 4 none :: TBL) ({ frames := 1, cells := 1, slots := 5, locals := 28 } : Room) [(o, .inr (11, [.null]))] [.ref o, .int (nI 0), .int (nI 2)] (fun r z => ∃ q, r = none ∧ z = [(o, .inr (11, [.ref q]))]) := by
  refine CtZ.of [some (.ref o), some (.int (nI 0)), some (.int (nI 2)), none] (by decide) rfl rfl (Nat.le_of_ble_eq_true rfl) rfl (fun κ C ZE hQ => ?_)
  refine V.aload_n C dX9_init_0 rfl ?_
  refine V.objInit C (List.mem_cons_of_mem _ tw_215) (List.mem_cons_of_mem _ tw_1) (List.mem_cons_of_mem _ tw_2) (Nat.le_of_ble_eq_true rfl) (Nat.le_of_ble_eq_true rfl) dX9_init_1 ?_
  refine V.aload_n C dX9_init_4 rfl ?_
  refine V.iload_n C dX9_init_5 rfl ?_
  refine V.newarrayI C (t0 := 0) (N := 2) rfl rfl (by decide) (List.mem_cons_of_mem _ tw_83) (Nat.le_of_ble_eq_true rfl) (Nat.le_of_ble_eq_true rfl) dX9_init_6 (fun q1 => ?_)
  refine V.putF C (q0 := 0) (k := 0) (w' := _) rfl rfl (by decide) (iz_X9 _) (List.mem_cons_of_mem _ tw_216) rfl tyX9 tyX9_ok nmX9 rfl rfl rfl rfl rfl rfl (Nat.le_of_ble_eq_true rfl) rfl dX9_init_8 ?_
  refine V.iconst C (v := nI 0) dX9_init_11 (by decide) ?_
  refine V.istore_n C dX9_init_12 (by decide) rfl ?_
  dsimp only [List.set, Fin.val]
  refine V.iload_n C dX9_init_13 rfl ?_
  refine V.iload_n C dX9_init_14 rfl ?_
  refine V.icmp_ge C (tgt := 33) dX9_init_15 (by decide) (fun c15 => ?_) (fun c15 => ?_)
  · exfalso; exact absurd c15 (by decide +kernel)
  refine V.aload_n C dX9_init_18 rfl ?_
  refine V.get C (q0 := 0) (k := 0) rfl rfl (by decide) (iz_X9 _) (List.mem_cons_of_mem _ tw_216) rfl rfl dX9_init_19 ?_
  refine V.iload_n C dX9_init_22 rfl ?_
  refine V.iload_n C dX9_init_23 rfl ?_
  refine V.iconst C (v := nI 1) dX9_init_24 (by decide) ?_
  refine V.iadd C dX9_init_25 ?_
  refine V.topi (y := nI 1) (by decide +kernel) ?_
  refine V.iast C (q0 := 1) (t0 := 0) (w' := _) rfl rfl (j := 0) rfl (by decide) (by decide) rfl dX9_init_26 ?_
  refine V.iinc C (v := nI 1) dX9_init_27 rfl (by decide +kernel) (by decide) rfl ?_
  dsimp only [List.set]
  refine V.goto C (tgt := 13) dX9_init_30 (by decide) ?_
  refine V.iload_n C dX9_init_13 rfl ?_
  refine V.iload_n C dX9_init_14 rfl ?_
  refine V.icmp_ge C (tgt := 33) dX9_init_15 (by decide) (fun c15 => ?_) (fun c15 => ?_)
  · exfalso; exact absurd c15 (by decide +kernel)
  refine V.aload_n C dX9_init_18 rfl ?_
  refine V.get C (q0 := 0) (k := 0) rfl rfl (by decide) (iz_X9 _) (List.mem_cons_of_mem _ tw_216) rfl rfl dX9_init_19 ?_
  refine V.iload_n C dX9_init_22 rfl ?_
  refine V.iload_n C dX9_init_23 rfl ?_
  refine V.iconst C (v := nI 1) dX9_init_24 (by decide) ?_
  refine V.iadd C dX9_init_25 ?_
  refine V.topi (y := nI 1) (by decide +kernel) ?_
  refine V.iast C (q0 := 1) (t0 := 0) (w' := _) rfl rfl (j := 1) rfl (by decide) (by decide) rfl dX9_init_26 ?_
  refine V.iinc C (v := nI 2) dX9_init_27 rfl (by decide +kernel) (by decide) rfl ?_
  dsimp only [List.set]
  refine V.goto C (tgt := 13) dX9_init_30 (by decide) ?_
  refine V.iload_n C dX9_init_13 rfl ?_
  refine V.iload_n C dX9_init_14 rfl ?_
  refine V.icmp_ge C (tgt := 33) dX9_init_15 (by decide) (fun c15 => ?_) (fun c15 => ?_)
  rotate_left
  · exfalso; exact absurd c15 (by decide +kernel)
  refine V.reord [0] (w' := [(o, .inr (11, [.ref q1]))]) rfl (by decide) rfl ?_
  refine V.widen (k := 1) (n := 5) (Nat.le_of_ble_eq_true rfl) (Nat.le_of_ble_eq_true rfl) ?_
  exact hQ _ _ _ _ _ (Or.inl ⟨dX9_init_33, rfl, rfl, rfl⟩) ⟨_, rfl, rfl⟩
set_option maxRecDepth 100000 in
set_option maxHeartbeats 4000000 in
theorem cz_X9_init_3 {l : Launch} {D : va_G} {cI cL cII cO : ClassId} {e0 : Nat} {o : Nat} : CtZ l D (TY cI cL cII cO) e0 yX9_init (Cond.code yX9_init cX9_init 4 none :: TBL) ({ frames := 1, cells := 1, slots := 5, locals := 28 } : Room) [(o, .inr (11, [.null]))] [.ref o, .int (nI 0), .int (nI 3)] (fun r z => ∃ q, r = none ∧ z = [(o, .inr (11, [.ref q]))]) := by
  refine CtZ.of [some (.ref o), some (.int (nI 0)), some (.int (nI 3)), none] (by decide) rfl rfl (Nat.le_of_ble_eq_true rfl) rfl (fun κ C ZE hQ => ?_)
  refine V.aload_n C dX9_init_0 rfl ?_
  refine V.objInit C (List.mem_cons_of_mem _ tw_215) (List.mem_cons_of_mem _ tw_1) (List.mem_cons_of_mem _ tw_2) (Nat.le_of_ble_eq_true rfl) (Nat.le_of_ble_eq_true rfl) dX9_init_1 ?_
  refine V.aload_n C dX9_init_4 rfl ?_
  refine V.iload_n C dX9_init_5 rfl ?_
  refine V.newarrayI C (t0 := 0) (N := 3) rfl rfl (by decide) (List.mem_cons_of_mem _ tw_83) (Nat.le_of_ble_eq_true rfl) (Nat.le_of_ble_eq_true rfl) dX9_init_6 (fun q1 => ?_)
  refine V.putF C (q0 := 0) (k := 0) (w' := _) rfl rfl (by decide) (iz_X9 _) (List.mem_cons_of_mem _ tw_216) rfl tyX9 tyX9_ok nmX9 rfl rfl rfl rfl rfl rfl (Nat.le_of_ble_eq_true rfl) rfl dX9_init_8 ?_
  refine V.iconst C (v := nI 0) dX9_init_11 (by decide) ?_
  refine V.istore_n C dX9_init_12 (by decide) rfl ?_
  dsimp only [List.set, Fin.val]
  refine V.iload_n C dX9_init_13 rfl ?_
  refine V.iload_n C dX9_init_14 rfl ?_
  refine V.icmp_ge C (tgt := 33) dX9_init_15 (by decide) (fun c15 => ?_) (fun c15 => ?_)
  · exfalso; exact absurd c15 (by decide +kernel)
  refine V.aload_n C dX9_init_18 rfl ?_
  refine V.get C (q0 := 0) (k := 0) rfl rfl (by decide) (iz_X9 _) (List.mem_cons_of_mem _ tw_216) rfl rfl dX9_init_19 ?_
  refine V.iload_n C dX9_init_22 rfl ?_
  refine V.iload_n C dX9_init_23 rfl ?_
  refine V.iconst C (v := nI 1) dX9_init_24 (by decide) ?_
  refine V.iadd C dX9_init_25 ?_
  refine V.topi (y := nI 1) (by decide +kernel) ?_
  refine V.iast C (q0 := 1) (t0 := 0) (w' := _) rfl rfl (j := 0) rfl (by decide) (by decide) rfl dX9_init_26 ?_
  refine V.iinc C (v := nI 1) dX9_init_27 rfl (by decide +kernel) (by decide) rfl ?_
  dsimp only [List.set]
  refine V.goto C (tgt := 13) dX9_init_30 (by decide) ?_
  refine V.iload_n C dX9_init_13 rfl ?_
  refine V.iload_n C dX9_init_14 rfl ?_
  refine V.icmp_ge C (tgt := 33) dX9_init_15 (by decide) (fun c15 => ?_) (fun c15 => ?_)
  · exfalso; exact absurd c15 (by decide +kernel)
  refine V.aload_n C dX9_init_18 rfl ?_
  refine V.get C (q0 := 0) (k := 0) rfl rfl (by decide) (iz_X9 _) (List.mem_cons_of_mem _ tw_216) rfl rfl dX9_init_19 ?_
  refine V.iload_n C dX9_init_22 rfl ?_
  refine V.iload_n C dX9_init_23 rfl ?_
  refine V.iconst C (v := nI 1) dX9_init_24 (by decide) ?_
  refine V.iadd C dX9_init_25 ?_
  refine V.topi (y := nI 1) (by decide +kernel) ?_
  refine V.iast C (q0 := 1) (t0 := 0) (w' := _) rfl rfl (j := 1) rfl (by decide) (by decide) rfl dX9_init_26 ?_
  refine V.iinc C (v := nI 2) dX9_init_27 rfl (by decide +kernel) (by decide) rfl ?_
  dsimp only [List.set]
  refine V.goto C (tgt := 13) dX9_init_30 (by decide) ?_
  refine V.iload_n C dX9_init_13 rfl ?_
  refine V.iload_n C dX9_init_14 rfl ?_
  refine V.icmp_ge C (tgt := 33) dX9_init_15 (by decide) (fun c15 => ?_) (fun c15 => ?_)
  · exfalso; exact absurd c15 (by decide +kernel)
  refine V.aload_n C dX9_init_18 rfl ?_
  refine V.get C (q0 := 0) (k := 0) rfl rfl (by decide) (iz_X9 _) (List.mem_cons_of_mem _ tw_216) rfl rfl dX9_init_19 ?_
  refine V.iload_n C dX9_init_22 rfl ?_
  refine V.iload_n C dX9_init_23 rfl ?_
  refine V.iconst C (v := nI 1) dX9_init_24 (by decide) ?_
  refine V.iadd C dX9_init_25 ?_
  refine V.topi (y := nI 1) (by decide +kernel) ?_
  refine V.iast C (q0 := 1) (t0 := 0) (w' := _) rfl rfl (j := 2) rfl (by decide) (by decide) rfl dX9_init_26 ?_
  refine V.iinc C (v := nI 3) dX9_init_27 rfl (by decide +kernel) (by decide) rfl ?_
  dsimp only [List.set]
  refine V.goto C (tgt := 13) dX9_init_30 (by decide) ?_
  refine V.iload_n C dX9_init_13 rfl ?_
  refine V.iload_n C dX9_init_14 rfl ?_
  refine V.icmp_ge C (tgt := 33) dX9_init_15 (by decide) (fun c15 => ?_) (fun c15 => ?_)
  rotate_left
  · exfalso; exact absurd c15 (by decide +kernel)
  refine V.reord [0] (w' := [(o, .inr (11, [.ref q1]))]) rfl (by decide) rfl ?_
  refine V.widen (k := 1) (n := 5) (Nat.le_of_ble_eq_true rfl) (Nat.le_of_ble_eq_true rfl) ?_
  exact hQ _ _ _ _ _ (Or.inl ⟨dX9_init_33, rfl, rfl, rfl⟩) ⟨_, rfl, rfl⟩
set_option maxRecDepth 100000 in
set_option maxHeartbeats 4000000 in
theorem cz_X9_init_4 {l : Launch} {D : va_G} {cI cL cII cO : ClassId} {e0 : Nat} {o : Nat} : CtZ l D (TY cI cL cII cO) e0 yX9_init (Cond.code yX9_init cX9_init 4 none :: TBL) ({ frames := 1, cells := 1, slots := 5, locals := 28 } : Room) [(o, .inr (11, [.null]))] [.ref o, .int (nI 0), .int (nI 4)] (fun r z => ∃ q, r = none ∧ z = [(o, .inr (11, [.ref q]))]) := by
  refine CtZ.of [some (.ref o), some (.int (nI 0)), some (.int (nI 4)), none] (by decide) rfl rfl (Nat.le_of_ble_eq_true rfl) rfl (fun κ C ZE hQ => ?_)
  refine V.aload_n C dX9_init_0 rfl ?_
  refine V.objInit C (List.mem_cons_of_mem _ tw_215) (List.mem_cons_of_mem _ tw_1) (List.mem_cons_of_mem _ tw_2) (Nat.le_of_ble_eq_true rfl) (Nat.le_of_ble_eq_true rfl) dX9_init_1 ?_
  refine V.aload_n C dX9_init_4 rfl ?_
  refine V.iload_n C dX9_init_5 rfl ?_
  refine V.newarrayI C (t0 := 0) (N := 4) rfl rfl (by decide) (List.mem_cons_of_mem _ tw_83) (Nat.le_of_ble_eq_true rfl) (Nat.le_of_ble_eq_true rfl) dX9_init_6 (fun q1 => ?_)
  refine V.putF C (q0 := 0) (k := 0) (w' := _) rfl rfl (by decide) (iz_X9 _) (List.mem_cons_of_mem _ tw_216) rfl tyX9 tyX9_ok nmX9 rfl rfl rfl rfl rfl rfl (Nat.le_of_ble_eq_true rfl) rfl dX9_init_8 ?_
  refine V.iconst C (v := nI 0) dX9_init_11 (by decide) ?_
  refine V.istore_n C dX9_init_12 (by decide) rfl ?_
  dsimp only [List.set, Fin.val]
  refine V.iload_n C dX9_init_13 rfl ?_
  refine V.iload_n C dX9_init_14 rfl ?_
  refine V.icmp_ge C (tgt := 33) dX9_init_15 (by decide) (fun c15 => ?_) (fun c15 => ?_)
  · exfalso; exact absurd c15 (by decide +kernel)
  refine V.aload_n C dX9_init_18 rfl ?_
  refine V.get C (q0 := 0) (k := 0) rfl rfl (by decide) (iz_X9 _) (List.mem_cons_of_mem _ tw_216) rfl rfl dX9_init_19 ?_
  refine V.iload_n C dX9_init_22 rfl ?_
  refine V.iload_n C dX9_init_23 rfl ?_
  refine V.iconst C (v := nI 1) dX9_init_24 (by decide) ?_
  refine V.iadd C dX9_init_25 ?_
  refine V.topi (y := nI 1) (by decide +kernel) ?_
  refine V.iast C (q0 := 1) (t0 := 0) (w' := _) rfl rfl (j := 0) rfl (by decide) (by decide) rfl dX9_init_26 ?_
  refine V.iinc C (v := nI 1) dX9_init_27 rfl (by decide +kernel) (by decide) rfl ?_
  dsimp only [List.set]
  refine V.goto C (tgt := 13) dX9_init_30 (by decide) ?_
  refine V.iload_n C dX9_init_13 rfl ?_
  refine V.iload_n C dX9_init_14 rfl ?_
  refine V.icmp_ge C (tgt := 33) dX9_init_15 (by decide) (fun c15 => ?_) (fun c15 => ?_)
  · exfalso; exact absurd c15 (by decide +kernel)
  refine V.aload_n C dX9_init_18 rfl ?_
  refine V.get C (q0 := 0) (k := 0) rfl rfl (by decide) (iz_X9 _) (List.mem_cons_of_mem _ tw_216) rfl rfl dX9_init_19 ?_
  refine V.iload_n C dX9_init_22 rfl ?_
  refine V.iload_n C dX9_init_23 rfl ?_
  refine V.iconst C (v := nI 1) dX9_init_24 (by decide) ?_
  refine V.iadd C dX9_init_25 ?_
  refine V.topi (y := nI 1) (by decide +kernel) ?_
  refine V.iast C (q0 := 1) (t0 := 0) (w' := _) rfl rfl (j := 1) rfl (by decide) (by decide) rfl dX9_init_26 ?_
  refine V.iinc C (v := nI 2) dX9_init_27 rfl (by decide +kernel) (by decide) rfl ?_
  dsimp only [List.set]
  refine V.goto C (tgt := 13) dX9_init_30 (by decide) ?_
  refine V.iload_n C dX9_init_13 rfl ?_
  refine V.iload_n C dX9_init_14 rfl ?_
  refine V.icmp_ge C (tgt := 33) dX9_init_15 (by decide) (fun c15 => ?_) (fun c15 => ?_)
  · exfalso; exact absurd c15 (by decide +kernel)
  refine V.aload_n C dX9_init_18 rfl ?_
  refine V.get C (q0 := 0) (k := 0) rfl rfl (by decide) (iz_X9 _) (List.mem_cons_of_mem _ tw_216) rfl rfl dX9_init_19 ?_
  refine V.iload_n C dX9_init_22 rfl ?_
  refine V.iload_n C dX9_init_23 rfl ?_
  refine V.iconst C (v := nI 1) dX9_init_24 (by decide) ?_
  refine V.iadd C dX9_init_25 ?_
  refine V.topi (y := nI 1) (by decide +kernel) ?_
  refine V.iast C (q0 := 1) (t0 := 0) (w' := _) rfl rfl (j := 2) rfl (by decide) (by decide) rfl dX9_init_26 ?_
  refine V.iinc C (v := nI 3) dX9_init_27 rfl (by decide +kernel) (by decide) rfl ?_
  dsimp only [List.set]
  refine V.goto C (tgt := 13) dX9_init_30 (by decide) ?_
  refine V.iload_n C dX9_init_13 rfl ?_
  refine V.iload_n C dX9_init_14 rfl ?_
  refine V.icmp_ge C (tgt := 33) dX9_init_15 (by decide) (fun c15 => ?_) (fun c15 => ?_)
  · exfalso; exact absurd c15 (by decide +kernel)
  refine V.aload_n C dX9_init_18 rfl ?_
  refine V.get C (q0 := 0) (k := 0) rfl rfl (by decide) (iz_X9 _) (List.mem_cons_of_mem _ tw_216) rfl rfl dX9_init_19 ?_
  refine V.iload_n C dX9_init_22 rfl ?_
  refine V.iload_n C dX9_init_23 rfl ?_
  refine V.iconst C (v := nI 1) dX9_init_24 (by decide) ?_
  refine V.iadd C dX9_init_25 ?_
  refine V.topi (y := nI 1) (by decide +kernel) ?_
  refine V.iast C (q0 := 1) (t0 := 0) (w' := _) rfl rfl (j := 3) rfl (by decide) (by decide) rfl dX9_init_26 ?_
  refine V.iinc C (v := nI 4) dX9_init_27 rfl (by decide +kernel) (by decide) rfl ?_
  dsimp only [List.set]
  refine V.goto C (tgt := 13) dX9_init_30 (by decide) ?_
  refine V.iload_n C dX9_init_13 rfl ?_
  refine V.iload_n C dX9_init_14 rfl ?_
  refine V.icmp_ge C (tgt := 33) dX9_init_15 (by decide) (fun c15 => ?_) (fun c15 => ?_)
  rotate_left
  · exfalso; exact absurd c15 (by decide +kernel)
  refine V.reord [0] (w' := [(o, .inr (11, [.ref q1]))]) rfl (by decide) rfl ?_
  refine V.widen (k := 1) (n := 5) (Nat.le_of_ble_eq_true rfl) (Nat.le_of_ble_eq_true rfl) ?_
  exact hQ _ _ _ _ _ (Or.inl ⟨dX9_init_33, rfl, rfl, rfl⟩) ⟨_, rfl, rfl⟩
set_option maxRecDepth 100000 in
set_option maxHeartbeats 4000000 in
theorem cz_X9_init_5 {l : Launch} {D : va_G} {cI cL cII cO : ClassId} {e0 : Nat} {o : Nat} : CtZ l D (TY cI cL cII cO) e0 yX9_init (Cond.code yX9_init cX9_init 4 none :: TBL) ({ frames := 1, cells := 1, slots := 5, locals := 28 } : Room) [(o, .inr (11, [.null]))] [.ref o, .int (nI 0), .int (nI 5)] (fun r z => ∃ q, r = none ∧ z = [(o, .inr (11, [.ref q]))]) := by
  refine CtZ.of [some (.ref o), some (.int (nI 0)), some (.int (nI 5)), none] (by decide) rfl rfl (Nat.le_of_ble_eq_true rfl) rfl (fun κ C ZE hQ => ?_)
  refine V.aload_n C dX9_init_0 rfl ?_
  refine V.objInit C (List.mem_cons_of_mem _ tw_215) (List.mem_cons_of_mem _ tw_1) (List.mem_cons_of_mem _ tw_2) (Nat.le_of_ble_eq_true rfl) (Nat.le_of_ble_eq_true rfl) dX9_init_1 ?_
  refine V.aload_n C dX9_init_4 rfl ?_
  refine V.iload_n C dX9_init_5 rfl ?_
  refine V.newarrayI C (t0 := 0) (N := 5) rfl rfl (by decide) (List.mem_cons_of_mem _ tw_83) (Nat.le_of_ble_eq_true rfl) (Nat.le_of_ble_eq_true rfl) dX9_init_6 (fun q1 => ?_)
  refine V.putF C (q0 := 0) (k := 0) (w' := _) rfl rfl (by decide) (iz_X9 _) (List.mem_cons_of_mem _ tw_216) rfl tyX9 tyX9_ok nmX9 rfl rfl rfl rfl rfl rfl (Nat.le_of_ble_eq_true rfl) rfl dX9_init_8 ?_
  refine V.iconst C (v := nI 0) dX9_init_11 (by decide) ?_
  refine V.istore_n C dX9_init_12 (by decide) rfl ?_
  dsimp only [List.set, Fin.val]
  refine V.iload_n C dX9_init_13 rfl ?_
  refine V.iload_n C dX9_init_14 rfl ?_
  refine V.icmp_ge C (tgt := 33) dX9_init_15 (by decide) (fun c15 => ?_) (fun c15 => ?_)
  · exfalso; exact absurd c15 (by decide +kernel)
  refine V.aload_n C dX9_init_18 rfl ?_
  refine V.get C (q0 := 0) (k := 0) rfl rfl (by decide) (iz_X9 _) (List.mem_cons_of_mem _ tw_216) rfl rfl dX9_init_19 ?_
  refine V.iload_n C dX9_init_22 rfl ?_
  refine V.iload_n C dX9_init_23 rfl ?_
  refine V.iconst C (v := nI 1) dX9_init_24 (by decide) ?_
  refine V.iadd C dX9_init_25 ?_
  refine V.topi (y := nI 1) (by decide +kernel) ?_
  refine V.iast C (q0 := 1) (t0 := 0) (w' := _) rfl rfl (j := 0) rfl (by decide) (by decide) rfl dX9_init_26 ?_
  refine V.iinc C (v := nI 1) dX9_init_27 rfl (by decide +kernel) (by decide) rfl ?_
  dsimp only [List.set]
  refine V.goto C (tgt := 13) dX9_init_30 (by decide) ?_
  refine V.iload_n C dX9_init_13 rfl ?_
  refine V.iload_n C dX9_init_14 rfl ?_
  refine V.icmp_ge C (tgt := 33) dX9_init_15 (by decide) (fun c15 => ?_) (fun c15 => ?_)
  · exfalso; exact absurd c15 (by decide +kernel)
  refine V.aload_n C dX9_init_18 rfl ?_
  refine V.get C (q0 := 0) (k := 0) rfl rfl (by decide) (iz_X9 _) (List.mem_cons_of_mem _ tw_216) rfl rfl dX9_init_19 ?_
  refine V.iload_n C dX9_init_22 rfl ?_
  refine V.iload_n C dX9_init_23 rfl ?_
  refine V.iconst C (v := nI 1) dX9_init_24 (by decide) ?_
  refine V.iadd C dX9_init_25 ?_
  refine V.topi (y := nI 1) (by decide +kernel) ?_
  refine V.iast C (q0 := 1) (t0 := 0) (w' := _) rfl rfl (j := 1) rfl (by decide) (by decide) rfl dX9_init_26 ?_
  refine V.iinc C (v := nI 2) dX9_init_27 rfl (by decide +kernel) (by decide) rfl ?_
  dsimp only [List.set]
  refine V.goto C (tgt := 13) dX9_init_30 (by decide) ?_
  refine V.iload_n C dX9_init_13 rfl ?_
  refine V.iload_n C dX9_init_14 rfl ?_
  refine V.icmp_ge C (tgt := 33) dX9_init_15 (by decide) (fun c15 => ?_) (fun c15 => ?_)
  · exfalso; exact absurd c15 (by decide +kernel)
  refine V.aload_n C dX9_init_18 rfl ?_
  refine V.get C (q0 := 0) (k := 0) rfl rfl (by decide) (iz_X9 _) (List.mem_cons_of_mem _ tw_216) rfl rfl dX9_init_19 ?_
  refine V.iload_n C dX9_init_22 rfl ?_
  refine V.iload_n C dX9_init_23 rfl ?_
  refine V.iconst C (v := nI 1) dX9_init_24 (by decide) ?_
  refine V.iadd C dX9_init_25 ?_
  refine V.topi (y := nI 1) (by decide +kernel) ?_
  refine V.iast C (q0 := 1) (t0 := 0) (w' := _) rfl rfl (j := 2) rfl (by decide) (by decide) rfl dX9_init_26 ?_
  refine V.iinc C (v := nI 3) dX9_init_27 rfl (by decide +kernel) (by decide) rfl ?_
  dsimp only [List.set]
  refine V.goto C (tgt := 13) dX9_init_30 (by decide) ?_
  refine V.iload_n C dX9_init_13 rfl ?_
  refine V.iload_n C dX9_init_14 rfl ?_
  refine V.icmp_ge C (tgt := 33) dX9_init_15 (by decide) (fun c15 => ?_) (fun c15 => ?_)
  · exfalso; exact absurd c15 (by decide +kernel)
  refine V.aload_n C dX9_init_18 rfl ?_
  refine V.get C (q0 := 0) (k := 0) rfl rfl (by decide) (iz_X9 _) (List.mem_cons_of_mem _ tw_216) rfl rfl dX9_init_19 ?_
  refine V.iload_n C dX9_init_22 rfl ?_
  refine V.iload_n C dX9_init_23 rfl ?_
  refine V.iconst C (v := nI 1) dX9_init_24 (by decide) ?_
  refine V.iadd C dX9_init_25 ?_
  refine V.topi (y := nI 1) (by decide +kernel) ?_
  refine V.iast C (q0 := 1) (t0 := 0) (w' := _) rfl rfl (j := 3) rfl (by decide) (by decide) rfl dX9_init_26 ?_
  refine V.iinc C (v := nI 4) dX9_init_27 rfl (by decide +kernel) (by decide) rfl ?_
  dsimp only [List.set]
  refine V.goto C (tgt := 13) dX9_init_30 (by decide) ?_
  refine V.iload_n C dX9_init_13 rfl ?_
  refine V.iload_n C dX9_init_14 rfl ?_
  refine V.icmp_ge C (tgt := 33) dX9_init_15 (by decide) (fun c15 => ?_) (fun c15 => ?_)
  · exfalso; exact absurd c15 (by decide +kernel)
  refine V.aload_n C dX9_init_18 rfl ?_
  refine V.get C (q0 := 0) (k := 0) rfl rfl (by decide) (iz_X9 _) (List.mem_cons_of_mem _ tw_216) rfl rfl dX9_init_19 ?_
  refine V.iload_n C dX9_init_22 rfl ?_
  refine V.iload_n C dX9_init_23 rfl ?_
  refine V.iconst C (v := nI 1) dX9_init_24 (by decide) ?_
  refine V.iadd C dX9_init_25 ?_
  refine V.topi (y := nI 1) (by decide +kernel) ?_
  refine V.iast C (q0 := 1) (t0 := 0) (w' := _) rfl rfl (j := 4) rfl (by decide) (by decide) rfl dX9_init_26 ?_
  refine V.iinc C (v := nI 5) dX9_init_27 rfl (by decide +kernel) (by decide) rfl ?_
  dsimp only [List.set]
  refine V.goto C (tgt := 13) dX9_init_30 (by decide) ?_
  refine V.iload_n C dX9_init_13 rfl ?_
  refine V.iload_n C dX9_init_14 rfl ?_
  refine V.icmp_ge C (tgt := 33) dX9_init_15 (by decide) (fun c15 => ?_) (fun c15 => ?_)
  rotate_left
  · exfalso; exact absurd c15 (by decide +kernel)
  refine V.reord [0] (w' := [(o, .inr (11, [.ref q1]))]) rfl (by decide) rfl ?_
  refine V.widen (k := 1) (n := 5) (Nat.le_of_ble_eq_true rfl) (Nat.le_of_ble_eq_true rfl) ?_
  exact hQ _ _ _ _ _ (Or.inl ⟨dX9_init_33, rfl, rfl, rfl⟩) ⟨_, rfl, rfl⟩
set_option maxRecDepth 100000 in
set_option maxHeartbeats 4000000 in
theorem cz_X10_question_2 {l : Launch} {D : va_G} {cI cL cII cO : ClassId} {e0 : Nat} {g : Nat → Nat}  : CtZ l D (TY cI cL cII cO) e0 yX10_question (Cond.code yX10_question cX10_question 2 (some .int) :: TBL) ({ frames := 5, cells := 3, slots := 16, locals := 116 } : Room) (MF cI cII e0 g ((nI 0))) [.ref (g 0), .int (nI 2)] (fun r z => ∃ fs, r = some (.int (nI 0)) ∧ z = [(g 0, .inr (12, .int (nI 0) :: fs))]) := by
  refine CtZ.of [some (.ref (g 0)), some (.int (nI 2))] (by decide) rfl rfl (Nat.le_of_ble_eq_true rfl) rfl (fun κ C ZE hQ => ?_)
  refine V.aload_n C dX10_question_0 rfl ?_
  refine V.iload_n C dX10_question_1 rfl ?_
  refine V.iconst C (v := nI 2) dX10_question_2 (by decide) ?_
  refine V.iconst C (v := nI 5) dX10_question_3 (by decide) ?_
  refine V.zSin C ZE (cz_X10_isIn) gz_X10_45 (n := 3) ⟨by decide, by decide, by decide +kernel⟩ rfl rfl ⟨Nat.le_of_ble_eq_true rfl, Nat.le_of_ble_eq_true rfl⟩ ⟨Nat.le_of_ble_eq_true rfl, Nat.le_of_ble_eq_true rfl⟩ (Nat.le_of_ble_eq_true rfl) rfl dX10_question_4 ?_
  refine V.topi (y := nI 1) (by decide +kernel) ?_
  refine V.if_ne C (tgt := 14) dX10_question_7 (by decide) (fun c7 => ?_) (fun c7 => ?_)
  rotate_left
  · exfalso; exact absurd c7 (by decide +kernel)
  refine V.iconst C (v := nI 0) dX10_question_14 (by decide) ?_
  refine V.iconst C (v := nI 1) dX10_question_15 (by decide) ?_
  refine V.zVix C ZE (X := []) (cz_X10_start_f1) (by first | rfl | exact (List.append_nil _).symm) gz_X10_63 (n := 2) ⟨rfl, by decide, by decide, by decide +kernel⟩ rfl (q0 := 0) rfl rfl rfl ⟨Nat.le_of_ble_eq_true rfl, Nat.le_of_ble_eq_true rfl⟩ ⟨Nat.le_of_ble_eq_true rfl, Nat.le_of_ble_eq_true rfl⟩ (Nat.le_of_ble_eq_true rfl) rfl dX10_question_16 ?_
  refine V.if_ne C (tgt := 57) dX10_question_19 (by decide) (fun c19 => ?_) (fun c19 => ?_)
  · exfalso; exact absurd c19 (by decide +kernel)
  refine V.aload_n C dX10_question_22 rfl ?_
  refine V.aload_n C dX10_question_23 rfl ?_
  refine V.get C (q0 := 0) (k := 1) rfl rfl (by decide) (iz_X10 _) (List.mem_cons_of_mem _ tw_66) rfl rfl dX10_question_24 ?_
  refine V.zVin C ZE (cz_Jx4a65c_size_8abf5 (k := 1) rfl) gz_X10_41 (n := 0) ⟨rfl, by decide, by decide, by decide +kernel⟩ rfl (q0 := 1) rfl rfl rfl ⟨Nat.le_of_ble_eq_true rfl, Nat.le_of_ble_eq_true rfl⟩ ⟨Nat.le_of_ble_eq_true rfl, Nat.le_of_ble_eq_true rfl⟩ (Nat.le_of_ble_eq_true rfl) rfl dX10_question_27 ?_
  refine V.bipush C (v := nI 10) dX10_question_30 (by decide) ?_
  refine V.icmp_eq C (tgt := 45) dX10_question_32 (by decide) (fun c32 => ?_) (fun c32 => ?_)
  · exfalso; exact absurd c32 (by decide +kernel)
  refine V.aload_n C dX10_question_35 rfl ?_
  refine V.get C (q0 := 0) (k := 3) rfl rfl (by decide) (iz_X10 _) (List.mem_cons_of_mem _ tw_80) rfl rfl dX10_question_36 ?_
  refine V.zVin C ZE (cz_Jx4a65c_isEmpty_aae02 (k := 3) rfl) gz_X10_66 (n := 0) ⟨rfl, by decide, by decide, by decide +kernel⟩ rfl (q0 := 3) rfl rfl rfl ⟨Nat.le_of_ble_eq_true rfl, Nat.le_of_ble_eq_true rfl⟩ ⟨Nat.le_of_ble_eq_true rfl, Nat.le_of_ble_eq_true rfl⟩ (Nat.le_of_ble_eq_true rfl) rfl dX10_question_39 ?_
  refine V.if_ne C (tgt := 49) dX10_question_42 (by decide) (fun c42 => ?_) (fun c42 => ?_)
  rotate_left
  · exfalso; exact absurd c42 (by decide +kernel)
  refine V.iconst C (v := nI 0) dX10_question_49 (by decide) ?_
  refine V.iconst C (v := nI 2) dX10_question_50 (by decide) ?_
  refine V.zVix C ZE (X := []) (cz_X10_refuse_f2) (by first | rfl | exact (List.append_nil _).symm) gz_X10_37 (n := 2) ⟨rfl, by decide, by decide, by decide +kernel⟩ rfl (q0 := 0) rfl rfl rfl ⟨Nat.le_of_ble_eq_true rfl, Nat.le_of_ble_eq_true rfl⟩ ⟨Nat.le_of_ble_eq_true rfl, Nat.le_of_ble_eq_true rfl⟩ (Nat.le_of_ble_eq_true rfl) rfl dX10_question_51 ?_
  refine V.if_eq C (tgt := 59) dX10_question_54 (by decide) (fun c54 => ?_) (fun c54 => ?_)
  rotate_left
  · exfalso; exact absurd c54 (by decide +kernel)
  refine V.aload_n C dX10_question_59 rfl ?_
  refine V.get C (q0 := 0) (k := 1) rfl rfl (by decide) (iz_X10 _) (List.mem_cons_of_mem _ tw_66) rfl rfl dX10_question_60 ?_
  refine V.new C (ci := 11) (fs := [.null]) (iz_X9 _) tyX9 tyX9_ok (List.mem_cons_of_mem _ tw_218) (List.mem_cons_of_mem _ tw_219) (List.mem_cons_of_mem _ tw_220) rfl (by intro j hj; rcases (show j = 0 by omega) with rfl <;> rfl) (Nat.le_of_ble_eq_true rfl) (Nat.le_of_ble_eq_true rfl) dX10_question_63 (fun q1 => ?_)
  refine V.dup C dX10_question_66 rfl ?_
  refine V.aload_n C dX10_question_67 rfl ?_
  refine V.get C (q0 := 0) (k := 1) rfl rfl (by decide) (iz_X10 _) (List.mem_cons_of_mem _ tw_66) rfl rfl dX10_question_68 ?_
  refine V.zVin C ZE (cz_Jx4a65c_size_8abf5 (k := 1) rfl) gz_X10_41 (n := 0) ⟨rfl, by decide, by decide, by decide +kernel⟩ rfl (q0 := 1) rfl rfl rfl ⟨Nat.le_of_ble_eq_true rfl, Nat.le_of_ble_eq_true rfl⟩ ⟨Nat.le_of_ble_eq_true rfl, Nat.le_of_ble_eq_true rfl⟩ (Nat.le_of_ble_eq_true rfl) rfl dX10_question_71 ?_
  refine V.iload_n C dX10_question_74 rfl ?_
  refine V.swapw ?_
  refine V.zIux C ZE (cz_X9_init_2) (by first | rfl | exact (List.append_nil _).symm) gi_X9_init (List.mem_cons_of_mem _ tw_220) (List.mem_cons_of_mem _ tw_221) (List.mem_cons_of_mem _ tw_222) rfl (n := 2) ⟨by decide, by decide, by decide +kernel⟩ rfl rfl ⟨Nat.le_of_ble_eq_true rfl, Nat.le_of_ble_eq_true rfl⟩ ⟨Nat.le_of_ble_eq_true rfl, Nat.le_of_ble_eq_true rfl⟩ (Nat.le_of_ble_eq_true rfl) rfl dX10_question_75 (fun q2 => ?_)
  refine V.swapw ?_
  refine V.reord [1, 9, 0] (w' := [(g 1, .inr (1, [.int (nI 0), .ref e0, .int (nI 0)])), (q1, .inr (11, [.ref q2])), (g 0, .inr (12, [.int (nI 0), .ref (g 1), .ref (g 2), .ref (g 3), .ref (g 5), .ref (g 4), .int (nI 0), .int (nI 0), .int (nI 3), .int (nI 0)]))]) rfl (by decide) rfl ?_
  refine V.zVex C ZE (X := [(g 0, .inr (12, [.int (nI 0), .ref (g 1), .ref (g 2), .ref (g 3), .ref (g 5), .ref (g 4), .int (nI 0), .int (nI 0), .int (nI 3), .int (nI 0)]))]) (cz_Jx4a65c_add_9ea2d_o (E1 := RX9) (by decide +kernel) (Or.inl ⟨11, _, _, _, rfl, rfl⟩)) rfl gz_X10_73 (n := 1) ⟨rfl, by decide, by decide, by decide +kernel⟩ rfl (q0 := 0) rfl rfl rfl ⟨Nat.le_of_ble_eq_true rfl, Nat.le_of_ble_eq_true rfl⟩ ⟨Nat.le_of_ble_eq_true rfl, Nat.le_of_ble_eq_true rfl⟩ (Nat.le_of_ble_eq_true rfl) rfl dX10_question_78 (fun q3 => ?_)
  refine V.pop C dX10_question_81 rfl ?_
  refine V.aload_n C dX10_question_82 rfl ?_
  refine V.get C (q0 := 2) (k := 1) rfl rfl (by decide) (iz_X10 _) (List.mem_cons_of_mem _ tw_66) rfl rfl dX10_question_83 ?_
  refine V.zVin C ZE (cz_Jx4a65c_size_8abf5 (k := 0) rfl) gz_X10_41 (n := 0) ⟨rfl, by decide, by decide, by decide +kernel⟩ rfl (q0 := 0) rfl rfl rfl ⟨Nat.le_of_ble_eq_true rfl, Nat.le_of_ble_eq_true rfl⟩ ⟨Nat.le_of_ble_eq_true rfl, Nat.le_of_ble_eq_true rfl⟩ (Nat.le_of_ble_eq_true rfl) rfl dX10_question_86 ?_
  refine V.iconst C (v := nI 1) dX10_question_89 (by decide) ?_
  refine V.isub C dX10_question_90 ?_
  refine V.topi (y := nI 0) (by decide +kernel) ?_
  refine V.pick (k := 2) rfl ?_
  refine V.widen (k := 3) (n := 16) (Nat.le_of_ble_eq_true rfl) (Nat.le_of_ble_eq_true rfl) ?_
  exact hQ _ _ _ _ _ (Or.inr (Or.inl ⟨_, _, dX10_question_91, rfl, by first | rfl | exact nar_bI _, rfl, rfl⟩)) ⟨_, rfl, rfl⟩
set_option maxRecDepth 100000 in
set_option maxHeartbeats 4000000 in
theorem cz_X10_question_3 {l : Launch} {D : va_G} {cI cL cII cO : ClassId} {e0 : Nat} {g : Nat → Nat}  : CtZ l D (TY cI cL cII cO) e0 yX10_question (Cond.code yX10_question cX10_question 2 (some .int) :: TBL) ({ frames := 5, cells := 3, slots := 16, locals := 116 } : Room) (MF cI cII e0 g ((nI 0))) [.ref (g 0), .int (nI 3)] (fun r z => ∃ fs, r = some (.int (nI 0)) ∧ z = [(g 0, .inr (12, .int (nI 0) :: fs))]) := by
  refine CtZ.of [some (.ref (g 0)), some (.int (nI 3))] (by decide) rfl rfl (Nat.le_of_ble_eq_true rfl) rfl (fun κ C ZE hQ => ?_)
  refine V.aload_n C dX10_question_0 rfl ?_
  refine V.iload_n C dX10_question_1 rfl ?_
  refine V.iconst C (v := nI 2) dX10_question_2 (by decide) ?_
  refine V.iconst C (v := nI 5) dX10_question_3 (by decide) ?_
  refine V.zSin C ZE (cz_X10_isIn) gz_X10_45 (n := 3) ⟨by decide, by decide, by decide +kernel⟩ rfl rfl ⟨Nat.le_of_ble_eq_true rfl, Nat.le_of_ble_eq_true rfl⟩ ⟨Nat.le_of_ble_eq_true rfl, Nat.le_of_ble_eq_true rfl⟩ (Nat.le_of_ble_eq_true rfl) rfl dX10_question_4 ?_
  refine V.topi (y := nI 1) (by decide +kernel) ?_
  refine V.if_ne C (tgt := 14) dX10_question_7 (by decide) (fun c7 => ?_) (fun c7 => ?_)
  rotate_left
  · exfalso; exact absurd c7 (by decide +kernel)
  refine V.iconst C (v := nI 0) dX10_question_14 (by decide) ?_
  refine V.iconst C (v := nI 1) dX10_question_15 (by decide) ?_
  refine V.zVix C ZE (X := []) (cz_X10_start_f1) (by first | rfl | exact (List.append_nil _).symm) gz_X10_63 (n := 2) ⟨rfl, by decide, by decide, by decide +kernel⟩ rfl (q0 := 0) rfl rfl rfl ⟨Nat.le_of_ble_eq_true rfl, Nat.le_of_ble_eq_true rfl⟩ ⟨Nat.le_of_ble_eq_true rfl, Nat.le_of_ble_eq_true rfl⟩ (Nat.le_of_ble_eq_true rfl) rfl dX10_question_16 ?_
  refine V.if_ne C (tgt := 57) dX10_question_19 (by decide) (fun c19 => ?_) (fun c19 => ?_)
  · exfalso; exact absurd c19 (by decide +kernel)
  refine V.aload_n C dX10_question_22 rfl ?_
  refine V.aload_n C dX10_question_23 rfl ?_
  refine V.get C (q0 := 0) (k := 1) rfl rfl (by decide) (iz_X10 _) (List.mem_cons_of_mem _ tw_66) rfl rfl dX10_question_24 ?_
  refine V.zVin C ZE (cz_Jx4a65c_size_8abf5 (k := 1) rfl) gz_X10_41 (n := 0) ⟨rfl, by decide, by decide, by decide +kernel⟩ rfl (q0 := 1) rfl rfl rfl ⟨Nat.le_of_ble_eq_true rfl, Nat.le_of_ble_eq_true rfl⟩ ⟨Nat.le_of_ble_eq_true rfl, Nat.le_of_ble_eq_true rfl⟩ (Nat.le_of_ble_eq_true rfl) rfl dX10_question_27 ?_
  refine V.bipush C (v := nI 10) dX10_question_30 (by decide) ?_
  refine V.icmp_eq C (tgt := 45) dX10_question_32 (by decide) (fun c32 => ?_) (fun c32 => ?_)
  · exfalso; exact absurd c32 (by decide +kernel)
  refine V.aload_n C dX10_question_35 rfl ?_
  refine V.get C (q0 := 0) (k := 3) rfl rfl (by decide) (iz_X10 _) (List.mem_cons_of_mem _ tw_80) rfl rfl dX10_question_36 ?_
  refine V.zVin C ZE (cz_Jx4a65c_isEmpty_aae02 (k := 3) rfl) gz_X10_66 (n := 0) ⟨rfl, by decide, by decide, by decide +kernel⟩ rfl (q0 := 3) rfl rfl rfl ⟨Nat.le_of_ble_eq_true rfl, Nat.le_of_ble_eq_true rfl⟩ ⟨Nat.le_of_ble_eq_true rfl, Nat.le_of_ble_eq_true rfl⟩ (Nat.le_of_ble_eq_true rfl) rfl dX10_question_39 ?_
  refine V.if_ne C (tgt := 49) dX10_question_42 (by decide) (fun c42 => ?_) (fun c42 => ?_)
  rotate_left
  · exfalso; exact absurd c42 (by decide +kernel)
  refine V.iconst C (v := nI 0) dX10_question_49 (by decide) ?_
  refine V.iconst C (v := nI 2) dX10_question_50 (by decide) ?_
  refine V.zVix C ZE (X := []) (cz_X10_refuse_f2) (by first | rfl | exact (List.append_nil _).symm) gz_X10_37 (n := 2) ⟨rfl, by decide, by decide, by decide +kernel⟩ rfl (q0 := 0) rfl rfl rfl ⟨Nat.le_of_ble_eq_true rfl, Nat.le_of_ble_eq_true rfl⟩ ⟨Nat.le_of_ble_eq_true rfl, Nat.le_of_ble_eq_true rfl⟩ (Nat.le_of_ble_eq_true rfl) rfl dX10_question_51 ?_
  refine V.if_eq C (tgt := 59) dX10_question_54 (by decide) (fun c54 => ?_) (fun c54 => ?_)
  rotate_left
  · exfalso; exact absurd c54 (by decide +kernel)
  refine V.aload_n C dX10_question_59 rfl ?_
  refine V.get C (q0 := 0) (k := 1) rfl rfl (by decide) (iz_X10 _) (List.mem_cons_of_mem _ tw_66) rfl rfl dX10_question_60 ?_
  refine V.new C (ci := 11) (fs := [.null]) (iz_X9 _) tyX9 tyX9_ok (List.mem_cons_of_mem _ tw_218) (List.mem_cons_of_mem _ tw_219) (List.mem_cons_of_mem _ tw_220) rfl (by intro j hj; rcases (show j = 0 by omega) with rfl <;> rfl) (Nat.le_of_ble_eq_true rfl) (Nat.le_of_ble_eq_true rfl) dX10_question_63 (fun q1 => ?_)
  refine V.dup C dX10_question_66 rfl ?_
  refine V.aload_n C dX10_question_67 rfl ?_
  refine V.get C (q0 := 0) (k := 1) rfl rfl (by decide) (iz_X10 _) (List.mem_cons_of_mem _ tw_66) rfl rfl dX10_question_68 ?_
  refine V.zVin C ZE (cz_Jx4a65c_size_8abf5 (k := 1) rfl) gz_X10_41 (n := 0) ⟨rfl, by decide, by decide, by decide +kernel⟩ rfl (q0 := 1) rfl rfl rfl ⟨Nat.le_of_ble_eq_true rfl, Nat.le_of_ble_eq_true rfl⟩ ⟨Nat.le_of_ble_eq_true rfl, Nat.le_of_ble_eq_true rfl⟩ (Nat.le_of_ble_eq_true rfl) rfl dX10_question_71 ?_
  refine V.iload_n C dX10_question_74 rfl ?_
  refine V.swapw ?_
  refine V.zIux C ZE (cz_X9_init_3) (by first | rfl | exact (List.append_nil _).symm) gi_X9_init (List.mem_cons_of_mem _ tw_220) (List.mem_cons_of_mem _ tw_221) (List.mem_cons_of_mem _ tw_222) rfl (n := 2) ⟨by decide, by decide, by decide +kernel⟩ rfl rfl ⟨Nat.le_of_ble_eq_true rfl, Nat.le_of_ble_eq_true rfl⟩ ⟨Nat.le_of_ble_eq_true rfl, Nat.le_of_ble_eq_true rfl⟩ (Nat.le_of_ble_eq_true rfl) rfl dX10_question_75 (fun q2 => ?_)
  refine V.swapw ?_
  refine V.reord [1, 9, 0] (w' := [(g 1, .inr (1, [.int (nI 0), .ref e0, .int (nI 0)])), (q1, .inr (11, [.ref q2])), (g 0, .inr (12, [.int (nI 0), .ref (g 1), .ref (g 2), .ref (g 3), .ref (g 5), .ref (g 4), .int (nI 0), .int (nI 0), .int (nI 3), .int (nI 0)]))]) rfl (by decide) rfl ?_
  refine V.zVex C ZE (X := [(g 0, .inr (12, [.int (nI 0), .ref (g 1), .ref (g 2), .ref (g 3), .ref (g 5), .ref (g 4), .int (nI 0), .int (nI 0), .int (nI 3), .int (nI 0)]))]) (cz_Jx4a65c_add_9ea2d_o (E1 := RX9) (by decide +kernel) (Or.inl ⟨11, _, _, _, rfl, rfl⟩)) rfl gz_X10_73 (n := 1) ⟨rfl, by decide, by decide, by decide +kernel⟩ rfl (q0 := 0) rfl rfl rfl ⟨Nat.le_of_ble_eq_true rfl, Nat.le_of_ble_eq_true rfl⟩ ⟨Nat.le_of_ble_eq_true rfl, Nat.le_of_ble_eq_true rfl⟩ (Nat.le_of_ble_eq_true rfl) rfl dX10_question_78 (fun q3 => ?_)
  refine V.pop C dX10_question_81 rfl ?_
  refine V.aload_n C dX10_question_82 rfl ?_
  refine V.get C (q0 := 2) (k := 1) rfl rfl (by decide) (iz_X10 _) (List.mem_cons_of_mem _ tw_66) rfl rfl dX10_question_83 ?_
  refine V.zVin C ZE (cz_Jx4a65c_size_8abf5 (k := 0) rfl) gz_X10_41 (n := 0) ⟨rfl, by decide, by decide, by decide +kernel⟩ rfl (q0 := 0) rfl rfl rfl ⟨Nat.le_of_ble_eq_true rfl, Nat.le_of_ble_eq_true rfl⟩ ⟨Nat.le_of_ble_eq_true rfl, Nat.le_of_ble_eq_true rfl⟩ (Nat.le_of_ble_eq_true rfl) rfl dX10_question_86 ?_
  refine V.iconst C (v := nI 1) dX10_question_89 (by decide) ?_
  refine V.isub C dX10_question_90 ?_
  refine V.topi (y := nI 0) (by decide +kernel) ?_
  refine V.pick (k := 2) rfl ?_
  refine V.widen (k := 3) (n := 16) (Nat.le_of_ble_eq_true rfl) (Nat.le_of_ble_eq_true rfl) ?_
  exact hQ _ _ _ _ _ (Or.inr (Or.inl ⟨_, _, dX10_question_91, rfl, by first | rfl | exact nar_bI _, rfl, rfl⟩)) ⟨_, rfl, rfl⟩
set_option maxRecDepth 100000 in
set_option maxHeartbeats 4000000 in
theorem cz_X10_question_4 {l : Launch} {D : va_G} {cI cL cII cO : ClassId} {e0 : Nat} {g : Nat → Nat}  : CtZ l D (TY cI cL cII cO) e0 yX10_question (Cond.code yX10_question cX10_question 2 (some .int) :: TBL) ({ frames := 5, cells := 3, slots := 16, locals := 116 } : Room) (MF cI cII e0 g ((nI 0))) [.ref (g 0), .int (nI 4)] (fun r z => ∃ fs, r = some (.int (nI 0)) ∧ z = [(g 0, .inr (12, .int (nI 0) :: fs))]) := by
  refine CtZ.of [some (.ref (g 0)), some (.int (nI 4))] (by decide) rfl rfl (Nat.le_of_ble_eq_true rfl) rfl (fun κ C ZE hQ => ?_)
  refine V.aload_n C dX10_question_0 rfl ?_
  refine V.iload_n C dX10_question_1 rfl ?_
  refine V.iconst C (v := nI 2) dX10_question_2 (by decide) ?_
  refine V.iconst C (v := nI 5) dX10_question_3 (by decide) ?_
  refine V.zSin C ZE (cz_X10_isIn) gz_X10_45 (n := 3) ⟨by decide, by decide, by decide +kernel⟩ rfl rfl ⟨Nat.le_of_ble_eq_true rfl, Nat.le_of_ble_eq_true rfl⟩ ⟨Nat.le_of_ble_eq_true rfl, Nat.le_of_ble_eq_true rfl⟩ (Nat.le_of_ble_eq_true rfl) rfl dX10_question_4 ?_
  refine V.topi (y := nI 1) (by decide +kernel) ?_
  refine V.if_ne C (tgt := 14) dX10_question_7 (by decide) (fun c7 => ?_) (fun c7 => ?_)
  rotate_left
  · exfalso; exact absurd c7 (by decide +kernel)
  refine V.iconst C (v := nI 0) dX10_question_14 (by decide) ?_
  refine V.iconst C (v := nI 1) dX10_question_15 (by decide) ?_
  refine V.zVix C ZE (X := []) (cz_X10_start_f1) (by first | rfl | exact (List.append_nil _).symm) gz_X10_63 (n := 2) ⟨rfl, by decide, by decide, by decide +kernel⟩ rfl (q0 := 0) rfl rfl rfl ⟨Nat.le_of_ble_eq_true rfl, Nat.le_of_ble_eq_true rfl⟩ ⟨Nat.le_of_ble_eq_true rfl, Nat.le_of_ble_eq_true rfl⟩ (Nat.le_of_ble_eq_true rfl) rfl dX10_question_16 ?_
  refine V.if_ne C (tgt := 57) dX10_question_19 (by decide) (fun c19 => ?_) (fun c19 => ?_)
  · exfalso; exact absurd c19 (by decide +kernel)
  refine V.aload_n C dX10_question_22 rfl ?_
  refine V.aload_n C dX10_question_23 rfl ?_
  refine V.get C (q0 := 0) (k := 1) rfl rfl (by decide) (iz_X10 _) (List.mem_cons_of_mem _ tw_66) rfl rfl dX10_question_24 ?_
  refine V.zVin C ZE (cz_Jx4a65c_size_8abf5 (k := 1) rfl) gz_X10_41 (n := 0) ⟨rfl, by decide, by decide, by decide +kernel⟩ rfl (q0 := 1) rfl rfl rfl ⟨Nat.le_of_ble_eq_true rfl, Nat.le_of_ble_eq_true rfl⟩ ⟨Nat.le_of_ble_eq_true rfl, Nat.le_of_ble_eq_true rfl⟩ (Nat.le_of_ble_eq_true rfl) rfl dX10_question_27 ?_
  refine V.bipush C (v := nI 10) dX10_question_30 (by decide) ?_
  refine V.icmp_eq C (tgt := 45) dX10_question_32 (by decide) (fun c32 => ?_) (fun c32 => ?_)
  · exfalso; exact absurd c32 (by decide +kernel)
  refine V.aload_n C dX10_question_35 rfl ?_
  refine V.get C (q0 := 0) (k := 3) rfl rfl (by decide) (iz_X10 _) (List.mem_cons_of_mem _ tw_80) rfl rfl dX10_question_36 ?_
  refine V.zVin C ZE (cz_Jx4a65c_isEmpty_aae02 (k := 3) rfl) gz_X10_66 (n := 0) ⟨rfl, by decide, by decide, by decide +kernel⟩ rfl (q0 := 3) rfl rfl rfl ⟨Nat.le_of_ble_eq_true rfl, Nat.le_of_ble_eq_true rfl⟩ ⟨Nat.le_of_ble_eq_true rfl, Nat.le_of_ble_eq_true rfl⟩ (Nat.le_of_ble_eq_true rfl) rfl dX10_question_39 ?_
  refine V.if_ne C (tgt := 49) dX10_question_42 (by decide) (fun c42 => ?_) (fun c42 => ?_)
  rotate_left
  · exfalso; exact absurd c42 (by decide +kernel)
  refine V.iconst C (v := nI 0) dX10_question_49 (by decide) ?_
  refine V.iconst C (v := nI 2) dX10_question_50 (by decide) ?_
  refine V.zVix C ZE (X := []) (cz_X10_refuse_f2) (by first | rfl | exact (List.append_nil _).symm) gz_X10_37 (n := 2) ⟨rfl, by decide, by decide, by decide +kernel⟩ rfl (q0 := 0) rfl rfl rfl ⟨Nat.le_of_ble_eq_true rfl, Nat.le_of_ble_eq_true rfl⟩ ⟨Nat.le_of_ble_eq_true rfl, Nat.le_of_ble_eq_true rfl⟩ (Nat.le_of_ble_eq_true rfl) rfl dX10_question_51 ?_
  refine V.if_eq C (tgt := 59) dX10_question_54 (by decide) (fun c54 => ?_) (fun c54 => ?_)
  rotate_left
  · exfalso; exact absurd c54 (by decide +kernel)
  refine V.aload_n C dX10_question_59 rfl ?_
  refine V.get C (q0 := 0) (k := 1) rfl rfl (by decide) (iz_X10 _) (List.mem_cons_of_mem _ tw_66) rfl rfl dX10_question_60 ?_
  refine V.new C (ci := 11) (fs := [.null]) (iz_X9 _) tyX9 tyX9_ok (List.mem_cons_of_mem _ tw_218) (List.mem_cons_of_mem _ tw_219) (List.mem_cons_of_mem _ tw_220) rfl (by intro j hj; rcases (show j = 0 by omega) with rfl <;> rfl) (Nat.le_of_ble_eq_true rfl) (Nat.le_of_ble_eq_true rfl) dX10_question_63 (fun q1 => ?_)
  refine V.dup C dX10_question_66 rfl ?_
  refine V.aload_n C dX10_question_67 rfl ?_
  refine V.get C (q0 := 0) (k := 1) rfl rfl (by decide) (iz_X10 _) (List.mem_cons_of_mem _ tw_66) rfl rfl dX10_question_68 ?_
  refine V.zVin C ZE (cz_Jx4a65c_size_8abf5 (k := 1) rfl) gz_X10_41 (n := 0) ⟨rfl, by decide, by decide, by decide +kernel⟩ rfl (q0 := 1) rfl rfl rfl ⟨Nat.le_of_ble_eq_true rfl, Nat.le_of_ble_eq_true rfl⟩ ⟨Nat.le_of_ble_eq_true rfl, Nat.le_of_ble_eq_true rfl⟩ (Nat.le_of_ble_eq_true rfl) rfl dX10_question_71 ?_
  refine V.iload_n C dX10_question_74 rfl ?_
  refine V.swapw ?_
  refine V.zIux C ZE (cz_X9_init_4) (by first | rfl | exact (List.append_nil _).symm) gi_X9_init (List.mem_cons_of_mem _ tw_220) (List.mem_cons_of_mem _ tw_221) (List.mem_cons_of_mem _ tw_222) rfl (n := 2) ⟨by decide, by decide, by decide +kernel⟩ rfl rfl ⟨Nat.le_of_ble_eq_true rfl, Nat.le_of_ble_eq_true rfl⟩ ⟨Nat.le_of_ble_eq_true rfl, Nat.le_of_ble_eq_true rfl⟩ (Nat.le_of_ble_eq_true rfl) rfl dX10_question_75 (fun q2 => ?_)
  refine V.swapw ?_
  refine V.reord [1, 9, 0] (w' := [(g 1, .inr (1, [.int (nI 0), .ref e0, .int (nI 0)])), (q1, .inr (11, [.ref q2])), (g 0, .inr (12, [.int (nI 0), .ref (g 1), .ref (g 2), .ref (g 3), .ref (g 5), .ref (g 4), .int (nI 0), .int (nI 0), .int (nI 3), .int (nI 0)]))]) rfl (by decide) rfl ?_
  refine V.zVex C ZE (X := [(g 0, .inr (12, [.int (nI 0), .ref (g 1), .ref (g 2), .ref (g 3), .ref (g 5), .ref (g 4), .int (nI 0), .int (nI 0), .int (nI 3), .int (nI 0)]))]) (cz_Jx4a65c_add_9ea2d_o (E1 := RX9) (by decide +kernel) (Or.inl ⟨11, _, _, _, rfl, rfl⟩)) rfl gz_X10_73 (n := 1) ⟨rfl, by decide, by decide, by decide +kernel⟩ rfl (q0 := 0) rfl rfl rfl ⟨Nat.le_of_ble_eq_true rfl, Nat.le_of_ble_eq_true rfl⟩ ⟨Nat.le_of_ble_eq_true rfl, Nat.le_of_ble_eq_true rfl⟩ (Nat.le_of_ble_eq_true rfl) rfl dX10_question_78 (fun q3 => ?_)
  refine V.pop C dX10_question_81 rfl ?_
  refine V.aload_n C dX10_question_82 rfl ?_
  refine V.get C (q0 := 2) (k := 1) rfl rfl (by decide) (iz_X10 _) (List.mem_cons_of_mem _ tw_66) rfl rfl dX10_question_83 ?_
  refine V.zVin C ZE (cz_Jx4a65c_size_8abf5 (k := 0) rfl) gz_X10_41 (n := 0) ⟨rfl, by decide, by decide, by decide +kernel⟩ rfl (q0 := 0) rfl rfl rfl ⟨Nat.le_of_ble_eq_true rfl, Nat.le_of_ble_eq_true rfl⟩ ⟨Nat.le_of_ble_eq_true rfl, Nat.le_of_ble_eq_true rfl⟩ (Nat.le_of_ble_eq_true rfl) rfl dX10_question_86 ?_
  refine V.iconst C (v := nI 1) dX10_question_89 (by decide) ?_
  refine V.isub C dX10_question_90 ?_
  refine V.topi (y := nI 0) (by decide +kernel) ?_
  refine V.pick (k := 2) rfl ?_
  refine V.widen (k := 3) (n := 16) (Nat.le_of_ble_eq_true rfl) (Nat.le_of_ble_eq_true rfl) ?_
  exact hQ _ _ _ _ _ (Or.inr (Or.inl ⟨_, _, dX10_question_91, rfl, by first | rfl | exact nar_bI _, rfl, rfl⟩)) ⟨_, rfl, rfl⟩
set_option maxRecDepth 100000 in
set_option maxHeartbeats 4000000 in
theorem cz_X10_question_5 {l : Launch} {D : va_G} {cI cL cII cO : ClassId} {e0 : Nat} {g : Nat → Nat}  : CtZ l D (TY cI cL cII cO) e0 yX10_question (Cond.code yX10_question cX10_question 2 (some .int) :: TBL) ({ frames := 5, cells := 3, slots := 16, locals := 116 } : Room) (MF cI cII e0 g ((nI 0))) [.ref (g 0), .int (nI 5)] (fun r z => ∃ fs, r = some (.int (nI 0)) ∧ z = [(g 0, .inr (12, .int (nI 0) :: fs))]) := by
  refine CtZ.of [some (.ref (g 0)), some (.int (nI 5))] (by decide) rfl rfl (Nat.le_of_ble_eq_true rfl) rfl (fun κ C ZE hQ => ?_)
  refine V.aload_n C dX10_question_0 rfl ?_
  refine V.iload_n C dX10_question_1 rfl ?_
  refine V.iconst C (v := nI 2) dX10_question_2 (by decide) ?_
  refine V.iconst C (v := nI 5) dX10_question_3 (by decide) ?_
  refine V.zSin C ZE (cz_X10_isIn) gz_X10_45 (n := 3) ⟨by decide, by decide, by decide +kernel⟩ rfl rfl ⟨Nat.le_of_ble_eq_true rfl, Nat.le_of_ble_eq_true rfl⟩ ⟨Nat.le_of_ble_eq_true rfl, Nat.le_of_ble_eq_true rfl⟩ (Nat.le_of_ble_eq_true rfl) rfl dX10_question_4 ?_
  refine V.topi (y := nI 1) (by decide +kernel) ?_
  refine V.if_ne C (tgt := 14) dX10_question_7 (by decide) (fun c7 => ?_) (fun c7 => ?_)
  rotate_left
  · exfalso; exact absurd c7 (by decide +kernel)
  refine V.iconst C (v := nI 0) dX10_question_14 (by decide) ?_
  refine V.iconst C (v := nI 1) dX10_question_15 (by decide) ?_
  refine V.zVix C ZE (X := []) (cz_X10_start_f1) (by first | rfl | exact (List.append_nil _).symm) gz_X10_63 (n := 2) ⟨rfl, by decide, by decide, by decide +kernel⟩ rfl (q0 := 0) rfl rfl rfl ⟨Nat.le_of_ble_eq_true rfl, Nat.le_of_ble_eq_true rfl⟩ ⟨Nat.le_of_ble_eq_true rfl, Nat.le_of_ble_eq_true rfl⟩ (Nat.le_of_ble_eq_true rfl) rfl dX10_question_16 ?_
  refine V.if_ne C (tgt := 57) dX10_question_19 (by decide) (fun c19 => ?_) (fun c19 => ?_)
  · exfalso; exact absurd c19 (by decide +kernel)
  refine V.aload_n C dX10_question_22 rfl ?_
  refine V.aload_n C dX10_question_23 rfl ?_
  refine V.get C (q0 := 0) (k := 1) rfl rfl (by decide) (iz_X10 _) (List.mem_cons_of_mem _ tw_66) rfl rfl dX10_question_24 ?_
  refine V.zVin C ZE (cz_Jx4a65c_size_8abf5 (k := 1) rfl) gz_X10_41 (n := 0) ⟨rfl, by decide, by decide, by decide +kernel⟩ rfl (q0 := 1) rfl rfl rfl ⟨Nat.le_of_ble_eq_true rfl, Nat.le_of_ble_eq_true rfl⟩ ⟨Nat.le_of_ble_eq_true rfl, Nat.le_of_ble_eq_true rfl⟩ (Nat.le_of_ble_eq_true rfl) rfl dX10_question_27 ?_
  refine V.bipush C (v := nI 10) dX10_question_30 (by decide) ?_
  refine V.icmp_eq C (tgt := 45) dX10_question_32 (by decide) (fun c32 => ?_) (fun c32 => ?_)
  · exfalso; exact absurd c32 (by decide +kernel)
  refine V.aload_n C dX10_question_35 rfl ?_
  refine V.get C (q0 := 0) (k := 3) rfl rfl (by decide) (iz_X10 _) (List.mem_cons_of_mem _ tw_80) rfl rfl dX10_question_36 ?_
  refine V.zVin C ZE (cz_Jx4a65c_isEmpty_aae02 (k := 3) rfl) gz_X10_66 (n := 0) ⟨rfl, by decide, by decide, by decide +kernel⟩ rfl (q0 := 3) rfl rfl rfl ⟨Nat.le_of_ble_eq_true rfl, Nat.le_of_ble_eq_true rfl⟩ ⟨Nat.le_of_ble_eq_true rfl, Nat.le_of_ble_eq_true rfl⟩ (Nat.le_of_ble_eq_true rfl) rfl dX10_question_39 ?_
  refine V.if_ne C (tgt := 49) dX10_question_42 (by decide) (fun c42 => ?_) (fun c42 => ?_)
  rotate_left
  · exfalso; exact absurd c42 (by decide +kernel)
  refine V.iconst C (v := nI 0) dX10_question_49 (by decide) ?_
  refine V.iconst C (v := nI 2) dX10_question_50 (by decide) ?_
  refine V.zVix C ZE (X := []) (cz_X10_refuse_f2) (by first | rfl | exact (List.append_nil _).symm) gz_X10_37 (n := 2) ⟨rfl, by decide, by decide, by decide +kernel⟩ rfl (q0 := 0) rfl rfl rfl ⟨Nat.le_of_ble_eq_true rfl, Nat.le_of_ble_eq_true rfl⟩ ⟨Nat.le_of_ble_eq_true rfl, Nat.le_of_ble_eq_true rfl⟩ (Nat.le_of_ble_eq_true rfl) rfl dX10_question_51 ?_
  refine V.if_eq C (tgt := 59) dX10_question_54 (by decide) (fun c54 => ?_) (fun c54 => ?_)
  rotate_left
  · exfalso; exact absurd c54 (by decide +kernel)
  refine V.aload_n C dX10_question_59 rfl ?_
  refine V.get C (q0 := 0) (k := 1) rfl rfl (by decide) (iz_X10 _) (List.mem_cons_of_mem _ tw_66) rfl rfl dX10_question_60 ?_
  refine V.new C (ci := 11) (fs := [.null]) (iz_X9 _) tyX9 tyX9_ok (List.mem_cons_of_mem _ tw_218) (List.mem_cons_of_mem _ tw_219) (List.mem_cons_of_mem _ tw_220) rfl (by intro j hj; rcases (show j = 0 by omega) with rfl <;> rfl) (Nat.le_of_ble_eq_true rfl) (Nat.le_of_ble_eq_true rfl) dX10_question_63 (fun q1 => ?_)
  refine V.dup C dX10_question_66 rfl ?_
  refine V.aload_n C dX10_question_67 rfl ?_
  refine V.get C (q0 := 0) (k := 1) rfl rfl (by decide) (iz_X10 _) (List.mem_cons_of_mem _ tw_66) rfl rfl dX10_question_68 ?_
  refine V.zVin C ZE (cz_Jx4a65c_size_8abf5 (k := 1) rfl) gz_X10_41 (n := 0) ⟨rfl, by decide, by decide, by decide +kernel⟩ rfl (q0 := 1) rfl rfl rfl ⟨Nat.le_of_ble_eq_true rfl, Nat.le_of_ble_eq_true rfl⟩ ⟨Nat.le_of_ble_eq_true rfl, Nat.le_of_ble_eq_true rfl⟩ (Nat.le_of_ble_eq_true rfl) rfl dX10_question_71 ?_
  refine V.iload_n C dX10_question_74 rfl ?_
  refine V.swapw ?_
  refine V.zIux C ZE (cz_X9_init_5) (by first | rfl | exact (List.append_nil _).symm) gi_X9_init (List.mem_cons_of_mem _ tw_220) (List.mem_cons_of_mem _ tw_221) (List.mem_cons_of_mem _ tw_222) rfl (n := 2) ⟨by decide, by decide, by decide +kernel⟩ rfl rfl ⟨Nat.le_of_ble_eq_true rfl, Nat.le_of_ble_eq_true rfl⟩ ⟨Nat.le_of_ble_eq_true rfl, Nat.le_of_ble_eq_true rfl⟩ (Nat.le_of_ble_eq_true rfl) rfl dX10_question_75 (fun q2 => ?_)
  refine V.swapw ?_
  refine V.reord [1, 9, 0] (w' := [(g 1, .inr (1, [.int (nI 0), .ref e0, .int (nI 0)])), (q1, .inr (11, [.ref q2])), (g 0, .inr (12, [.int (nI 0), .ref (g 1), .ref (g 2), .ref (g 3), .ref (g 5), .ref (g 4), .int (nI 0), .int (nI 0), .int (nI 3), .int (nI 0)]))]) rfl (by decide) rfl ?_
  refine V.zVex C ZE (X := [(g 0, .inr (12, [.int (nI 0), .ref (g 1), .ref (g 2), .ref (g 3), .ref (g 5), .ref (g 4), .int (nI 0), .int (nI 0), .int (nI 3), .int (nI 0)]))]) (cz_Jx4a65c_add_9ea2d_o (E1 := RX9) (by decide +kernel) (Or.inl ⟨11, _, _, _, rfl, rfl⟩)) rfl gz_X10_73 (n := 1) ⟨rfl, by decide, by decide, by decide +kernel⟩ rfl (q0 := 0) rfl rfl rfl ⟨Nat.le_of_ble_eq_true rfl, Nat.le_of_ble_eq_true rfl⟩ ⟨Nat.le_of_ble_eq_true rfl, Nat.le_of_ble_eq_true rfl⟩ (Nat.le_of_ble_eq_true rfl) rfl dX10_question_78 (fun q3 => ?_)
  refine V.pop C dX10_question_81 rfl ?_
  refine V.aload_n C dX10_question_82 rfl ?_
  refine V.get C (q0 := 2) (k := 1) rfl rfl (by decide) (iz_X10 _) (List.mem_cons_of_mem _ tw_66) rfl rfl dX10_question_83 ?_
  refine V.zVin C ZE (cz_Jx4a65c_size_8abf5 (k := 0) rfl) gz_X10_41 (n := 0) ⟨rfl, by decide, by decide, by decide +kernel⟩ rfl (q0 := 0) rfl rfl rfl ⟨Nat.le_of_ble_eq_true rfl, Nat.le_of_ble_eq_true rfl⟩ ⟨Nat.le_of_ble_eq_true rfl, Nat.le_of_ble_eq_true rfl⟩ (Nat.le_of_ble_eq_true rfl) rfl dX10_question_86 ?_
  refine V.iconst C (v := nI 1) dX10_question_89 (by decide) ?_
  refine V.isub C dX10_question_90 ?_
  refine V.topi (y := nI 0) (by decide +kernel) ?_
  refine V.pick (k := 2) rfl ?_
  refine V.widen (k := 3) (n := 16) (Nat.le_of_ble_eq_true rfl) (Nat.le_of_ble_eq_true rfl) ?_
  exact hQ _ _ _ _ _ (Or.inr (Or.inl ⟨_, _, dX10_question_91, rfl, by first | rfl | exact nar_bI _, rfl, rfl⟩)) ⟨_, rfl, rfl⟩
set_option maxRecDepth 100000 in
set_option maxHeartbeats 4000000 in
theorem cz_X10_hold_ok {l : Launch} {D : va_G} {cI cL cII cO : ClassId} {e0 : Nat} {g : Nat → Nat}  : CtZ l D (TY cI cL cII cO) e0 yX10_hold (Cond.code yX10_hold cX10_hold 5 (some .int) :: TBL) ({ frames := 5, cells := 3, slots := 10, locals := 116 } : Room) (MF cI cII e0 g ((nI 0))) [.ref (g 0)] (fun r z => ∃ fs, r = some (.int (nI 0)) ∧ z = [(g 0, .inr (12, .int (nI 0) :: fs))]) := by
  refine CtZ.of [some (.ref (g 0)), none, none, none, none] (by decide) rfl rfl (Nat.le_of_ble_eq_true rfl) rfl (fun κ C ZE hQ => ?_)
  refine V.aload_n C dX10_hold_0 rfl ?_
  refine V.aload_n C dX10_hold_1 rfl ?_
  refine V.get C (q0 := 0) (k := 5) rfl rfl (by decide) (iz_X10 _) (List.mem_cons_of_mem _ tw_112) rfl rfl dX10_hold_2 ?_
  refine V.zVin C ZE (cz_Jx4a65c_size_8abf5 (k := 4) rfl) gz_X10_41 (n := 0) ⟨rfl, by decide, by decide, by decide +kernel⟩ rfl (q0 := 4) rfl rfl rfl ⟨Nat.le_of_ble_eq_true rfl, Nat.le_of_ble_eq_true rfl⟩ ⟨Nat.le_of_ble_eq_true rfl, Nat.le_of_ble_eq_true rfl⟩ (Nat.le_of_ble_eq_true rfl) rfl dX10_hold_5 ?_
  refine V.iconst C (v := nI 5) dX10_hold_8 (by decide) ?_
  refine V.icmp_ne C (tgt := 16) dX10_hold_9 (by decide) (fun c9 => ?_) (fun c9 => ?_)
  rotate_left
  · exfalso; exact absurd c9 (by decide +kernel)
  refine V.iconst C (v := nI 0) dX10_hold_16 (by decide) ?_
  refine V.iconst C (v := nI 1) dX10_hold_17 (by decide) ?_
  refine V.zVix C ZE (X := []) (cz_X10_start_f1) (by first | rfl | exact (List.append_nil _).symm) gz_X10_63 (n := 2) ⟨rfl, by decide, by decide, by decide +kernel⟩ rfl (q0 := 0) rfl rfl rfl ⟨Nat.le_of_ble_eq_true rfl, Nat.le_of_ble_eq_true rfl⟩ ⟨Nat.le_of_ble_eq_true rfl, Nat.le_of_ble_eq_true rfl⟩ (Nat.le_of_ble_eq_true rfl) rfl dX10_hold_18 ?_
  refine V.if_eq C (tgt := 26) dX10_hold_21 (by decide) (fun c21 => ?_) (fun c21 => ?_)
  rotate_left
  · exfalso; exact absurd c21 (by decide +kernel)
  refine V.aload_n C dX10_hold_26 rfl ?_
  refine V.aload_n C dX10_hold_27 rfl ?_
  refine V.get C (q0 := 0) (k := 8) rfl rfl (by decide) (iz_X10 _) (List.mem_cons_of_mem _ tw_179) rfl rfl dX10_hold_28 ?_
  refine V.zVqx C ZE (X := []) (cz_X10_weights (n := 3) (by decide)) (by first | rfl | exact (List.append_nil _).symm) gz_X10_235 (n := 1) ⟨rfl, by decide, by decide, by decide +kernel⟩ rfl (q0 := 0) rfl rfl rfl ⟨Nat.le_of_ble_eq_true rfl, Nat.le_of_ble_eq_true rfl⟩ ⟨Nat.le_of_ble_eq_true rfl, Nat.le_of_ble_eq_true rfl⟩ (Nat.le_of_ble_eq_true rfl) rfl dX10_hold_31 (fun q1 => ?_)
  refine V.astore_n C dX10_hold_34 (by decide) rfl ?_
  dsimp only [List.set, Fin.val]
  refine V.aload_n C dX10_hold_35 rfl ?_
  refine V.get C (q0 := 0) (k := 1) rfl rfl (by decide) (iz_X10 _) (List.mem_cons_of_mem _ tw_66) rfl rfl dX10_hold_36 ?_
  refine V.zVin C ZE (cz_Jx4a65c_size_8abf5 (k := 1) rfl) gz_X10_41 (n := 0) ⟨rfl, by decide, by decide, by decide +kernel⟩ rfl (q0 := 1) rfl rfl rfl ⟨Nat.le_of_ble_eq_true rfl, Nat.le_of_ble_eq_true rfl⟩ ⟨Nat.le_of_ble_eq_true rfl, Nat.le_of_ble_eq_true rfl⟩ (Nat.le_of_ble_eq_true rfl) rfl dX10_hold_39 ?_
  refine V.anewA C ZE (N := 0) (t0 := 2) rfl rfl (by decide) (List.mem_cons_of_mem _ tw_223) (Nat.le_of_ble_eq_true rfl) (Nat.le_of_ble_eq_true rfl) dX10_hold_42 (fun q2 => ?_)
  refine V.astore_n C dX10_hold_45 (by decide) rfl ?_
  dsimp only [List.set, Fin.val]
  refine V.iconst C (v := nI 0) dX10_hold_46 (by decide) ?_
  refine V.istore_n C dX10_hold_47 (by decide) rfl ?_
  dsimp only [List.set, Fin.val]
  refine V.iload_n C dX10_hold_48 rfl ?_
  refine V.aload_n C dX10_hold_49 rfl ?_
  refine V.alen C (q0 := 10) (t0 := 2) rfl rfl dX10_hold_50 ?_
  refine V.icmp_ge C (tgt := 113) dX10_hold_51 (by decide) (fun c51 => ?_) (fun c51 => ?_)
  rotate_left
  · exfalso; exact absurd c51 (by decide +kernel)
  refine V.aload_n C dX10_hold_113 rfl ?_
  refine V.get C (q0 := 0) (k := 5) rfl rfl (by decide) (iz_X10 _) (List.mem_cons_of_mem _ tw_112) rfl rfl dX10_hold_114 ?_
  refine V.aload_n C dX10_hold_117 rfl ?_
  refine V.reord [4, 10, 0] (w' := [(g 4, .inr (1, [.int (nI 0), .ref e0, .int (nI 0)])), (q2, .inl (cII, 0, .inr (.inr (.inr (.inr (fun _ => none)))))), (g 0, .inr (12, [.int (nI 0), .ref (g 1), .ref (g 2), .ref (g 3), .ref (g 5), .ref (g 4), .int (nI 0), .int (nI 0), .int (nI 3), .int (nI 0)]))]) rfl (by decide) rfl ?_
  refine V.zVex C ZE (X := [(g 0, .inr (12, [.int (nI 0), .ref (g 1), .ref (g 2), .ref (g 3), .ref (g 5), .ref (g 4), .int (nI 0), .int (nI 0), .int (nI 3), .int (nI 0)]))]) (cz_Jx4a65c_add_9ea2d_o (E1 := "[[I") (by decide +kernel) (Or.inr ⟨2, cII, _, rfl, rfl, rfl⟩)) rfl gz_X10_73 (n := 1) ⟨rfl, by decide, by decide, by decide +kernel⟩ rfl (q0 := 0) rfl rfl rfl ⟨Nat.le_of_ble_eq_true rfl, Nat.le_of_ble_eq_true rfl⟩ ⟨Nat.le_of_ble_eq_true rfl, Nat.le_of_ble_eq_true rfl⟩ (Nat.le_of_ble_eq_true rfl) rfl dX10_hold_118 (fun q3 => ?_)
  refine V.pop C dX10_hold_121 rfl ?_
  refine V.aload_n C dX10_hold_122 rfl ?_
  refine V.get C (q0 := 2) (k := 5) rfl rfl (by decide) (iz_X10 _) (List.mem_cons_of_mem _ tw_112) rfl rfl dX10_hold_123 ?_
  refine V.zVin C ZE (cz_Jx4a65c_size_8abf5 (k := 0) rfl) gz_X10_41 (n := 0) ⟨rfl, by decide, by decide, by decide +kernel⟩ rfl (q0 := 0) rfl rfl rfl ⟨Nat.le_of_ble_eq_true rfl, Nat.le_of_ble_eq_true rfl⟩ ⟨Nat.le_of_ble_eq_true rfl, Nat.le_of_ble_eq_true rfl⟩ (Nat.le_of_ble_eq_true rfl) rfl dX10_hold_126 ?_
  refine V.iconst C (v := nI 1) dX10_hold_129 (by decide) ?_
  refine V.isub C dX10_hold_130 ?_
  refine V.topi (y := nI 0) (by decide +kernel) ?_
  refine V.pick (k := 2) rfl ?_
  refine V.widen (k := 3) (n := 10) (Nat.le_of_ble_eq_true rfl) (Nat.le_of_ble_eq_true rfl) ?_
  exact hQ _ _ _ _ _ (Or.inr (Or.inl ⟨_, _, dX10_hold_131, rfl, by first | rfl | exact nar_bI _, rfl, rfl⟩)) ⟨_, rfl, rfl⟩
set_option maxRecDepth 100000 in
set_option maxHeartbeats 4000000 in
theorem cz_X10_ofCell_00 {l : Launch} {D : va_G} {cI cL cII cO : ClassId} {e0 : Nat} {g : Nat → Nat} {k : Nat} (hk : k < 5) : CtZ l D (TY cI cL cII cO) e0 yX10_ofCell (Cond.code yX10_ofCell cX10_ofCell 4 (some .int) :: TBL) ({ frames := 5, cells := 5, slots := 13, locals := 119 } : Room) (MF cI cII e0 g ((nI 0))) [.ref (g 0), .int (nI 0), .int (nI 0), .int (nI k)] (fun r z => ∃ fs, r = some (.int (nI 0)) ∧ z = [(g 0, .inr (12, .int (nI 0) :: fs))]) := by
  refine CtZ.of [some (.ref (g 0)), some (.int (nI 0)), some (.int (nI 0)), some (.int (nI k))] (by decide) rfl rfl (Nat.le_of_ble_eq_true rfl) rfl (fun κ C ZE hQ => ?_)
  refine V.aload_n C dX10_ofCell_0 rfl ?_
  refine V.iload_n C dX10_ofCell_1 rfl ?_
  refine V.zSin C ZE (cz_X10_isNoA_f (by decide +kernel) (by decide +kernel)) gz_X10_92 (n := 1) ⟨by decide, by decide, by decide +kernel⟩ rfl rfl ⟨Nat.le_of_ble_eq_true rfl, Nat.le_of_ble_eq_true rfl⟩ ⟨Nat.le_of_ble_eq_true rfl, Nat.le_of_ble_eq_true rfl⟩ (Nat.le_of_ble_eq_true rfl) rfl dX10_ofCell_2 ?_
  refine V.if_ne C (tgt := 15) dX10_ofCell_5 (by decide) (fun c5 => ?_) (fun c5 => ?_)
  · exfalso; exact absurd c5 (by decide +kernel)
  refine V.iload_n C dX10_ofCell_8 rfl ?_
  refine V.zSin C ZE (cz_X10_isNoB_f (by decide +kernel) (by decide +kernel)) gz_X10_95 (n := 1) ⟨by decide, by decide, by decide +kernel⟩ rfl rfl ⟨Nat.le_of_ble_eq_true rfl, Nat.le_of_ble_eq_true rfl⟩ ⟨Nat.le_of_ble_eq_true rfl, Nat.le_of_ble_eq_true rfl⟩ (Nat.le_of_ble_eq_true rfl) rfl dX10_ofCell_9 ?_
  refine V.if_eq C (tgt := 19) dX10_ofCell_12 (by decide) (fun c12 => ?_) (fun c12 => ?_)
  rotate_left
  · exfalso; exact absurd c12 (by decide +kernel)
  refine V.iconst C (v := nI 0) dX10_ofCell_19 (by decide) ?_
  refine V.iconst C (v := nI 1) dX10_ofCell_20 (by decide) ?_
  refine V.zVix C ZE (X := []) (cz_X10_start_f1) (by first | rfl | exact (List.append_nil _).symm) gz_X10_63 (n := 2) ⟨rfl, by decide, by decide, by decide +kernel⟩ rfl (q0 := 0) rfl rfl rfl ⟨Nat.le_of_ble_eq_true rfl, Nat.le_of_ble_eq_true rfl⟩ ⟨Nat.le_of_ble_eq_true rfl, Nat.le_of_ble_eq_true rfl⟩ (Nat.le_of_ble_eq_true rfl) rfl dX10_ofCell_21 ?_
  refine V.if_ne C (tgt := 49) dX10_ofCell_24 (by decide) (fun c24 => ?_) (fun c24 => ?_)
  · exfalso; exact absurd c24 (by decide +kernel)
  refine V.aload_n C dX10_ofCell_27 rfl ?_
  refine V.iload_n C dX10_ofCell_28 rfl ?_
  refine V.iconst C (v := nI 0) dX10_ofCell_29 (by decide) ?_
  refine V.iconst C (v := nI 4) dX10_ofCell_30 (by decide) ?_
  refine V.zSin C ZE (cz_X10_isIn) gz_X10_45 (n := 3) ⟨by decide, by decide, by decide +kernel⟩ rfl rfl ⟨Nat.le_of_ble_eq_true rfl, Nat.le_of_ble_eq_true rfl⟩ ⟨Nat.le_of_ble_eq_true rfl, Nat.le_of_ble_eq_true rfl⟩ (Nat.le_of_ble_eq_true rfl) rfl dX10_ofCell_31 ?_
  refine V.topi (y := nI 1) (isIn_t (nI_pos (by omega)) (nI_nlt (show k ≤ 4 by omega) (by decide))) ?_
  refine V.if_ne C (tgt := 41) dX10_ofCell_34 (by decide) (fun c34 => ?_) (fun c34 => ?_)
  rotate_left
  · exfalso; exact absurd c34 (by decide +kernel)
  refine V.iconst C (v := nI 0) dX10_ofCell_41 (by decide) ?_
  refine V.iconst C (v := nI 2) dX10_ofCell_42 (by decide) ?_
  refine V.zVix C ZE (X := []) (cz_X10_refuse_f2) (by first | rfl | exact (List.append_nil _).symm) gz_X10_37 (n := 2) ⟨rfl, by decide, by decide, by decide +kernel⟩ rfl (q0 := 0) rfl rfl rfl ⟨Nat.le_of_ble_eq_true rfl, Nat.le_of_ble_eq_true rfl⟩ ⟨Nat.le_of_ble_eq_true rfl, Nat.le_of_ble_eq_true rfl⟩ (Nat.le_of_ble_eq_true rfl) rfl dX10_ofCell_43 ?_
  refine V.if_eq C (tgt := 53) dX10_ofCell_46 (by decide) (fun c46 => ?_) (fun c46 => ?_)
  rotate_left
  · exfalso; exact absurd c46 (by decide +kernel)
  refine V.aload_n C dX10_ofCell_53 rfl ?_
  refine V.iload_n C dX10_ofCell_54 rfl ?_
  refine V.iload_n C dX10_ofCell_55 rfl ?_
  refine V.iload_n C dX10_ofCell_56 rfl ?_
  refine V.zVix C ZE (X := []) (cz_X10_ofCellNow_00) (by first | rfl | exact (List.append_nil _).symm) gz_X10_162 (n := 3) ⟨rfl, by decide, by decide, by decide +kernel⟩ rfl (q0 := 0) rfl rfl rfl ⟨Nat.le_of_ble_eq_true rfl, Nat.le_of_ble_eq_true rfl⟩ ⟨Nat.le_of_ble_eq_true rfl, Nat.le_of_ble_eq_true rfl⟩ (Nat.le_of_ble_eq_true rfl) rfl dX10_ofCell_57 ?_
  refine V.pick (k := 0) rfl ?_
  refine V.widen (k := 5) (n := 13) (Nat.le_of_ble_eq_true rfl) (Nat.le_of_ble_eq_true rfl) ?_
  exact hQ _ _ _ _ _ (Or.inr (Or.inl ⟨_, _, dX10_ofCell_60, rfl, by first | rfl | exact nar_bI _, rfl, rfl⟩)) ⟨_, rfl, rfl⟩
set_option maxRecDepth 100000 in
set_option maxHeartbeats 4000000 in
theorem cz_X10_ofCell_x00 {l : Launch} {D : va_G} {cI cL cII cO : ClassId} {e0 : Nat} {g : Nat → Nat} {x : Int32} (hx : x < nI 0 ∨ nI 4 < x) : CtZ l D (TY cI cL cII cO) e0 yX10_ofCell (Cond.code yX10_ofCell cX10_ofCell 4 (some .int) :: TBL) ({ frames := 2, cells := 0, slots := 0, locals := 44 } : Room) (MF cI cII e0 g ((nI 0))) [.ref (g 0), .int (nI 0), .int (nI 0), .int (x)] (fun r z => ∃ fs, r = some (.int (nI 0)) ∧ z = [(g 0, .inr (12, .int (nI 2) :: fs))]) := by
  refine CtZ.of [some (.ref (g 0)), some (.int (nI 0)), some (.int (nI 0)), some (.int (x))] (by decide) rfl rfl (Nat.le_of_ble_eq_true rfl) rfl (fun κ C ZE hQ => ?_)
  refine V.aload_n C dX10_ofCell_0 rfl ?_
  refine V.iload_n C dX10_ofCell_1 rfl ?_
  refine V.zSin C ZE (cz_X10_isNoA_f (by decide +kernel) (by decide +kernel)) gz_X10_92 (n := 1) ⟨by decide, by decide, by decide +kernel⟩ rfl rfl ⟨Nat.le_of_ble_eq_true rfl, Nat.le_of_ble_eq_true rfl⟩ ⟨Nat.le_of_ble_eq_true rfl, Nat.le_of_ble_eq_true rfl⟩ (Nat.le_of_ble_eq_true rfl) rfl dX10_ofCell_2 ?_
  refine V.if_ne C (tgt := 15) dX10_ofCell_5 (by decide) (fun c5 => ?_) (fun c5 => ?_)
  · exfalso; exact absurd c5 (by decide +kernel)
  refine V.iload_n C dX10_ofCell_8 rfl ?_
  refine V.zSin C ZE (cz_X10_isNoB_f (by decide +kernel) (by decide +kernel)) gz_X10_95 (n := 1) ⟨by decide, by decide, by decide +kernel⟩ rfl rfl ⟨Nat.le_of_ble_eq_true rfl, Nat.le_of_ble_eq_true rfl⟩ ⟨Nat.le_of_ble_eq_true rfl, Nat.le_of_ble_eq_true rfl⟩ (Nat.le_of_ble_eq_true rfl) rfl dX10_ofCell_9 ?_
  refine V.if_eq C (tgt := 19) dX10_ofCell_12 (by decide) (fun c12 => ?_) (fun c12 => ?_)
  rotate_left
  · exfalso; exact absurd c12 (by decide +kernel)
  refine V.iconst C (v := nI 0) dX10_ofCell_19 (by decide) ?_
  refine V.iconst C (v := nI 1) dX10_ofCell_20 (by decide) ?_
  refine V.zVix C ZE (X := []) (cz_X10_start_f1) (by first | rfl | exact (List.append_nil _).symm) gz_X10_63 (n := 2) ⟨rfl, by decide, by decide, by decide +kernel⟩ rfl (q0 := 0) rfl rfl rfl ⟨Nat.le_of_ble_eq_true rfl, Nat.le_of_ble_eq_true rfl⟩ ⟨Nat.le_of_ble_eq_true rfl, Nat.le_of_ble_eq_true rfl⟩ (Nat.le_of_ble_eq_true rfl) rfl dX10_ofCell_21 ?_
  refine V.if_ne C (tgt := 49) dX10_ofCell_24 (by decide) (fun c24 => ?_) (fun c24 => ?_)
  · exfalso; exact absurd c24 (by decide +kernel)
  refine V.aload_n C dX10_ofCell_27 rfl ?_
  refine V.iload_n C dX10_ofCell_28 rfl ?_
  refine V.iconst C (v := nI 0) dX10_ofCell_29 (by decide) ?_
  refine V.iconst C (v := nI 4) dX10_ofCell_30 (by decide) ?_
  refine V.zSin C ZE (cz_X10_isIn) gz_X10_45 (n := 3) ⟨by decide, by decide, by decide +kernel⟩ rfl rfl ⟨Nat.le_of_ble_eq_true rfl, Nat.le_of_ble_eq_true rfl⟩ ⟨Nat.le_of_ble_eq_true rfl, Nat.le_of_ble_eq_true rfl⟩ (Nat.le_of_ble_eq_true rfl) rfl dX10_ofCell_31 ?_
  refine V.topi (y := nI 0) (isIn_f hx) ?_
  refine V.if_ne C (tgt := 41) dX10_ofCell_34 (by decide) (fun c34 => ?_) (fun c34 => ?_)
  · exfalso; exact absurd c34 (by decide +kernel)
  refine V.iconst C (v := nI 1) dX10_ofCell_37 (by decide) ?_
  refine V.goto C (tgt := 42) dX10_ofCell_38 (by decide) ?_
  refine V.iconst C (v := nI 2) dX10_ofCell_42 (by decide) ?_
  refine V.zVix C ZE (X := []) (cz_X10_refuse_t2) (by first | rfl | exact (List.append_nil _).symm) gz_X10_37 (n := 2) ⟨rfl, by decide, by decide, by decide +kernel⟩ rfl (q0 := 0) rfl rfl rfl ⟨Nat.le_of_ble_eq_true rfl, Nat.le_of_ble_eq_true rfl⟩ ⟨Nat.le_of_ble_eq_true rfl, Nat.le_of_ble_eq_true rfl⟩ (Nat.le_of_ble_eq_true rfl) rfl dX10_ofCell_43 ?_
  refine V.if_eq C (tgt := 53) dX10_ofCell_46 (by decide) (fun c46 => ?_) (fun c46 => ?_)
  · exfalso; exact absurd c46 (by decide +kernel)
  refine V.iconst C (v := nI 0) dX10_ofCell_49 (by decide) ?_
  refine V.goto C (tgt := 60) dX10_ofCell_50 (by decide) ?_
  refine V.pick (k := 0) rfl ?_
  refine V.widen (k := 0) (n := 0) (Nat.le_of_ble_eq_true rfl) (Nat.le_of_ble_eq_true rfl) ?_
  exact hQ _ _ _ _ _ (Or.inr (Or.inl ⟨_, _, dX10_ofCell_60, rfl, by first | rfl | exact nar_bI _, rfl, rfl⟩)) ⟨_, rfl, rfl⟩
set_option maxRecDepth 100000 in
set_option maxHeartbeats 4000000 in
theorem cz_X10_target_00 {l : Launch} {D : va_G} {cI cL cII cO : ClassId} {e0 : Nat} {g : Nat → Nat} {t : Nat} (ht : t ≤ 9) : CtZ l D (TY cI cL cII cO) e0 yX10_target (Cond.code yX10_target cX10_target 5 (some .int) :: TBL) ({ frames := 2, cells := 0, slots := 0, locals := 44 } : Room) (MF cI cII e0 g ((nI 0))) [.ref (g 0), .int (nI 0), .int (nI 0), .int (nI t)] (fun r z => ∃ fs, r = some (.int (nI 0)) ∧ z = [(g 0, .inr (12, .int (nI 0) :: fs))]) := by
  refine CtZ.of [some (.ref (g 0)), some (.int (nI 0)), some (.int (nI 0)), some (.int (nI t)), none] (by decide) rfl rfl (Nat.le_of_ble_eq_true rfl) rfl (fun κ C ZE hQ => ?_)
  refine V.aload_n C dX10_target_0 rfl ?_
  refine V.iload_n C dX10_target_1 rfl ?_
  refine V.zSin C ZE (cz_X10_isNoA_f (by decide +kernel) (by decide +kernel)) gz_X10_92 (n := 1) ⟨by decide, by decide, by decide +kernel⟩ rfl rfl ⟨Nat.le_of_ble_eq_true rfl, Nat.le_of_ble_eq_true rfl⟩ ⟨Nat.le_of_ble_eq_true rfl, Nat.le_of_ble_eq_true rfl⟩ (Nat.le_of_ble_eq_true rfl) rfl dX10_target_2 ?_
  refine V.if_ne C (tgt := 15) dX10_target_5 (by decide) (fun c5 => ?_) (fun c5 => ?_)
  · exfalso; exact absurd c5 (by decide +kernel)
  refine V.iload_n C dX10_target_8 rfl ?_
  refine V.zSin C ZE (cz_X10_isNoB_f (by decide +kernel) (by decide +kernel)) gz_X10_95 (n := 1) ⟨by decide, by decide, by decide +kernel⟩ rfl rfl ⟨Nat.le_of_ble_eq_true rfl, Nat.le_of_ble_eq_true rfl⟩ ⟨Nat.le_of_ble_eq_true rfl, Nat.le_of_ble_eq_true rfl⟩ (Nat.le_of_ble_eq_true rfl) rfl dX10_target_9 ?_
  refine V.if_eq C (tgt := 19) dX10_target_12 (by decide) (fun c12 => ?_) (fun c12 => ?_)
  rotate_left
  · exfalso; exact absurd c12 (by decide +kernel)
  refine V.iconst C (v := nI 0) dX10_target_19 (by decide) ?_
  refine V.iconst C (v := nI 1) dX10_target_20 (by decide) ?_
  refine V.zVix C ZE (X := []) (cz_X10_start_f1) (by first | rfl | exact (List.append_nil _).symm) gz_X10_63 (n := 2) ⟨rfl, by decide, by decide, by decide +kernel⟩ rfl (q0 := 0) rfl rfl rfl ⟨Nat.le_of_ble_eq_true rfl, Nat.le_of_ble_eq_true rfl⟩ ⟨Nat.le_of_ble_eq_true rfl, Nat.le_of_ble_eq_true rfl⟩ (Nat.le_of_ble_eq_true rfl) rfl dX10_target_21 ?_
  refine V.if_ne C (tgt := 50) dX10_target_24 (by decide) (fun c24 => ?_) (fun c24 => ?_)
  · exfalso; exact absurd c24 (by decide +kernel)
  refine V.aload_n C dX10_target_27 rfl ?_
  refine V.iload_n C dX10_target_28 rfl ?_
  refine V.iconst C (v := nI 0) dX10_target_29 (by decide) ?_
  refine V.bipush C (v := nI 9) dX10_target_30 (by decide) ?_
  refine V.zSin C ZE (cz_X10_isIn) gz_X10_45 (n := 3) ⟨by decide, by decide, by decide +kernel⟩ rfl rfl ⟨Nat.le_of_ble_eq_true rfl, Nat.le_of_ble_eq_true rfl⟩ ⟨Nat.le_of_ble_eq_true rfl, Nat.le_of_ble_eq_true rfl⟩ (Nat.le_of_ble_eq_true rfl) rfl dX10_target_32 ?_
  refine V.topi (y := nI 1) (isIn_t (nI_pos (by omega)) (nI_nlt ht (by decide))) ?_
  refine V.if_ne C (tgt := 42) dX10_target_35 (by decide) (fun c35 => ?_) (fun c35 => ?_)
  rotate_left
  · exfalso; exact absurd c35 (by decide +kernel)
  refine V.iconst C (v := nI 0) dX10_target_42 (by decide) ?_
  refine V.iconst C (v := nI 2) dX10_target_43 (by decide) ?_
  refine V.zVix C ZE (X := []) (cz_X10_refuse_f2) (by first | rfl | exact (List.append_nil _).symm) gz_X10_37 (n := 2) ⟨rfl, by decide, by decide, by decide +kernel⟩ rfl (q0 := 0) rfl rfl rfl ⟨Nat.le_of_ble_eq_true rfl, Nat.le_of_ble_eq_true rfl⟩ ⟨Nat.le_of_ble_eq_true rfl, Nat.le_of_ble_eq_true rfl⟩ (Nat.le_of_ble_eq_true rfl) rfl dX10_target_44 ?_
  refine V.if_eq C (tgt := 52) dX10_target_47 (by decide) (fun c47 => ?_) (fun c47 => ?_)
  rotate_left
  · exfalso; exact absurd c47 (by decide +kernel)
  refine V.aload_n C dX10_target_52 rfl ?_
  refine V.get C (q0 := 0) (k := 4) rfl rfl (by decide) (iz_X10 _) (List.mem_cons_of_mem _ tw_92) rfl rfl dX10_target_53 ?_
  refine V.iload_n C dX10_target_56 rfl ?_
  refine V.aaldA C (q0 := 5) (t0 := 2) (j := 0) (r := g 5 + 1) rfl rfl rfl (by decide) (by decide) rfl dX10_target_57 ?_
  refine V.iload_n C dX10_target_58 rfl ?_
  refine V.iald C (q0 := 6) (t0 := 0) rfl rfl rfl (by decide) (by decide) dX10_target_59 ?_
  refine V.topi (y := nI 0) (by first | rfl | simp [upd, nI_0]) ?_
  refine V.istore C dX10_target_60 (by decide) rfl ?_
  dsimp only [List.set]
  refine V.aload_n C dX10_target_62 rfl ?_
  refine V.get C (q0 := 0) (k := 4) rfl rfl (by decide) (iz_X10 _) (List.mem_cons_of_mem _ tw_92) rfl rfl dX10_target_63 ?_
  refine V.iload_n C dX10_target_66 rfl ?_
  refine V.aaldA C (q0 := 5) (t0 := 2) (j := 0) (r := g 5 + 1) rfl rfl rfl (by decide) (by decide) rfl dX10_target_67 ?_
  refine V.iload_n C dX10_target_68 rfl ?_
  refine V.iload_n C dX10_target_69 rfl ?_
  refine V.iast C (q0 := 6) (t0 := 0) (w' := _) rfl rfl (j := 0) rfl (by decide) (by decide) rfl dX10_target_70 ?_
  refine V.iload C dX10_target_71 rfl ?_
  refine V.pick (k := 0) rfl ?_
  refine V.widen (k := 0) (n := 0) (Nat.le_of_ble_eq_true rfl) (Nat.le_of_ble_eq_true rfl) ?_
  exact hQ _ _ _ _ _ (Or.inr (Or.inl ⟨_, _, dX10_target_73, rfl, by first | rfl | exact nar_bI _, rfl, rfl⟩)) ⟨_, rfl, rfl⟩
set_option maxRecDepth 100000 in
set_option maxHeartbeats 4000000 in
theorem cz_X10_target_x00 {l : Launch} {D : va_G} {cI cL cII cO : ClassId} {e0 : Nat} {g : Nat → Nat} {x : Int32} (hx : x < nI 0 ∨ nI 9 < x) : CtZ l D (TY cI cL cII cO) e0 yX10_target (Cond.code yX10_target cX10_target 5 (some .int) :: TBL) ({ frames := 2, cells := 0, slots := 0, locals := 44 } : Room) (MF cI cII e0 g ((nI 0))) [.ref (g 0), .int (nI 0), .int (nI 0), .int (x)] (fun r z => ∃ fs, r = some (.int (nI 0)) ∧ z = [(g 0, .inr (12, .int (nI 2) :: fs))]) := by
  refine CtZ.of [some (.ref (g 0)), some (.int (nI 0)), some (.int (nI 0)), some (.int (x)), none] (by decide) rfl rfl (Nat.le_of_ble_eq_true rfl) rfl (fun κ C ZE hQ => ?_)
  refine V.aload_n C dX10_target_0 rfl ?_
  refine V.iload_n C dX10_target_1 rfl ?_
  refine V.zSin C ZE (cz_X10_isNoA_f (by decide +kernel) (by decide +kernel)) gz_X10_92 (n := 1) ⟨by decide, by decide, by decide +kernel⟩ rfl rfl ⟨Nat.le_of_ble_eq_true rfl, Nat.le_of_ble_eq_true rfl⟩ ⟨Nat.le_of_ble_eq_true rfl, Nat.le_of_ble_eq_true rfl⟩ (Nat.le_of_ble_eq_true rfl) rfl dX10_target_2 ?_
  refine V.if_ne C (tgt := 15) dX10_target_5 (by decide) (fun c5 => ?_) (fun c5 => ?_)
  · exfalso; exact absurd c5 (by decide +kernel)
  refine V.iload_n C dX10_target_8 rfl ?_
  refine V.zSin C ZE (cz_X10_isNoB_f (by decide +kernel) (by decide +kernel)) gz_X10_95 (n := 1) ⟨by decide, by decide, by decide +kernel⟩ rfl rfl ⟨Nat.le_of_ble_eq_true rfl, Nat.le_of_ble_eq_true rfl⟩ ⟨Nat.le_of_ble_eq_true rfl, Nat.le_of_ble_eq_true rfl⟩ (Nat.le_of_ble_eq_true rfl) rfl dX10_target_9 ?_
  refine V.if_eq C (tgt := 19) dX10_target_12 (by decide) (fun c12 => ?_) (fun c12 => ?_)
  rotate_left
  · exfalso; exact absurd c12 (by decide +kernel)
  refine V.iconst C (v := nI 0) dX10_target_19 (by decide) ?_
  refine V.iconst C (v := nI 1) dX10_target_20 (by decide) ?_
  refine V.zVix C ZE (X := []) (cz_X10_start_f1) (by first | rfl | exact (List.append_nil _).symm) gz_X10_63 (n := 2) ⟨rfl, by decide, by decide, by decide +kernel⟩ rfl (q0 := 0) rfl rfl rfl ⟨Nat.le_of_ble_eq_true rfl, Nat.le_of_ble_eq_true rfl⟩ ⟨Nat.le_of_ble_eq_true rfl, Nat.le_of_ble_eq_true rfl⟩ (Nat.le_of_ble_eq_true rfl) rfl dX10_target_21 ?_
  refine V.if_ne C (tgt := 50) dX10_target_24 (by decide) (fun c24 => ?_) (fun c24 => ?_)
  · exfalso; exact absurd c24 (by decide +kernel)
  refine V.aload_n C dX10_target_27 rfl ?_
  refine V.iload_n C dX10_target_28 rfl ?_
  refine V.iconst C (v := nI 0) dX10_target_29 (by decide) ?_
  refine V.bipush C (v := nI 9) dX10_target_30 (by decide) ?_
  refine V.zSin C ZE (cz_X10_isIn) gz_X10_45 (n := 3) ⟨by decide, by decide, by decide +kernel⟩ rfl rfl ⟨Nat.le_of_ble_eq_true rfl, Nat.le_of_ble_eq_true rfl⟩ ⟨Nat.le_of_ble_eq_true rfl, Nat.le_of_ble_eq_true rfl⟩ (Nat.le_of_ble_eq_true rfl) rfl dX10_target_32 ?_
  refine V.topi (y := nI 0) (isIn_f hx) ?_
  refine V.if_ne C (tgt := 42) dX10_target_35 (by decide) (fun c35 => ?_) (fun c35 => ?_)
  · exfalso; exact absurd c35 (by decide +kernel)
  refine V.iconst C (v := nI 1) dX10_target_38 (by decide) ?_
  refine V.goto C (tgt := 43) dX10_target_39 (by decide) ?_
  refine V.iconst C (v := nI 2) dX10_target_43 (by decide) ?_
  refine V.zVix C ZE (X := []) (cz_X10_refuse_t2) (by first | rfl | exact (List.append_nil _).symm) gz_X10_37 (n := 2) ⟨rfl, by decide, by decide, by decide +kernel⟩ rfl (q0 := 0) rfl rfl rfl ⟨Nat.le_of_ble_eq_true rfl, Nat.le_of_ble_eq_true rfl⟩ ⟨Nat.le_of_ble_eq_true rfl, Nat.le_of_ble_eq_true rfl⟩ (Nat.le_of_ble_eq_true rfl) rfl dX10_target_44 ?_
  refine V.if_eq C (tgt := 52) dX10_target_47 (by decide) (fun c47 => ?_) (fun c47 => ?_)
  · exfalso; exact absurd c47 (by decide +kernel)
  refine V.iconst C (v := nI 0) dX10_target_50 (by decide) ?_
  refine V.pick (k := 0) rfl ?_
  refine V.widen (k := 0) (n := 0) (Nat.le_of_ble_eq_true rfl) (Nat.le_of_ble_eq_true rfl) ?_
  exact hQ _ _ _ _ _ (Or.inr (Or.inl ⟨_, _, dX10_target_51, rfl, by first | rfl | exact nar_bI _, rfl, rfl⟩)) ⟨_, rfl, rfl⟩
set_option maxRecDepth 100000 in
set_option maxHeartbeats 4000000 in
theorem cz_X10_ofCell_01 {l : Launch} {D : va_G} {cI cL cII cO : ClassId} {e0 : Nat} {g : Nat → Nat} {k : Nat} (hk : k < 5) : CtZ l D (TY cI cL cII cO) e0 yX10_ofCell (Cond.code yX10_ofCell cX10_ofCell 4 (some .int) :: TBL) ({ frames := 5, cells := 5, slots := 13, locals := 119 } : Room) (MF cI cII e0 g ((nI 0))) [.ref (g 0), .int (nI 0), .int (nI 1), .int (nI k)] (fun r z => ∃ fs, r = some (.int (nI 0)) ∧ z = [(g 0, .inr (12, .int (nI 0) :: fs))]) := by
  refine CtZ.of [some (.ref (g 0)), some (.int (nI 0)), some (.int (nI 1)), some (.int (nI k))] (by decide) rfl rfl (Nat.le_of_ble_eq_true rfl) rfl (fun κ C ZE hQ => ?_)
  refine V.aload_n C dX10_ofCell_0 rfl ?_
  refine V.iload_n C dX10_ofCell_1 rfl ?_
  refine V.zSin C ZE (cz_X10_isNoA_f (by decide +kernel) (by decide +kernel)) gz_X10_92 (n := 1) ⟨by decide, by decide, by decide +kernel⟩ rfl rfl ⟨Nat.le_of_ble_eq_true rfl, Nat.le_of_ble_eq_true rfl⟩ ⟨Nat.le_of_ble_eq_true rfl, Nat.le_of_ble_eq_true rfl⟩ (Nat.le_of_ble_eq_true rfl) rfl dX10_ofCell_2 ?_
  refine V.if_ne C (tgt := 15) dX10_ofCell_5 (by decide) (fun c5 => ?_) (fun c5 => ?_)
  · exfalso; exact absurd c5 (by decide +kernel)
  refine V.iload_n C dX10_ofCell_8 rfl ?_
  refine V.zSin C ZE (cz_X10_isNoB_f (by decide +kernel) (by decide +kernel)) gz_X10_95 (n := 1) ⟨by decide, by decide, by decide +kernel⟩ rfl rfl ⟨Nat.le_of_ble_eq_true rfl, Nat.le_of_ble_eq_true rfl⟩ ⟨Nat.le_of_ble_eq_true rfl, Nat.le_of_ble_eq_true rfl⟩ (Nat.le_of_ble_eq_true rfl) rfl dX10_ofCell_9 ?_
  refine V.if_eq C (tgt := 19) dX10_ofCell_12 (by decide) (fun c12 => ?_) (fun c12 => ?_)
  rotate_left
  · exfalso; exact absurd c12 (by decide +kernel)
  refine V.iconst C (v := nI 0) dX10_ofCell_19 (by decide) ?_
  refine V.iconst C (v := nI 1) dX10_ofCell_20 (by decide) ?_
  refine V.zVix C ZE (X := []) (cz_X10_start_f1) (by first | rfl | exact (List.append_nil _).symm) gz_X10_63 (n := 2) ⟨rfl, by decide, by decide, by decide +kernel⟩ rfl (q0 := 0) rfl rfl rfl ⟨Nat.le_of_ble_eq_true rfl, Nat.le_of_ble_eq_true rfl⟩ ⟨Nat.le_of_ble_eq_true rfl, Nat.le_of_ble_eq_true rfl⟩ (Nat.le_of_ble_eq_true rfl) rfl dX10_ofCell_21 ?_
  refine V.if_ne C (tgt := 49) dX10_ofCell_24 (by decide) (fun c24 => ?_) (fun c24 => ?_)
  · exfalso; exact absurd c24 (by decide +kernel)
  refine V.aload_n C dX10_ofCell_27 rfl ?_
  refine V.iload_n C dX10_ofCell_28 rfl ?_
  refine V.iconst C (v := nI 0) dX10_ofCell_29 (by decide) ?_
  refine V.iconst C (v := nI 4) dX10_ofCell_30 (by decide) ?_
  refine V.zSin C ZE (cz_X10_isIn) gz_X10_45 (n := 3) ⟨by decide, by decide, by decide +kernel⟩ rfl rfl ⟨Nat.le_of_ble_eq_true rfl, Nat.le_of_ble_eq_true rfl⟩ ⟨Nat.le_of_ble_eq_true rfl, Nat.le_of_ble_eq_true rfl⟩ (Nat.le_of_ble_eq_true rfl) rfl dX10_ofCell_31 ?_
  refine V.topi (y := nI 1) (isIn_t (nI_pos (by omega)) (nI_nlt (show k ≤ 4 by omega) (by decide))) ?_
  refine V.if_ne C (tgt := 41) dX10_ofCell_34 (by decide) (fun c34 => ?_) (fun c34 => ?_)
  rotate_left
  · exfalso; exact absurd c34 (by decide +kernel)
  refine V.iconst C (v := nI 0) dX10_ofCell_41 (by decide) ?_
  refine V.iconst C (v := nI 2) dX10_ofCell_42 (by decide) ?_
  refine V.zVix C ZE (X := []) (cz_X10_refuse_f2) (by first | rfl | exact (List.append_nil _).symm) gz_X10_37 (n := 2) ⟨rfl, by decide, by decide, by decide +kernel⟩ rfl (q0 := 0) rfl rfl rfl ⟨Nat.le_of_ble_eq_true rfl, Nat.le_of_ble_eq_true rfl⟩ ⟨Nat.le_of_ble_eq_true rfl, Nat.le_of_ble_eq_true rfl⟩ (Nat.le_of_ble_eq_true rfl) rfl dX10_ofCell_43 ?_
  refine V.if_eq C (tgt := 53) dX10_ofCell_46 (by decide) (fun c46 => ?_) (fun c46 => ?_)
  rotate_left
  · exfalso; exact absurd c46 (by decide +kernel)
  refine V.aload_n C dX10_ofCell_53 rfl ?_
  refine V.iload_n C dX10_ofCell_54 rfl ?_
  refine V.iload_n C dX10_ofCell_55 rfl ?_
  refine V.iload_n C dX10_ofCell_56 rfl ?_
  refine V.zVix C ZE (X := []) (cz_X10_ofCellNow_01) (by first | rfl | exact (List.append_nil _).symm) gz_X10_162 (n := 3) ⟨rfl, by decide, by decide, by decide +kernel⟩ rfl (q0 := 0) rfl rfl rfl ⟨Nat.le_of_ble_eq_true rfl, Nat.le_of_ble_eq_true rfl⟩ ⟨Nat.le_of_ble_eq_true rfl, Nat.le_of_ble_eq_true rfl⟩ (Nat.le_of_ble_eq_true rfl) rfl dX10_ofCell_57 ?_
  refine V.pick (k := 0) rfl ?_
  refine V.widen (k := 5) (n := 13) (Nat.le_of_ble_eq_true rfl) (Nat.le_of_ble_eq_true rfl) ?_
  exact hQ _ _ _ _ _ (Or.inr (Or.inl ⟨_, _, dX10_ofCell_60, rfl, by first | rfl | exact nar_bI _, rfl, rfl⟩)) ⟨_, rfl, rfl⟩
set_option maxRecDepth 100000 in
set_option maxHeartbeats 4000000 in
theorem cz_X10_ofCell_x01 {l : Launch} {D : va_G} {cI cL cII cO : ClassId} {e0 : Nat} {g : Nat → Nat} {x : Int32} (hx : x < nI 0 ∨ nI 4 < x) : CtZ l D (TY cI cL cII cO) e0 yX10_ofCell (Cond.code yX10_ofCell cX10_ofCell 4 (some .int) :: TBL) ({ frames := 2, cells := 0, slots := 0, locals := 44 } : Room) (MF cI cII e0 g ((nI 0))) [.ref (g 0), .int (nI 0), .int (nI 1), .int (x)] (fun r z => ∃ fs, r = some (.int (nI 0)) ∧ z = [(g 0, .inr (12, .int (nI 2) :: fs))]) := by
  refine CtZ.of [some (.ref (g 0)), some (.int (nI 0)), some (.int (nI 1)), some (.int (x))] (by decide) rfl rfl (Nat.le_of_ble_eq_true rfl) rfl (fun κ C ZE hQ => ?_)
  refine V.aload_n C dX10_ofCell_0 rfl ?_
  refine V.iload_n C dX10_ofCell_1 rfl ?_
  refine V.zSin C ZE (cz_X10_isNoA_f (by decide +kernel) (by decide +kernel)) gz_X10_92 (n := 1) ⟨by decide, by decide, by decide +kernel⟩ rfl rfl ⟨Nat.le_of_ble_eq_true rfl, Nat.le_of_ble_eq_true rfl⟩ ⟨Nat.le_of_ble_eq_true rfl, Nat.le_of_ble_eq_true rfl⟩ (Nat.le_of_ble_eq_true rfl) rfl dX10_ofCell_2 ?_
  refine V.if_ne C (tgt := 15) dX10_ofCell_5 (by decide) (fun c5 => ?_) (fun c5 => ?_)
  · exfalso; exact absurd c5 (by decide +kernel)
  refine V.iload_n C dX10_ofCell_8 rfl ?_
  refine V.zSin C ZE (cz_X10_isNoB_f (by decide +kernel) (by decide +kernel)) gz_X10_95 (n := 1) ⟨by decide, by decide, by decide +kernel⟩ rfl rfl ⟨Nat.le_of_ble_eq_true rfl, Nat.le_of_ble_eq_true rfl⟩ ⟨Nat.le_of_ble_eq_true rfl, Nat.le_of_ble_eq_true rfl⟩ (Nat.le_of_ble_eq_true rfl) rfl dX10_ofCell_9 ?_
  refine V.if_eq C (tgt := 19) dX10_ofCell_12 (by decide) (fun c12 => ?_) (fun c12 => ?_)
  rotate_left
  · exfalso; exact absurd c12 (by decide +kernel)
  refine V.iconst C (v := nI 0) dX10_ofCell_19 (by decide) ?_
  refine V.iconst C (v := nI 1) dX10_ofCell_20 (by decide) ?_
  refine V.zVix C ZE (X := []) (cz_X10_start_f1) (by first | rfl | exact (List.append_nil _).symm) gz_X10_63 (n := 2) ⟨rfl, by decide, by decide, by decide +kernel⟩ rfl (q0 := 0) rfl rfl rfl ⟨Nat.le_of_ble_eq_true rfl, Nat.le_of_ble_eq_true rfl⟩ ⟨Nat.le_of_ble_eq_true rfl, Nat.le_of_ble_eq_true rfl⟩ (Nat.le_of_ble_eq_true rfl) rfl dX10_ofCell_21 ?_
  refine V.if_ne C (tgt := 49) dX10_ofCell_24 (by decide) (fun c24 => ?_) (fun c24 => ?_)
  · exfalso; exact absurd c24 (by decide +kernel)
  refine V.aload_n C dX10_ofCell_27 rfl ?_
  refine V.iload_n C dX10_ofCell_28 rfl ?_
  refine V.iconst C (v := nI 0) dX10_ofCell_29 (by decide) ?_
  refine V.iconst C (v := nI 4) dX10_ofCell_30 (by decide) ?_
  refine V.zSin C ZE (cz_X10_isIn) gz_X10_45 (n := 3) ⟨by decide, by decide, by decide +kernel⟩ rfl rfl ⟨Nat.le_of_ble_eq_true rfl, Nat.le_of_ble_eq_true rfl⟩ ⟨Nat.le_of_ble_eq_true rfl, Nat.le_of_ble_eq_true rfl⟩ (Nat.le_of_ble_eq_true rfl) rfl dX10_ofCell_31 ?_
  refine V.topi (y := nI 0) (isIn_f hx) ?_
  refine V.if_ne C (tgt := 41) dX10_ofCell_34 (by decide) (fun c34 => ?_) (fun c34 => ?_)
  · exfalso; exact absurd c34 (by decide +kernel)
  refine V.iconst C (v := nI 1) dX10_ofCell_37 (by decide) ?_
  refine V.goto C (tgt := 42) dX10_ofCell_38 (by decide) ?_
  refine V.iconst C (v := nI 2) dX10_ofCell_42 (by decide) ?_
  refine V.zVix C ZE (X := []) (cz_X10_refuse_t2) (by first | rfl | exact (List.append_nil _).symm) gz_X10_37 (n := 2) ⟨rfl, by decide, by decide, by decide +kernel⟩ rfl (q0 := 0) rfl rfl rfl ⟨Nat.le_of_ble_eq_true rfl, Nat.le_of_ble_eq_true rfl⟩ ⟨Nat.le_of_ble_eq_true rfl, Nat.le_of_ble_eq_true rfl⟩ (Nat.le_of_ble_eq_true rfl) rfl dX10_ofCell_43 ?_
  refine V.if_eq C (tgt := 53) dX10_ofCell_46 (by decide) (fun c46 => ?_) (fun c46 => ?_)
  · exfalso; exact absurd c46 (by decide +kernel)
  refine V.iconst C (v := nI 0) dX10_ofCell_49 (by decide) ?_
  refine V.goto C (tgt := 60) dX10_ofCell_50 (by decide) ?_
  refine V.pick (k := 0) rfl ?_
  refine V.widen (k := 0) (n := 0) (Nat.le_of_ble_eq_true rfl) (Nat.le_of_ble_eq_true rfl) ?_
  exact hQ _ _ _ _ _ (Or.inr (Or.inl ⟨_, _, dX10_ofCell_60, rfl, by first | rfl | exact nar_bI _, rfl, rfl⟩)) ⟨_, rfl, rfl⟩
set_option maxRecDepth 100000 in
set_option maxHeartbeats 4000000 in
theorem cz_X10_target_01 {l : Launch} {D : va_G} {cI cL cII cO : ClassId} {e0 : Nat} {g : Nat → Nat} {t : Nat} (ht : t ≤ 9) : CtZ l D (TY cI cL cII cO) e0 yX10_target (Cond.code yX10_target cX10_target 5 (some .int) :: TBL) ({ frames := 2, cells := 0, slots := 0, locals := 44 } : Room) (MF cI cII e0 g ((nI 0))) [.ref (g 0), .int (nI 0), .int (nI 1), .int (nI t)] (fun r z => ∃ fs, r = some (.int (nI 0)) ∧ z = [(g 0, .inr (12, .int (nI 0) :: fs))]) := by
  refine CtZ.of [some (.ref (g 0)), some (.int (nI 0)), some (.int (nI 1)), some (.int (nI t)), none] (by decide) rfl rfl (Nat.le_of_ble_eq_true rfl) rfl (fun κ C ZE hQ => ?_)
  refine V.aload_n C dX10_target_0 rfl ?_
  refine V.iload_n C dX10_target_1 rfl ?_
  refine V.zSin C ZE (cz_X10_isNoA_f (by decide +kernel) (by decide +kernel)) gz_X10_92 (n := 1) ⟨by decide, by decide, by decide +kernel⟩ rfl rfl ⟨Nat.le_of_ble_eq_true rfl, Nat.le_of_ble_eq_true rfl⟩ ⟨Nat.le_of_ble_eq_true rfl, Nat.le_of_ble_eq_true rfl⟩ (Nat.le_of_ble_eq_true rfl) rfl dX10_target_2 ?_
  refine V.if_ne C (tgt := 15) dX10_target_5 (by decide) (fun c5 => ?_) (fun c5 => ?_)
  · exfalso; exact absurd c5 (by decide +kernel)
  refine V.iload_n C dX10_target_8 rfl ?_
  refine V.zSin C ZE (cz_X10_isNoB_f (by decide +kernel) (by decide +kernel)) gz_X10_95 (n := 1) ⟨by decide, by decide, by decide +kernel⟩ rfl rfl ⟨Nat.le_of_ble_eq_true rfl, Nat.le_of_ble_eq_true rfl⟩ ⟨Nat.le_of_ble_eq_true rfl, Nat.le_of_ble_eq_true rfl⟩ (Nat.le_of_ble_eq_true rfl) rfl dX10_target_9 ?_
  refine V.if_eq C (tgt := 19) dX10_target_12 (by decide) (fun c12 => ?_) (fun c12 => ?_)
  rotate_left
  · exfalso; exact absurd c12 (by decide +kernel)
  refine V.iconst C (v := nI 0) dX10_target_19 (by decide) ?_
  refine V.iconst C (v := nI 1) dX10_target_20 (by decide) ?_
  refine V.zVix C ZE (X := []) (cz_X10_start_f1) (by first | rfl | exact (List.append_nil _).symm) gz_X10_63 (n := 2) ⟨rfl, by decide, by decide, by decide +kernel⟩ rfl (q0 := 0) rfl rfl rfl ⟨Nat.le_of_ble_eq_true rfl, Nat.le_of_ble_eq_true rfl⟩ ⟨Nat.le_of_ble_eq_true rfl, Nat.le_of_ble_eq_true rfl⟩ (Nat.le_of_ble_eq_true rfl) rfl dX10_target_21 ?_
  refine V.if_ne C (tgt := 50) dX10_target_24 (by decide) (fun c24 => ?_) (fun c24 => ?_)
  · exfalso; exact absurd c24 (by decide +kernel)
  refine V.aload_n C dX10_target_27 rfl ?_
  refine V.iload_n C dX10_target_28 rfl ?_
  refine V.iconst C (v := nI 0) dX10_target_29 (by decide) ?_
  refine V.bipush C (v := nI 9) dX10_target_30 (by decide) ?_
  refine V.zSin C ZE (cz_X10_isIn) gz_X10_45 (n := 3) ⟨by decide, by decide, by decide +kernel⟩ rfl rfl ⟨Nat.le_of_ble_eq_true rfl, Nat.le_of_ble_eq_true rfl⟩ ⟨Nat.le_of_ble_eq_true rfl, Nat.le_of_ble_eq_true rfl⟩ (Nat.le_of_ble_eq_true rfl) rfl dX10_target_32 ?_
  refine V.topi (y := nI 1) (isIn_t (nI_pos (by omega)) (nI_nlt ht (by decide))) ?_
  refine V.if_ne C (tgt := 42) dX10_target_35 (by decide) (fun c35 => ?_) (fun c35 => ?_)
  rotate_left
  · exfalso; exact absurd c35 (by decide +kernel)
  refine V.iconst C (v := nI 0) dX10_target_42 (by decide) ?_
  refine V.iconst C (v := nI 2) dX10_target_43 (by decide) ?_
  refine V.zVix C ZE (X := []) (cz_X10_refuse_f2) (by first | rfl | exact (List.append_nil _).symm) gz_X10_37 (n := 2) ⟨rfl, by decide, by decide, by decide +kernel⟩ rfl (q0 := 0) rfl rfl rfl ⟨Nat.le_of_ble_eq_true rfl, Nat.le_of_ble_eq_true rfl⟩ ⟨Nat.le_of_ble_eq_true rfl, Nat.le_of_ble_eq_true rfl⟩ (Nat.le_of_ble_eq_true rfl) rfl dX10_target_44 ?_
  refine V.if_eq C (tgt := 52) dX10_target_47 (by decide) (fun c47 => ?_) (fun c47 => ?_)
  rotate_left
  · exfalso; exact absurd c47 (by decide +kernel)
  refine V.aload_n C dX10_target_52 rfl ?_
  refine V.get C (q0 := 0) (k := 4) rfl rfl (by decide) (iz_X10 _) (List.mem_cons_of_mem _ tw_92) rfl rfl dX10_target_53 ?_
  refine V.iload_n C dX10_target_56 rfl ?_
  refine V.aaldA C (q0 := 5) (t0 := 2) (j := 0) (r := g 5 + 1) rfl rfl rfl (by decide) (by decide) rfl dX10_target_57 ?_
  refine V.iload_n C dX10_target_58 rfl ?_
  refine V.iald C (q0 := 6) (t0 := 0) rfl rfl rfl (by decide) (by decide) dX10_target_59 ?_
  refine V.topi (y := nI 0) (by first | rfl | simp [upd, nI_0]) ?_
  refine V.istore C dX10_target_60 (by decide) rfl ?_
  dsimp only [List.set]
  refine V.aload_n C dX10_target_62 rfl ?_
  refine V.get C (q0 := 0) (k := 4) rfl rfl (by decide) (iz_X10 _) (List.mem_cons_of_mem _ tw_92) rfl rfl dX10_target_63 ?_
  refine V.iload_n C dX10_target_66 rfl ?_
  refine V.aaldA C (q0 := 5) (t0 := 2) (j := 0) (r := g 5 + 1) rfl rfl rfl (by decide) (by decide) rfl dX10_target_67 ?_
  refine V.iload_n C dX10_target_68 rfl ?_
  refine V.iload_n C dX10_target_69 rfl ?_
  refine V.iast C (q0 := 6) (t0 := 0) (w' := _) rfl rfl (j := 1) rfl (by decide) (by decide) rfl dX10_target_70 ?_
  refine V.iload C dX10_target_71 rfl ?_
  refine V.pick (k := 0) rfl ?_
  refine V.widen (k := 0) (n := 0) (Nat.le_of_ble_eq_true rfl) (Nat.le_of_ble_eq_true rfl) ?_
  exact hQ _ _ _ _ _ (Or.inr (Or.inl ⟨_, _, dX10_target_73, rfl, by first | rfl | exact nar_bI _, rfl, rfl⟩)) ⟨_, rfl, rfl⟩
set_option maxRecDepth 100000 in
set_option maxHeartbeats 4000000 in
theorem cz_X10_target_x01 {l : Launch} {D : va_G} {cI cL cII cO : ClassId} {e0 : Nat} {g : Nat → Nat} {x : Int32} (hx : x < nI 0 ∨ nI 9 < x) : CtZ l D (TY cI cL cII cO) e0 yX10_target (Cond.code yX10_target cX10_target 5 (some .int) :: TBL) ({ frames := 2, cells := 0, slots := 0, locals := 44 } : Room) (MF cI cII e0 g ((nI 0))) [.ref (g 0), .int (nI 0), .int (nI 1), .int (x)] (fun r z => ∃ fs, r = some (.int (nI 0)) ∧ z = [(g 0, .inr (12, .int (nI 2) :: fs))]) := by
  refine CtZ.of [some (.ref (g 0)), some (.int (nI 0)), some (.int (nI 1)), some (.int (x)), none] (by decide) rfl rfl (Nat.le_of_ble_eq_true rfl) rfl (fun κ C ZE hQ => ?_)
  refine V.aload_n C dX10_target_0 rfl ?_
  refine V.iload_n C dX10_target_1 rfl ?_
  refine V.zSin C ZE (cz_X10_isNoA_f (by decide +kernel) (by decide +kernel)) gz_X10_92 (n := 1) ⟨by decide, by decide, by decide +kernel⟩ rfl rfl ⟨Nat.le_of_ble_eq_true rfl, Nat.le_of_ble_eq_true rfl⟩ ⟨Nat.le_of_ble_eq_true rfl, Nat.le_of_ble_eq_true rfl⟩ (Nat.le_of_ble_eq_true rfl) rfl dX10_target_2 ?_
  refine V.if_ne C (tgt := 15) dX10_target_5 (by decide) (fun c5 => ?_) (fun c5 => ?_)
  · exfalso; exact absurd c5 (by decide +kernel)
  refine V.iload_n C dX10_target_8 rfl ?_
  refine V.zSin C ZE (cz_X10_isNoB_f (by decide +kernel) (by decide +kernel)) gz_X10_95 (n := 1) ⟨by decide, by decide, by decide +kernel⟩ rfl rfl ⟨Nat.le_of_ble_eq_true rfl, Nat.le_of_ble_eq_true rfl⟩ ⟨Nat.le_of_ble_eq_true rfl, Nat.le_of_ble_eq_true rfl⟩ (Nat.le_of_ble_eq_true rfl) rfl dX10_target_9 ?_
  refine V.if_eq C (tgt := 19) dX10_target_12 (by decide) (fun c12 => ?_) (fun c12 => ?_)
  rotate_left
  · exfalso; exact absurd c12 (by decide +kernel)
  refine V.iconst C (v := nI 0) dX10_target_19 (by decide) ?_
  refine V.iconst C (v := nI 1) dX10_target_20 (by decide) ?_
  refine V.zVix C ZE (X := []) (cz_X10_start_f1) (by first | rfl | exact (List.append_nil _).symm) gz_X10_63 (n := 2) ⟨rfl, by decide, by decide, by decide +kernel⟩ rfl (q0 := 0) rfl rfl rfl ⟨Nat.le_of_ble_eq_true rfl, Nat.le_of_ble_eq_true rfl⟩ ⟨Nat.le_of_ble_eq_true rfl, Nat.le_of_ble_eq_true rfl⟩ (Nat.le_of_ble_eq_true rfl) rfl dX10_target_21 ?_
  refine V.if_ne C (tgt := 50) dX10_target_24 (by decide) (fun c24 => ?_) (fun c24 => ?_)
  · exfalso; exact absurd c24 (by decide +kernel)
  refine V.aload_n C dX10_target_27 rfl ?_
  refine V.iload_n C dX10_target_28 rfl ?_
  refine V.iconst C (v := nI 0) dX10_target_29 (by decide) ?_
  refine V.bipush C (v := nI 9) dX10_target_30 (by decide) ?_
  refine V.zSin C ZE (cz_X10_isIn) gz_X10_45 (n := 3) ⟨by decide, by decide, by decide +kernel⟩ rfl rfl ⟨Nat.le_of_ble_eq_true rfl, Nat.le_of_ble_eq_true rfl⟩ ⟨Nat.le_of_ble_eq_true rfl, Nat.le_of_ble_eq_true rfl⟩ (Nat.le_of_ble_eq_true rfl) rfl dX10_target_32 ?_
  refine V.topi (y := nI 0) (isIn_f hx) ?_
  refine V.if_ne C (tgt := 42) dX10_target_35 (by decide) (fun c35 => ?_) (fun c35 => ?_)
  · exfalso; exact absurd c35 (by decide +kernel)
  refine V.iconst C (v := nI 1) dX10_target_38 (by decide) ?_
  refine V.goto C (tgt := 43) dX10_target_39 (by decide) ?_
  refine V.iconst C (v := nI 2) dX10_target_43 (by decide) ?_
  refine V.zVix C ZE (X := []) (cz_X10_refuse_t2) (by first | rfl | exact (List.append_nil _).symm) gz_X10_37 (n := 2) ⟨rfl, by decide, by decide, by decide +kernel⟩ rfl (q0 := 0) rfl rfl rfl ⟨Nat.le_of_ble_eq_true rfl, Nat.le_of_ble_eq_true rfl⟩ ⟨Nat.le_of_ble_eq_true rfl, Nat.le_of_ble_eq_true rfl⟩ (Nat.le_of_ble_eq_true rfl) rfl dX10_target_44 ?_
  refine V.if_eq C (tgt := 52) dX10_target_47 (by decide) (fun c47 => ?_) (fun c47 => ?_)
  · exfalso; exact absurd c47 (by decide +kernel)
  refine V.iconst C (v := nI 0) dX10_target_50 (by decide) ?_
  refine V.pick (k := 0) rfl ?_
  refine V.widen (k := 0) (n := 0) (Nat.le_of_ble_eq_true rfl) (Nat.le_of_ble_eq_true rfl) ?_
  exact hQ _ _ _ _ _ (Or.inr (Or.inl ⟨_, _, dX10_target_51, rfl, by first | rfl | exact nar_bI _, rfl, rfl⟩)) ⟨_, rfl, rfl⟩
set_option maxRecDepth 100000 in
set_option maxHeartbeats 4000000 in
theorem cz_X10_ofCell_10 {l : Launch} {D : va_G} {cI cL cII cO : ClassId} {e0 : Nat} {g : Nat → Nat} {k : Nat} (hk : k < 5) : CtZ l D (TY cI cL cII cO) e0 yX10_ofCell (Cond.code yX10_ofCell cX10_ofCell 4 (some .int) :: TBL) ({ frames := 5, cells := 5, slots := 13, locals := 119 } : Room) (MF cI cII e0 g ((nI 0))) [.ref (g 0), .int (nI 1), .int (nI 0), .int (nI k)] (fun r z => ∃ fs, r = some (.int (nI 0)) ∧ z = [(g 0, .inr (12, .int (nI 0) :: fs))]) := by
  refine CtZ.of [some (.ref (g 0)), some (.int (nI 1)), some (.int (nI 0)), some (.int (nI k))] (by decide) rfl rfl (Nat.le_of_ble_eq_true rfl) rfl (fun κ C ZE hQ => ?_)
  refine V.aload_n C dX10_ofCell_0 rfl ?_
  refine V.iload_n C dX10_ofCell_1 rfl ?_
  refine V.zSin C ZE (cz_X10_isNoA_f (by decide +kernel) (by decide +kernel)) gz_X10_92 (n := 1) ⟨by decide, by decide, by decide +kernel⟩ rfl rfl ⟨Nat.le_of_ble_eq_true rfl, Nat.le_of_ble_eq_true rfl⟩ ⟨Nat.le_of_ble_eq_true rfl, Nat.le_of_ble_eq_true rfl⟩ (Nat.le_of_ble_eq_true rfl) rfl dX10_ofCell_2 ?_
  refine V.if_ne C (tgt := 15) dX10_ofCell_5 (by decide) (fun c5 => ?_) (fun c5 => ?_)
  · exfalso; exact absurd c5 (by decide +kernel)
  refine V.iload_n C dX10_ofCell_8 rfl ?_
  refine V.zSin C ZE (cz_X10_isNoB_f (by decide +kernel) (by decide +kernel)) gz_X10_95 (n := 1) ⟨by decide, by decide, by decide +kernel⟩ rfl rfl ⟨Nat.le_of_ble_eq_true rfl, Nat.le_of_ble_eq_true rfl⟩ ⟨Nat.le_of_ble_eq_true rfl, Nat.le_of_ble_eq_true rfl⟩ (Nat.le_of_ble_eq_true rfl) rfl dX10_ofCell_9 ?_
  refine V.if_eq C (tgt := 19) dX10_ofCell_12 (by decide) (fun c12 => ?_) (fun c12 => ?_)
  rotate_left
  · exfalso; exact absurd c12 (by decide +kernel)
  refine V.iconst C (v := nI 0) dX10_ofCell_19 (by decide) ?_
  refine V.iconst C (v := nI 1) dX10_ofCell_20 (by decide) ?_
  refine V.zVix C ZE (X := []) (cz_X10_start_f1) (by first | rfl | exact (List.append_nil _).symm) gz_X10_63 (n := 2) ⟨rfl, by decide, by decide, by decide +kernel⟩ rfl (q0 := 0) rfl rfl rfl ⟨Nat.le_of_ble_eq_true rfl, Nat.le_of_ble_eq_true rfl⟩ ⟨Nat.le_of_ble_eq_true rfl, Nat.le_of_ble_eq_true rfl⟩ (Nat.le_of_ble_eq_true rfl) rfl dX10_ofCell_21 ?_
  refine V.if_ne C (tgt := 49) dX10_ofCell_24 (by decide) (fun c24 => ?_) (fun c24 => ?_)
  · exfalso; exact absurd c24 (by decide +kernel)
  refine V.aload_n C dX10_ofCell_27 rfl ?_
  refine V.iload_n C dX10_ofCell_28 rfl ?_
  refine V.iconst C (v := nI 0) dX10_ofCell_29 (by decide) ?_
  refine V.iconst C (v := nI 4) dX10_ofCell_30 (by decide) ?_
  refine V.zSin C ZE (cz_X10_isIn) gz_X10_45 (n := 3) ⟨by decide, by decide, by decide +kernel⟩ rfl rfl ⟨Nat.le_of_ble_eq_true rfl, Nat.le_of_ble_eq_true rfl⟩ ⟨Nat.le_of_ble_eq_true rfl, Nat.le_of_ble_eq_true rfl⟩ (Nat.le_of_ble_eq_true rfl) rfl dX10_ofCell_31 ?_
  refine V.topi (y := nI 1) (isIn_t (nI_pos (by omega)) (nI_nlt (show k ≤ 4 by omega) (by decide))) ?_
  refine V.if_ne C (tgt := 41) dX10_ofCell_34 (by decide) (fun c34 => ?_) (fun c34 => ?_)
  rotate_left
  · exfalso; exact absurd c34 (by decide +kernel)
  refine V.iconst C (v := nI 0) dX10_ofCell_41 (by decide) ?_
  refine V.iconst C (v := nI 2) dX10_ofCell_42 (by decide) ?_
  refine V.zVix C ZE (X := []) (cz_X10_refuse_f2) (by first | rfl | exact (List.append_nil _).symm) gz_X10_37 (n := 2) ⟨rfl, by decide, by decide, by decide +kernel⟩ rfl (q0 := 0) rfl rfl rfl ⟨Nat.le_of_ble_eq_true rfl, Nat.le_of_ble_eq_true rfl⟩ ⟨Nat.le_of_ble_eq_true rfl, Nat.le_of_ble_eq_true rfl⟩ (Nat.le_of_ble_eq_true rfl) rfl dX10_ofCell_43 ?_
  refine V.if_eq C (tgt := 53) dX10_ofCell_46 (by decide) (fun c46 => ?_) (fun c46 => ?_)
  rotate_left
  · exfalso; exact absurd c46 (by decide +kernel)
  refine V.aload_n C dX10_ofCell_53 rfl ?_
  refine V.iload_n C dX10_ofCell_54 rfl ?_
  refine V.iload_n C dX10_ofCell_55 rfl ?_
  refine V.iload_n C dX10_ofCell_56 rfl ?_
  refine V.zVix C ZE (X := []) (cz_X10_ofCellNow_10) (by first | rfl | exact (List.append_nil _).symm) gz_X10_162 (n := 3) ⟨rfl, by decide, by decide, by decide +kernel⟩ rfl (q0 := 0) rfl rfl rfl ⟨Nat.le_of_ble_eq_true rfl, Nat.le_of_ble_eq_true rfl⟩ ⟨Nat.le_of_ble_eq_true rfl, Nat.le_of_ble_eq_true rfl⟩ (Nat.le_of_ble_eq_true rfl) rfl dX10_ofCell_57 ?_
  refine V.pick (k := 0) rfl ?_
  refine V.widen (k := 5) (n := 13) (Nat.le_of_ble_eq_true rfl) (Nat.le_of_ble_eq_true rfl) ?_
  exact hQ _ _ _ _ _ (Or.inr (Or.inl ⟨_, _, dX10_ofCell_60, rfl, by first | rfl | exact nar_bI _, rfl, rfl⟩)) ⟨_, rfl, rfl⟩
set_option maxRecDepth 100000 in
set_option maxHeartbeats 4000000 in
theorem cz_X10_ofCell_x10 {l : Launch} {D : va_G} {cI cL cII cO : ClassId} {e0 : Nat} {g : Nat → Nat} {x : Int32} (hx : x < nI 0 ∨ nI 4 < x) : CtZ l D (TY cI cL cII cO) e0 yX10_ofCell (Cond.code yX10_ofCell cX10_ofCell 4 (some .int) :: TBL) ({ frames := 2, cells := 0, slots := 0, locals := 44 } : Room) (MF cI cII e0 g ((nI 0))) [.ref (g 0), .int (nI 1), .int (nI 0), .int (x)] (fun r z => ∃ fs, r = some (.int (nI 0)) ∧ z = [(g 0, .inr (12, .int (nI 2) :: fs))]) := by
  refine CtZ.of [some (.ref (g 0)), some (.int (nI 1)), some (.int (nI 0)), some (.int (x))] (by decide) rfl rfl (Nat.le_of_ble_eq_true rfl) rfl (fun κ C ZE hQ => ?_)
  refine V.aload_n C dX10_ofCell_0 rfl ?_
  refine V.iload_n C dX10_ofCell_1 rfl ?_
  refine V.zSin C ZE (cz_X10_isNoA_f (by decide +kernel) (by decide +kernel)) gz_X10_92 (n := 1) ⟨by decide, by decide, by decide +kernel⟩ rfl rfl ⟨Nat.le_of_ble_eq_true rfl, Nat.le_of_ble_eq_true rfl⟩ ⟨Nat.le_of_ble_eq_true rfl, Nat.le_of_ble_eq_true rfl⟩ (Nat.le_of_ble_eq_true rfl) rfl dX10_ofCell_2 ?_
  refine V.if_ne C (tgt := 15) dX10_ofCell_5 (by decide) (fun c5 => ?_) (fun c5 => ?_)
  · exfalso; exact absurd c5 (by decide +kernel)
  refine V.iload_n C dX10_ofCell_8 rfl ?_
  refine V.zSin C ZE (cz_X10_isNoB_f (by decide +kernel) (by decide +kernel)) gz_X10_95 (n := 1) ⟨by decide, by decide, by decide +kernel⟩ rfl rfl ⟨Nat.le_of_ble_eq_true rfl, Nat.le_of_ble_eq_true rfl⟩ ⟨Nat.le_of_ble_eq_true rfl, Nat.le_of_ble_eq_true rfl⟩ (Nat.le_of_ble_eq_true rfl) rfl dX10_ofCell_9 ?_
  refine V.if_eq C (tgt := 19) dX10_ofCell_12 (by decide) (fun c12 => ?_) (fun c12 => ?_)
  rotate_left
  · exfalso; exact absurd c12 (by decide +kernel)
  refine V.iconst C (v := nI 0) dX10_ofCell_19 (by decide) ?_
  refine V.iconst C (v := nI 1) dX10_ofCell_20 (by decide) ?_
  refine V.zVix C ZE (X := []) (cz_X10_start_f1) (by first | rfl | exact (List.append_nil _).symm) gz_X10_63 (n := 2) ⟨rfl, by decide, by decide, by decide +kernel⟩ rfl (q0 := 0) rfl rfl rfl ⟨Nat.le_of_ble_eq_true rfl, Nat.le_of_ble_eq_true rfl⟩ ⟨Nat.le_of_ble_eq_true rfl, Nat.le_of_ble_eq_true rfl⟩ (Nat.le_of_ble_eq_true rfl) rfl dX10_ofCell_21 ?_
  refine V.if_ne C (tgt := 49) dX10_ofCell_24 (by decide) (fun c24 => ?_) (fun c24 => ?_)
  · exfalso; exact absurd c24 (by decide +kernel)
  refine V.aload_n C dX10_ofCell_27 rfl ?_
  refine V.iload_n C dX10_ofCell_28 rfl ?_
  refine V.iconst C (v := nI 0) dX10_ofCell_29 (by decide) ?_
  refine V.iconst C (v := nI 4) dX10_ofCell_30 (by decide) ?_
  refine V.zSin C ZE (cz_X10_isIn) gz_X10_45 (n := 3) ⟨by decide, by decide, by decide +kernel⟩ rfl rfl ⟨Nat.le_of_ble_eq_true rfl, Nat.le_of_ble_eq_true rfl⟩ ⟨Nat.le_of_ble_eq_true rfl, Nat.le_of_ble_eq_true rfl⟩ (Nat.le_of_ble_eq_true rfl) rfl dX10_ofCell_31 ?_
  refine V.topi (y := nI 0) (isIn_f hx) ?_
  refine V.if_ne C (tgt := 41) dX10_ofCell_34 (by decide) (fun c34 => ?_) (fun c34 => ?_)
  · exfalso; exact absurd c34 (by decide +kernel)
  refine V.iconst C (v := nI 1) dX10_ofCell_37 (by decide) ?_
  refine V.goto C (tgt := 42) dX10_ofCell_38 (by decide) ?_
  refine V.iconst C (v := nI 2) dX10_ofCell_42 (by decide) ?_
  refine V.zVix C ZE (X := []) (cz_X10_refuse_t2) (by first | rfl | exact (List.append_nil _).symm) gz_X10_37 (n := 2) ⟨rfl, by decide, by decide, by decide +kernel⟩ rfl (q0 := 0) rfl rfl rfl ⟨Nat.le_of_ble_eq_true rfl, Nat.le_of_ble_eq_true rfl⟩ ⟨Nat.le_of_ble_eq_true rfl, Nat.le_of_ble_eq_true rfl⟩ (Nat.le_of_ble_eq_true rfl) rfl dX10_ofCell_43 ?_
  refine V.if_eq C (tgt := 53) dX10_ofCell_46 (by decide) (fun c46 => ?_) (fun c46 => ?_)
  · exfalso; exact absurd c46 (by decide +kernel)
  refine V.iconst C (v := nI 0) dX10_ofCell_49 (by decide) ?_
  refine V.goto C (tgt := 60) dX10_ofCell_50 (by decide) ?_
  refine V.pick (k := 0) rfl ?_
  refine V.widen (k := 0) (n := 0) (Nat.le_of_ble_eq_true rfl) (Nat.le_of_ble_eq_true rfl) ?_
  exact hQ _ _ _ _ _ (Or.inr (Or.inl ⟨_, _, dX10_ofCell_60, rfl, by first | rfl | exact nar_bI _, rfl, rfl⟩)) ⟨_, rfl, rfl⟩
set_option maxRecDepth 100000 in
set_option maxHeartbeats 4000000 in
theorem cz_X10_target_10 {l : Launch} {D : va_G} {cI cL cII cO : ClassId} {e0 : Nat} {g : Nat → Nat} {t : Nat} (ht : t ≤ 9) : CtZ l D (TY cI cL cII cO) e0 yX10_target (Cond.code yX10_target cX10_target 5 (some .int) :: TBL) ({ frames := 2, cells := 0, slots := 0, locals := 44 } : Room) (MF cI cII e0 g ((nI 0))) [.ref (g 0), .int (nI 1), .int (nI 0), .int (nI t)] (fun r z => ∃ fs, r = some (.int (nI 0)) ∧ z = [(g 0, .inr (12, .int (nI 0) :: fs))]) := by
  refine CtZ.of [some (.ref (g 0)), some (.int (nI 1)), some (.int (nI 0)), some (.int (nI t)), none] (by decide) rfl rfl (Nat.le_of_ble_eq_true rfl) rfl (fun κ C ZE hQ => ?_)
  refine V.aload_n C dX10_target_0 rfl ?_
  refine V.iload_n C dX10_target_1 rfl ?_
  refine V.zSin C ZE (cz_X10_isNoA_f (by decide +kernel) (by decide +kernel)) gz_X10_92 (n := 1) ⟨by decide, by decide, by decide +kernel⟩ rfl rfl ⟨Nat.le_of_ble_eq_true rfl, Nat.le_of_ble_eq_true rfl⟩ ⟨Nat.le_of_ble_eq_true rfl, Nat.le_of_ble_eq_true rfl⟩ (Nat.le_of_ble_eq_true rfl) rfl dX10_target_2 ?_
  refine V.if_ne C (tgt := 15) dX10_target_5 (by decide) (fun c5 => ?_) (fun c5 => ?_)
  · exfalso; exact absurd c5 (by decide +kernel)
  refine V.iload_n C dX10_target_8 rfl ?_
  refine V.zSin C ZE (cz_X10_isNoB_f (by decide +kernel) (by decide +kernel)) gz_X10_95 (n := 1) ⟨by decide, by decide, by decide +kernel⟩ rfl rfl ⟨Nat.le_of_ble_eq_true rfl, Nat.le_of_ble_eq_true rfl⟩ ⟨Nat.le_of_ble_eq_true rfl, Nat.le_of_ble_eq_true rfl⟩ (Nat.le_of_ble_eq_true rfl) rfl dX10_target_9 ?_
  refine V.if_eq C (tgt := 19) dX10_target_12 (by decide) (fun c12 => ?_) (fun c12 => ?_)
  rotate_left
  · exfalso; exact absurd c12 (by decide +kernel)
  refine V.iconst C (v := nI 0) dX10_target_19 (by decide) ?_
  refine V.iconst C (v := nI 1) dX10_target_20 (by decide) ?_
  refine V.zVix C ZE (X := []) (cz_X10_start_f1) (by first | rfl | exact (List.append_nil _).symm) gz_X10_63 (n := 2) ⟨rfl, by decide, by decide, by decide +kernel⟩ rfl (q0 := 0) rfl rfl rfl ⟨Nat.le_of_ble_eq_true rfl, Nat.le_of_ble_eq_true rfl⟩ ⟨Nat.le_of_ble_eq_true rfl, Nat.le_of_ble_eq_true rfl⟩ (Nat.le_of_ble_eq_true rfl) rfl dX10_target_21 ?_
  refine V.if_ne C (tgt := 50) dX10_target_24 (by decide) (fun c24 => ?_) (fun c24 => ?_)
  · exfalso; exact absurd c24 (by decide +kernel)
  refine V.aload_n C dX10_target_27 rfl ?_
  refine V.iload_n C dX10_target_28 rfl ?_
  refine V.iconst C (v := nI 0) dX10_target_29 (by decide) ?_
  refine V.bipush C (v := nI 9) dX10_target_30 (by decide) ?_
  refine V.zSin C ZE (cz_X10_isIn) gz_X10_45 (n := 3) ⟨by decide, by decide, by decide +kernel⟩ rfl rfl ⟨Nat.le_of_ble_eq_true rfl, Nat.le_of_ble_eq_true rfl⟩ ⟨Nat.le_of_ble_eq_true rfl, Nat.le_of_ble_eq_true rfl⟩ (Nat.le_of_ble_eq_true rfl) rfl dX10_target_32 ?_
  refine V.topi (y := nI 1) (isIn_t (nI_pos (by omega)) (nI_nlt ht (by decide))) ?_
  refine V.if_ne C (tgt := 42) dX10_target_35 (by decide) (fun c35 => ?_) (fun c35 => ?_)
  rotate_left
  · exfalso; exact absurd c35 (by decide +kernel)
  refine V.iconst C (v := nI 0) dX10_target_42 (by decide) ?_
  refine V.iconst C (v := nI 2) dX10_target_43 (by decide) ?_
  refine V.zVix C ZE (X := []) (cz_X10_refuse_f2) (by first | rfl | exact (List.append_nil _).symm) gz_X10_37 (n := 2) ⟨rfl, by decide, by decide, by decide +kernel⟩ rfl (q0 := 0) rfl rfl rfl ⟨Nat.le_of_ble_eq_true rfl, Nat.le_of_ble_eq_true rfl⟩ ⟨Nat.le_of_ble_eq_true rfl, Nat.le_of_ble_eq_true rfl⟩ (Nat.le_of_ble_eq_true rfl) rfl dX10_target_44 ?_
  refine V.if_eq C (tgt := 52) dX10_target_47 (by decide) (fun c47 => ?_) (fun c47 => ?_)
  rotate_left
  · exfalso; exact absurd c47 (by decide +kernel)
  refine V.aload_n C dX10_target_52 rfl ?_
  refine V.get C (q0 := 0) (k := 4) rfl rfl (by decide) (iz_X10 _) (List.mem_cons_of_mem _ tw_92) rfl rfl dX10_target_53 ?_
  refine V.iload_n C dX10_target_56 rfl ?_
  refine V.aaldA C (q0 := 5) (t0 := 2) (j := 1) (r := g 5 + 2) rfl rfl rfl (by decide) (by decide) rfl dX10_target_57 ?_
  refine V.iload_n C dX10_target_58 rfl ?_
  refine V.iald C (q0 := 7) (t0 := 0) rfl rfl rfl (by decide) (by decide) dX10_target_59 ?_
  refine V.topi (y := nI 0) (by first | rfl | simp [upd, nI_0]) ?_
  refine V.istore C dX10_target_60 (by decide) rfl ?_
  dsimp only [List.set]
  refine V.aload_n C dX10_target_62 rfl ?_
  refine V.get C (q0 := 0) (k := 4) rfl rfl (by decide) (iz_X10 _) (List.mem_cons_of_mem _ tw_92) rfl rfl dX10_target_63 ?_
  refine V.iload_n C dX10_target_66 rfl ?_
  refine V.aaldA C (q0 := 5) (t0 := 2) (j := 1) (r := g 5 + 2) rfl rfl rfl (by decide) (by decide) rfl dX10_target_67 ?_
  refine V.iload_n C dX10_target_68 rfl ?_
  refine V.iload_n C dX10_target_69 rfl ?_
  refine V.iast C (q0 := 7) (t0 := 0) (w' := _) rfl rfl (j := 0) rfl (by decide) (by decide) rfl dX10_target_70 ?_
  refine V.iload C dX10_target_71 rfl ?_
  refine V.pick (k := 0) rfl ?_
  refine V.widen (k := 0) (n := 0) (Nat.le_of_ble_eq_true rfl) (Nat.le_of_ble_eq_true rfl) ?_
  exact hQ _ _ _ _ _ (Or.inr (Or.inl ⟨_, _, dX10_target_73, rfl, by first | rfl | exact nar_bI _, rfl, rfl⟩)) ⟨_, rfl, rfl⟩
set_option maxRecDepth 100000 in
set_option maxHeartbeats 4000000 in
theorem cz_X10_target_x10 {l : Launch} {D : va_G} {cI cL cII cO : ClassId} {e0 : Nat} {g : Nat → Nat} {x : Int32} (hx : x < nI 0 ∨ nI 9 < x) : CtZ l D (TY cI cL cII cO) e0 yX10_target (Cond.code yX10_target cX10_target 5 (some .int) :: TBL) ({ frames := 2, cells := 0, slots := 0, locals := 44 } : Room) (MF cI cII e0 g ((nI 0))) [.ref (g 0), .int (nI 1), .int (nI 0), .int (x)] (fun r z => ∃ fs, r = some (.int (nI 0)) ∧ z = [(g 0, .inr (12, .int (nI 2) :: fs))]) := by
  refine CtZ.of [some (.ref (g 0)), some (.int (nI 1)), some (.int (nI 0)), some (.int (x)), none] (by decide) rfl rfl (Nat.le_of_ble_eq_true rfl) rfl (fun κ C ZE hQ => ?_)
  refine V.aload_n C dX10_target_0 rfl ?_
  refine V.iload_n C dX10_target_1 rfl ?_
  refine V.zSin C ZE (cz_X10_isNoA_f (by decide +kernel) (by decide +kernel)) gz_X10_92 (n := 1) ⟨by decide, by decide, by decide +kernel⟩ rfl rfl ⟨Nat.le_of_ble_eq_true rfl, Nat.le_of_ble_eq_true rfl⟩ ⟨Nat.le_of_ble_eq_true rfl, Nat.le_of_ble_eq_true rfl⟩ (Nat.le_of_ble_eq_true rfl) rfl dX10_target_2 ?_
  refine V.if_ne C (tgt := 15) dX10_target_5 (by decide) (fun c5 => ?_) (fun c5 => ?_)
  · exfalso; exact absurd c5 (by decide +kernel)
  refine V.iload_n C dX10_target_8 rfl ?_
  refine V.zSin C ZE (cz_X10_isNoB_f (by decide +kernel) (by decide +kernel)) gz_X10_95 (n := 1) ⟨by decide, by decide, by decide +kernel⟩ rfl rfl ⟨Nat.le_of_ble_eq_true rfl, Nat.le_of_ble_eq_true rfl⟩ ⟨Nat.le_of_ble_eq_true rfl, Nat.le_of_ble_eq_true rfl⟩ (Nat.le_of_ble_eq_true rfl) rfl dX10_target_9 ?_
  refine V.if_eq C (tgt := 19) dX10_target_12 (by decide) (fun c12 => ?_) (fun c12 => ?_)
  rotate_left
  · exfalso; exact absurd c12 (by decide +kernel)
  refine V.iconst C (v := nI 0) dX10_target_19 (by decide) ?_
  refine V.iconst C (v := nI 1) dX10_target_20 (by decide) ?_
  refine V.zVix C ZE (X := []) (cz_X10_start_f1) (by first | rfl | exact (List.append_nil _).symm) gz_X10_63 (n := 2) ⟨rfl, by decide, by decide, by decide +kernel⟩ rfl (q0 := 0) rfl rfl rfl ⟨Nat.le_of_ble_eq_true rfl, Nat.le_of_ble_eq_true rfl⟩ ⟨Nat.le_of_ble_eq_true rfl, Nat.le_of_ble_eq_true rfl⟩ (Nat.le_of_ble_eq_true rfl) rfl dX10_target_21 ?_
  refine V.if_ne C (tgt := 50) dX10_target_24 (by decide) (fun c24 => ?_) (fun c24 => ?_)
  · exfalso; exact absurd c24 (by decide +kernel)
  refine V.aload_n C dX10_target_27 rfl ?_
  refine V.iload_n C dX10_target_28 rfl ?_
  refine V.iconst C (v := nI 0) dX10_target_29 (by decide) ?_
  refine V.bipush C (v := nI 9) dX10_target_30 (by decide) ?_
  refine V.zSin C ZE (cz_X10_isIn) gz_X10_45 (n := 3) ⟨by decide, by decide, by decide +kernel⟩ rfl rfl ⟨Nat.le_of_ble_eq_true rfl, Nat.le_of_ble_eq_true rfl⟩ ⟨Nat.le_of_ble_eq_true rfl, Nat.le_of_ble_eq_true rfl⟩ (Nat.le_of_ble_eq_true rfl) rfl dX10_target_32 ?_
  refine V.topi (y := nI 0) (isIn_f hx) ?_
  refine V.if_ne C (tgt := 42) dX10_target_35 (by decide) (fun c35 => ?_) (fun c35 => ?_)
  · exfalso; exact absurd c35 (by decide +kernel)
  refine V.iconst C (v := nI 1) dX10_target_38 (by decide) ?_
  refine V.goto C (tgt := 43) dX10_target_39 (by decide) ?_
  refine V.iconst C (v := nI 2) dX10_target_43 (by decide) ?_
  refine V.zVix C ZE (X := []) (cz_X10_refuse_t2) (by first | rfl | exact (List.append_nil _).symm) gz_X10_37 (n := 2) ⟨rfl, by decide, by decide, by decide +kernel⟩ rfl (q0 := 0) rfl rfl rfl ⟨Nat.le_of_ble_eq_true rfl, Nat.le_of_ble_eq_true rfl⟩ ⟨Nat.le_of_ble_eq_true rfl, Nat.le_of_ble_eq_true rfl⟩ (Nat.le_of_ble_eq_true rfl) rfl dX10_target_44 ?_
  refine V.if_eq C (tgt := 52) dX10_target_47 (by decide) (fun c47 => ?_) (fun c47 => ?_)
  · exfalso; exact absurd c47 (by decide +kernel)
  refine V.iconst C (v := nI 0) dX10_target_50 (by decide) ?_
  refine V.pick (k := 0) rfl ?_
  refine V.widen (k := 0) (n := 0) (Nat.le_of_ble_eq_true rfl) (Nat.le_of_ble_eq_true rfl) ?_
  exact hQ _ _ _ _ _ (Or.inr (Or.inl ⟨_, _, dX10_target_51, rfl, by first | rfl | exact nar_bI _, rfl, rfl⟩)) ⟨_, rfl, rfl⟩
set_option maxRecDepth 100000 in
set_option maxHeartbeats 4000000 in
theorem cz_X10_ofCell_11 {l : Launch} {D : va_G} {cI cL cII cO : ClassId} {e0 : Nat} {g : Nat → Nat} {k : Nat} (hk : k < 5) : CtZ l D (TY cI cL cII cO) e0 yX10_ofCell (Cond.code yX10_ofCell cX10_ofCell 4 (some .int) :: TBL) ({ frames := 5, cells := 5, slots := 13, locals := 119 } : Room) (MF cI cII e0 g ((nI 0))) [.ref (g 0), .int (nI 1), .int (nI 1), .int (nI k)] (fun r z => ∃ fs, r = some (.int (nI 0)) ∧ z = [(g 0, .inr (12, .int (nI 0) :: fs))]) := by
  refine CtZ.of [some (.ref (g 0)), some (.int (nI 1)), some (.int (nI 1)), some (.int (nI k))] (by decide) rfl rfl (Nat.le_of_ble_eq_true rfl) rfl (fun κ C ZE hQ => ?_)
  refine V.aload_n C dX10_ofCell_0 rfl ?_
  refine V.iload_n C dX10_ofCell_1 rfl ?_
  refine V.zSin C ZE (cz_X10_isNoA_f (by decide +kernel) (by decide +kernel)) gz_X10_92 (n := 1) ⟨by decide, by decide, by decide +kernel⟩ rfl rfl ⟨Nat.le_of_ble_eq_true rfl, Nat.le_of_ble_eq_true rfl⟩ ⟨Nat.le_of_ble_eq_true rfl, Nat.le_of_ble_eq_true rfl⟩ (Nat.le_of_ble_eq_true rfl) rfl dX10_ofCell_2 ?_
  refine V.if_ne C (tgt := 15) dX10_ofCell_5 (by decide) (fun c5 => ?_) (fun c5 => ?_)
  · exfalso; exact absurd c5 (by decide +kernel)
  refine V.iload_n C dX10_ofCell_8 rfl ?_
  refine V.zSin C ZE (cz_X10_isNoB_f (by decide +kernel) (by decide +kernel)) gz_X10_95 (n := 1) ⟨by decide, by decide, by decide +kernel⟩ rfl rfl ⟨Nat.le_of_ble_eq_true rfl, Nat.le_of_ble_eq_true rfl⟩ ⟨Nat.le_of_ble_eq_true rfl, Nat.le_of_ble_eq_true rfl⟩ (Nat.le_of_ble_eq_true rfl) rfl dX10_ofCell_9 ?_
  refine V.if_eq C (tgt := 19) dX10_ofCell_12 (by decide) (fun c12 => ?_) (fun c12 => ?_)
  rotate_left
  · exfalso; exact absurd c12 (by decide +kernel)
  refine V.iconst C (v := nI 0) dX10_ofCell_19 (by decide) ?_
  refine V.iconst C (v := nI 1) dX10_ofCell_20 (by decide) ?_
  refine V.zVix C ZE (X := []) (cz_X10_start_f1) (by first | rfl | exact (List.append_nil _).symm) gz_X10_63 (n := 2) ⟨rfl, by decide, by decide, by decide +kernel⟩ rfl (q0 := 0) rfl rfl rfl ⟨Nat.le_of_ble_eq_true rfl, Nat.le_of_ble_eq_true rfl⟩ ⟨Nat.le_of_ble_eq_true rfl, Nat.le_of_ble_eq_true rfl⟩ (Nat.le_of_ble_eq_true rfl) rfl dX10_ofCell_21 ?_
  refine V.if_ne C (tgt := 49) dX10_ofCell_24 (by decide) (fun c24 => ?_) (fun c24 => ?_)
  · exfalso; exact absurd c24 (by decide +kernel)
  refine V.aload_n C dX10_ofCell_27 rfl ?_
  refine V.iload_n C dX10_ofCell_28 rfl ?_
  refine V.iconst C (v := nI 0) dX10_ofCell_29 (by decide) ?_
  refine V.iconst C (v := nI 4) dX10_ofCell_30 (by decide) ?_
  refine V.zSin C ZE (cz_X10_isIn) gz_X10_45 (n := 3) ⟨by decide, by decide, by decide +kernel⟩ rfl rfl ⟨Nat.le_of_ble_eq_true rfl, Nat.le_of_ble_eq_true rfl⟩ ⟨Nat.le_of_ble_eq_true rfl, Nat.le_of_ble_eq_true rfl⟩ (Nat.le_of_ble_eq_true rfl) rfl dX10_ofCell_31 ?_
  refine V.topi (y := nI 1) (isIn_t (nI_pos (by omega)) (nI_nlt (show k ≤ 4 by omega) (by decide))) ?_
  refine V.if_ne C (tgt := 41) dX10_ofCell_34 (by decide) (fun c34 => ?_) (fun c34 => ?_)
  rotate_left
  · exfalso; exact absurd c34 (by decide +kernel)
  refine V.iconst C (v := nI 0) dX10_ofCell_41 (by decide) ?_
  refine V.iconst C (v := nI 2) dX10_ofCell_42 (by decide) ?_
  refine V.zVix C ZE (X := []) (cz_X10_refuse_f2) (by first | rfl | exact (List.append_nil _).symm) gz_X10_37 (n := 2) ⟨rfl, by decide, by decide, by decide +kernel⟩ rfl (q0 := 0) rfl rfl rfl ⟨Nat.le_of_ble_eq_true rfl, Nat.le_of_ble_eq_true rfl⟩ ⟨Nat.le_of_ble_eq_true rfl, Nat.le_of_ble_eq_true rfl⟩ (Nat.le_of_ble_eq_true rfl) rfl dX10_ofCell_43 ?_
  refine V.if_eq C (tgt := 53) dX10_ofCell_46 (by decide) (fun c46 => ?_) (fun c46 => ?_)
  rotate_left
  · exfalso; exact absurd c46 (by decide +kernel)
  refine V.aload_n C dX10_ofCell_53 rfl ?_
  refine V.iload_n C dX10_ofCell_54 rfl ?_
  refine V.iload_n C dX10_ofCell_55 rfl ?_
  refine V.iload_n C dX10_ofCell_56 rfl ?_
  refine V.zVix C ZE (X := []) (cz_X10_ofCellNow_11) (by first | rfl | exact (List.append_nil _).symm) gz_X10_162 (n := 3) ⟨rfl, by decide, by decide, by decide +kernel⟩ rfl (q0 := 0) rfl rfl rfl ⟨Nat.le_of_ble_eq_true rfl, Nat.le_of_ble_eq_true rfl⟩ ⟨Nat.le_of_ble_eq_true rfl, Nat.le_of_ble_eq_true rfl⟩ (Nat.le_of_ble_eq_true rfl) rfl dX10_ofCell_57 ?_
  refine V.pick (k := 0) rfl ?_
  refine V.widen (k := 5) (n := 13) (Nat.le_of_ble_eq_true rfl) (Nat.le_of_ble_eq_true rfl) ?_
  exact hQ _ _ _ _ _ (Or.inr (Or.inl ⟨_, _, dX10_ofCell_60, rfl, by first | rfl | exact nar_bI _, rfl, rfl⟩)) ⟨_, rfl, rfl⟩
set_option maxRecDepth 100000 in
set_option maxHeartbeats 4000000 in
theorem cz_X10_ofCell_x11 {l : Launch} {D : va_G} {cI cL cII cO : ClassId} {e0 : Nat} {g : Nat → Nat} {x : Int32} (hx : x < nI 0 ∨ nI 4 < x) : CtZ l D (TY cI cL cII cO) e0 yX10_ofCell (Cond.code yX10_ofCell cX10_ofCell 4 (some .int) :: TBL) ({ frames := 2, cells := 0, slots := 0, locals := 44 } : Room) (MF cI cII e0 g ((nI 0))) [.ref (g 0), .int (nI 1), .int (nI 1), .int (x)] (fun r z => ∃ fs, r = some (.int (nI 0)) ∧ z = [(g 0, .inr (12, .int (nI 2) :: fs))]) := by
  refine CtZ.of [some (.ref (g 0)), some (.int (nI 1)), some (.int (nI 1)), some (.int (x))] (by decide) rfl rfl (Nat.le_of_ble_eq_true rfl) rfl (fun κ C ZE hQ => ?_)
  refine V.aload_n C dX10_ofCell_0 rfl ?_
  refine V.iload_n C dX10_ofCell_1 rfl ?_
  refine V.zSin C ZE (cz_X10_isNoA_f (by decide +kernel) (by decide +kernel)) gz_X10_92 (n := 1) ⟨by decide, by decide, by decide +kernel⟩ rfl rfl ⟨Nat.le_of_ble_eq_true rfl, Nat.le_of_ble_eq_true rfl⟩ ⟨Nat.le_of_ble_eq_true rfl, Nat.le_of_ble_eq_true rfl⟩ (Nat.le_of_ble_eq_true rfl) rfl dX10_ofCell_2 ?_
  refine V.if_ne C (tgt := 15) dX10_ofCell_5 (by decide) (fun c5 => ?_) (fun c5 => ?_)
  · exfalso; exact absurd c5 (by decide +kernel)
  refine V.iload_n C dX10_ofCell_8 rfl ?_
  refine V.zSin C ZE (cz_X10_isNoB_f (by decide +kernel) (by decide +kernel)) gz_X10_95 (n := 1) ⟨by decide, by decide, by decide +kernel⟩ rfl rfl ⟨Nat.le_of_ble_eq_true rfl, Nat.le_of_ble_eq_true rfl⟩ ⟨Nat.le_of_ble_eq_true rfl, Nat.le_of_ble_eq_true rfl⟩ (Nat.le_of_ble_eq_true rfl) rfl dX10_ofCell_9 ?_
  refine V.if_eq C (tgt := 19) dX10_ofCell_12 (by decide) (fun c12 => ?_) (fun c12 => ?_)
  rotate_left
  · exfalso; exact absurd c12 (by decide +kernel)
  refine V.iconst C (v := nI 0) dX10_ofCell_19 (by decide) ?_
  refine V.iconst C (v := nI 1) dX10_ofCell_20 (by decide) ?_
  refine V.zVix C ZE (X := []) (cz_X10_start_f1) (by first | rfl | exact (List.append_nil _).symm) gz_X10_63 (n := 2) ⟨rfl, by decide, by decide, by decide +kernel⟩ rfl (q0 := 0) rfl rfl rfl ⟨Nat.le_of_ble_eq_true rfl, Nat.le_of_ble_eq_true rfl⟩ ⟨Nat.le_of_ble_eq_true rfl, Nat.le_of_ble_eq_true rfl⟩ (Nat.le_of_ble_eq_true rfl) rfl dX10_ofCell_21 ?_
  refine V.if_ne C (tgt := 49) dX10_ofCell_24 (by decide) (fun c24 => ?_) (fun c24 => ?_)
  · exfalso; exact absurd c24 (by decide +kernel)
  refine V.aload_n C dX10_ofCell_27 rfl ?_
  refine V.iload_n C dX10_ofCell_28 rfl ?_
  refine V.iconst C (v := nI 0) dX10_ofCell_29 (by decide) ?_
  refine V.iconst C (v := nI 4) dX10_ofCell_30 (by decide) ?_
  refine V.zSin C ZE (cz_X10_isIn) gz_X10_45 (n := 3) ⟨by decide, by decide, by decide +kernel⟩ rfl rfl ⟨Nat.le_of_ble_eq_true rfl, Nat.le_of_ble_eq_true rfl⟩ ⟨Nat.le_of_ble_eq_true rfl, Nat.le_of_ble_eq_true rfl⟩ (Nat.le_of_ble_eq_true rfl) rfl dX10_ofCell_31 ?_
  refine V.topi (y := nI 0) (isIn_f hx) ?_
  refine V.if_ne C (tgt := 41) dX10_ofCell_34 (by decide) (fun c34 => ?_) (fun c34 => ?_)
  · exfalso; exact absurd c34 (by decide +kernel)
  refine V.iconst C (v := nI 1) dX10_ofCell_37 (by decide) ?_
  refine V.goto C (tgt := 42) dX10_ofCell_38 (by decide) ?_
  refine V.iconst C (v := nI 2) dX10_ofCell_42 (by decide) ?_
  refine V.zVix C ZE (X := []) (cz_X10_refuse_t2) (by first | rfl | exact (List.append_nil _).symm) gz_X10_37 (n := 2) ⟨rfl, by decide, by decide, by decide +kernel⟩ rfl (q0 := 0) rfl rfl rfl ⟨Nat.le_of_ble_eq_true rfl, Nat.le_of_ble_eq_true rfl⟩ ⟨Nat.le_of_ble_eq_true rfl, Nat.le_of_ble_eq_true rfl⟩ (Nat.le_of_ble_eq_true rfl) rfl dX10_ofCell_43 ?_
  refine V.if_eq C (tgt := 53) dX10_ofCell_46 (by decide) (fun c46 => ?_) (fun c46 => ?_)
  · exfalso; exact absurd c46 (by decide +kernel)
  refine V.iconst C (v := nI 0) dX10_ofCell_49 (by decide) ?_
  refine V.goto C (tgt := 60) dX10_ofCell_50 (by decide) ?_
  refine V.pick (k := 0) rfl ?_
  refine V.widen (k := 0) (n := 0) (Nat.le_of_ble_eq_true rfl) (Nat.le_of_ble_eq_true rfl) ?_
  exact hQ _ _ _ _ _ (Or.inr (Or.inl ⟨_, _, dX10_ofCell_60, rfl, by first | rfl | exact nar_bI _, rfl, rfl⟩)) ⟨_, rfl, rfl⟩
set_option maxRecDepth 100000 in
set_option maxHeartbeats 4000000 in
theorem cz_X10_target_11 {l : Launch} {D : va_G} {cI cL cII cO : ClassId} {e0 : Nat} {g : Nat → Nat} {t : Nat} (ht : t ≤ 9) : CtZ l D (TY cI cL cII cO) e0 yX10_target (Cond.code yX10_target cX10_target 5 (some .int) :: TBL) ({ frames := 2, cells := 0, slots := 0, locals := 44 } : Room) (MF cI cII e0 g ((nI 0))) [.ref (g 0), .int (nI 1), .int (nI 1), .int (nI t)] (fun r z => ∃ fs, r = some (.int (nI 0)) ∧ z = [(g 0, .inr (12, .int (nI 0) :: fs))]) := by
  refine CtZ.of [some (.ref (g 0)), some (.int (nI 1)), some (.int (nI 1)), some (.int (nI t)), none] (by decide) rfl rfl (Nat.le_of_ble_eq_true rfl) rfl (fun κ C ZE hQ => ?_)
  refine V.aload_n C dX10_target_0 rfl ?_
  refine V.iload_n C dX10_target_1 rfl ?_
  refine V.zSin C ZE (cz_X10_isNoA_f (by decide +kernel) (by decide +kernel)) gz_X10_92 (n := 1) ⟨by decide, by decide, by decide +kernel⟩ rfl rfl ⟨Nat.le_of_ble_eq_true rfl, Nat.le_of_ble_eq_true rfl⟩ ⟨Nat.le_of_ble_eq_true rfl, Nat.le_of_ble_eq_true rfl⟩ (Nat.le_of_ble_eq_true rfl) rfl dX10_target_2 ?_
  refine V.if_ne C (tgt := 15) dX10_target_5 (by decide) (fun c5 => ?_) (fun c5 => ?_)
  · exfalso; exact absurd c5 (by decide +kernel)
  refine V.iload_n C dX10_target_8 rfl ?_
  refine V.zSin C ZE (cz_X10_isNoB_f (by decide +kernel) (by decide +kernel)) gz_X10_95 (n := 1) ⟨by decide, by decide, by decide +kernel⟩ rfl rfl ⟨Nat.le_of_ble_eq_true rfl, Nat.le_of_ble_eq_true rfl⟩ ⟨Nat.le_of_ble_eq_true rfl, Nat.le_of_ble_eq_true rfl⟩ (Nat.le_of_ble_eq_true rfl) rfl dX10_target_9 ?_
  refine V.if_eq C (tgt := 19) dX10_target_12 (by decide) (fun c12 => ?_) (fun c12 => ?_)
  rotate_left
  · exfalso; exact absurd c12 (by decide +kernel)
  refine V.iconst C (v := nI 0) dX10_target_19 (by decide) ?_
  refine V.iconst C (v := nI 1) dX10_target_20 (by decide) ?_
  refine V.zVix C ZE (X := []) (cz_X10_start_f1) (by first | rfl | exact (List.append_nil _).symm) gz_X10_63 (n := 2) ⟨rfl, by decide, by decide, by decide +kernel⟩ rfl (q0 := 0) rfl rfl rfl ⟨Nat.le_of_ble_eq_true rfl, Nat.le_of_ble_eq_true rfl⟩ ⟨Nat.le_of_ble_eq_true rfl, Nat.le_of_ble_eq_true rfl⟩ (Nat.le_of_ble_eq_true rfl) rfl dX10_target_21 ?_
  refine V.if_ne C (tgt := 50) dX10_target_24 (by decide) (fun c24 => ?_) (fun c24 => ?_)
  · exfalso; exact absurd c24 (by decide +kernel)
  refine V.aload_n C dX10_target_27 rfl ?_
  refine V.iload_n C dX10_target_28 rfl ?_
  refine V.iconst C (v := nI 0) dX10_target_29 (by decide) ?_
  refine V.bipush C (v := nI 9) dX10_target_30 (by decide) ?_
  refine V.zSin C ZE (cz_X10_isIn) gz_X10_45 (n := 3) ⟨by decide, by decide, by decide +kernel⟩ rfl rfl ⟨Nat.le_of_ble_eq_true rfl, Nat.le_of_ble_eq_true rfl⟩ ⟨Nat.le_of_ble_eq_true rfl, Nat.le_of_ble_eq_true rfl⟩ (Nat.le_of_ble_eq_true rfl) rfl dX10_target_32 ?_
  refine V.topi (y := nI 1) (isIn_t (nI_pos (by omega)) (nI_nlt ht (by decide))) ?_
  refine V.if_ne C (tgt := 42) dX10_target_35 (by decide) (fun c35 => ?_) (fun c35 => ?_)
  rotate_left
  · exfalso; exact absurd c35 (by decide +kernel)
  refine V.iconst C (v := nI 0) dX10_target_42 (by decide) ?_
  refine V.iconst C (v := nI 2) dX10_target_43 (by decide) ?_
  refine V.zVix C ZE (X := []) (cz_X10_refuse_f2) (by first | rfl | exact (List.append_nil _).symm) gz_X10_37 (n := 2) ⟨rfl, by decide, by decide, by decide +kernel⟩ rfl (q0 := 0) rfl rfl rfl ⟨Nat.le_of_ble_eq_true rfl, Nat.le_of_ble_eq_true rfl⟩ ⟨Nat.le_of_ble_eq_true rfl, Nat.le_of_ble_eq_true rfl⟩ (Nat.le_of_ble_eq_true rfl) rfl dX10_target_44 ?_
  refine V.if_eq C (tgt := 52) dX10_target_47 (by decide) (fun c47 => ?_) (fun c47 => ?_)
  rotate_left
  · exfalso; exact absurd c47 (by decide +kernel)
  refine V.aload_n C dX10_target_52 rfl ?_
  refine V.get C (q0 := 0) (k := 4) rfl rfl (by decide) (iz_X10 _) (List.mem_cons_of_mem _ tw_92) rfl rfl dX10_target_53 ?_
  refine V.iload_n C dX10_target_56 rfl ?_
  refine V.aaldA C (q0 := 5) (t0 := 2) (j := 1) (r := g 5 + 2) rfl rfl rfl (by decide) (by decide) rfl dX10_target_57 ?_
  refine V.iload_n C dX10_target_58 rfl ?_
  refine V.iald C (q0 := 7) (t0 := 0) rfl rfl rfl (by decide) (by decide) dX10_target_59 ?_
  refine V.topi (y := nI 0) (by first | rfl | simp [upd, nI_0]) ?_
  refine V.istore C dX10_target_60 (by decide) rfl ?_
  dsimp only [List.set]
  refine V.aload_n C dX10_target_62 rfl ?_
  refine V.get C (q0 := 0) (k := 4) rfl rfl (by decide) (iz_X10 _) (List.mem_cons_of_mem _ tw_92) rfl rfl dX10_target_63 ?_
  refine V.iload_n C dX10_target_66 rfl ?_
  refine V.aaldA C (q0 := 5) (t0 := 2) (j := 1) (r := g 5 + 2) rfl rfl rfl (by decide) (by decide) rfl dX10_target_67 ?_
  refine V.iload_n C dX10_target_68 rfl ?_
  refine V.iload_n C dX10_target_69 rfl ?_
  refine V.iast C (q0 := 7) (t0 := 0) (w' := _) rfl rfl (j := 1) rfl (by decide) (by decide) rfl dX10_target_70 ?_
  refine V.iload C dX10_target_71 rfl ?_
  refine V.pick (k := 0) rfl ?_
  refine V.widen (k := 0) (n := 0) (Nat.le_of_ble_eq_true rfl) (Nat.le_of_ble_eq_true rfl) ?_
  exact hQ _ _ _ _ _ (Or.inr (Or.inl ⟨_, _, dX10_target_73, rfl, by first | rfl | exact nar_bI _, rfl, rfl⟩)) ⟨_, rfl, rfl⟩
set_option maxRecDepth 100000 in
set_option maxHeartbeats 4000000 in
theorem cz_X10_target_x11 {l : Launch} {D : va_G} {cI cL cII cO : ClassId} {e0 : Nat} {g : Nat → Nat} {x : Int32} (hx : x < nI 0 ∨ nI 9 < x) : CtZ l D (TY cI cL cII cO) e0 yX10_target (Cond.code yX10_target cX10_target 5 (some .int) :: TBL) ({ frames := 2, cells := 0, slots := 0, locals := 44 } : Room) (MF cI cII e0 g ((nI 0))) [.ref (g 0), .int (nI 1), .int (nI 1), .int (x)] (fun r z => ∃ fs, r = some (.int (nI 0)) ∧ z = [(g 0, .inr (12, .int (nI 2) :: fs))]) := by
  refine CtZ.of [some (.ref (g 0)), some (.int (nI 1)), some (.int (nI 1)), some (.int (x)), none] (by decide) rfl rfl (Nat.le_of_ble_eq_true rfl) rfl (fun κ C ZE hQ => ?_)
  refine V.aload_n C dX10_target_0 rfl ?_
  refine V.iload_n C dX10_target_1 rfl ?_
  refine V.zSin C ZE (cz_X10_isNoA_f (by decide +kernel) (by decide +kernel)) gz_X10_92 (n := 1) ⟨by decide, by decide, by decide +kernel⟩ rfl rfl ⟨Nat.le_of_ble_eq_true rfl, Nat.le_of_ble_eq_true rfl⟩ ⟨Nat.le_of_ble_eq_true rfl, Nat.le_of_ble_eq_true rfl⟩ (Nat.le_of_ble_eq_true rfl) rfl dX10_target_2 ?_
  refine V.if_ne C (tgt := 15) dX10_target_5 (by decide) (fun c5 => ?_) (fun c5 => ?_)
  · exfalso; exact absurd c5 (by decide +kernel)
  refine V.iload_n C dX10_target_8 rfl ?_
  refine V.zSin C ZE (cz_X10_isNoB_f (by decide +kernel) (by decide +kernel)) gz_X10_95 (n := 1) ⟨by decide, by decide, by decide +kernel⟩ rfl rfl ⟨Nat.le_of_ble_eq_true rfl, Nat.le_of_ble_eq_true rfl⟩ ⟨Nat.le_of_ble_eq_true rfl, Nat.le_of_ble_eq_true rfl⟩ (Nat.le_of_ble_eq_true rfl) rfl dX10_target_9 ?_
  refine V.if_eq C (tgt := 19) dX10_target_12 (by decide) (fun c12 => ?_) (fun c12 => ?_)
  rotate_left
  · exfalso; exact absurd c12 (by decide +kernel)
  refine V.iconst C (v := nI 0) dX10_target_19 (by decide) ?_
  refine V.iconst C (v := nI 1) dX10_target_20 (by decide) ?_
  refine V.zVix C ZE (X := []) (cz_X10_start_f1) (by first | rfl | exact (List.append_nil _).symm) gz_X10_63 (n := 2) ⟨rfl, by decide, by decide, by decide +kernel⟩ rfl (q0 := 0) rfl rfl rfl ⟨Nat.le_of_ble_eq_true rfl, Nat.le_of_ble_eq_true rfl⟩ ⟨Nat.le_of_ble_eq_true rfl, Nat.le_of_ble_eq_true rfl⟩ (Nat.le_of_ble_eq_true rfl) rfl dX10_target_21 ?_
  refine V.if_ne C (tgt := 50) dX10_target_24 (by decide) (fun c24 => ?_) (fun c24 => ?_)
  · exfalso; exact absurd c24 (by decide +kernel)
  refine V.aload_n C dX10_target_27 rfl ?_
  refine V.iload_n C dX10_target_28 rfl ?_
  refine V.iconst C (v := nI 0) dX10_target_29 (by decide) ?_
  refine V.bipush C (v := nI 9) dX10_target_30 (by decide) ?_
  refine V.zSin C ZE (cz_X10_isIn) gz_X10_45 (n := 3) ⟨by decide, by decide, by decide +kernel⟩ rfl rfl ⟨Nat.le_of_ble_eq_true rfl, Nat.le_of_ble_eq_true rfl⟩ ⟨Nat.le_of_ble_eq_true rfl, Nat.le_of_ble_eq_true rfl⟩ (Nat.le_of_ble_eq_true rfl) rfl dX10_target_32 ?_
  refine V.topi (y := nI 0) (isIn_f hx) ?_
  refine V.if_ne C (tgt := 42) dX10_target_35 (by decide) (fun c35 => ?_) (fun c35 => ?_)
  · exfalso; exact absurd c35 (by decide +kernel)
  refine V.iconst C (v := nI 1) dX10_target_38 (by decide) ?_
  refine V.goto C (tgt := 43) dX10_target_39 (by decide) ?_
  refine V.iconst C (v := nI 2) dX10_target_43 (by decide) ?_
  refine V.zVix C ZE (X := []) (cz_X10_refuse_t2) (by first | rfl | exact (List.append_nil _).symm) gz_X10_37 (n := 2) ⟨rfl, by decide, by decide, by decide +kernel⟩ rfl (q0 := 0) rfl rfl rfl ⟨Nat.le_of_ble_eq_true rfl, Nat.le_of_ble_eq_true rfl⟩ ⟨Nat.le_of_ble_eq_true rfl, Nat.le_of_ble_eq_true rfl⟩ (Nat.le_of_ble_eq_true rfl) rfl dX10_target_44 ?_
  refine V.if_eq C (tgt := 52) dX10_target_47 (by decide) (fun c47 => ?_) (fun c47 => ?_)
  · exfalso; exact absurd c47 (by decide +kernel)
  refine V.iconst C (v := nI 0) dX10_target_50 (by decide) ?_
  refine V.pick (k := 0) rfl ?_
  refine V.widen (k := 0) (n := 0) (Nat.le_of_ble_eq_true rfl) (Nat.le_of_ble_eq_true rfl) ?_
  exact hQ _ _ _ _ _ (Or.inr (Or.inl ⟨_, _, dX10_target_51, rfl, by first | rfl | exact nar_bI _, rfl, rfl⟩)) ⟨_, rfl, rfl⟩
set_option maxRecDepth 100000 in
set_option maxHeartbeats 4000000 in
theorem cz_X10_ofCell_20 {l : Launch} {D : va_G} {cI cL cII cO : ClassId} {e0 : Nat} {g : Nat → Nat} {k : Nat} (hk : k < 5) : CtZ l D (TY cI cL cII cO) e0 yX10_ofCell (Cond.code yX10_ofCell cX10_ofCell 4 (some .int) :: TBL) ({ frames := 5, cells := 5, slots := 13, locals := 119 } : Room) (MF cI cII e0 g ((nI 0))) [.ref (g 0), .int (nI 2), .int (nI 0), .int (nI k)] (fun r z => ∃ fs, r = some (.int (nI 0)) ∧ z = [(g 0, .inr (12, .int (nI 0) :: fs))]) := by
  refine CtZ.of [some (.ref (g 0)), some (.int (nI 2)), some (.int (nI 0)), some (.int (nI k))] (by decide) rfl rfl (Nat.le_of_ble_eq_true rfl) rfl (fun κ C ZE hQ => ?_)
  refine V.aload_n C dX10_ofCell_0 rfl ?_
  refine V.iload_n C dX10_ofCell_1 rfl ?_
  refine V.zSin C ZE (cz_X10_isNoA_f (by decide +kernel) (by decide +kernel)) gz_X10_92 (n := 1) ⟨by decide, by decide, by decide +kernel⟩ rfl rfl ⟨Nat.le_of_ble_eq_true rfl, Nat.le_of_ble_eq_true rfl⟩ ⟨Nat.le_of_ble_eq_true rfl, Nat.le_of_ble_eq_true rfl⟩ (Nat.le_of_ble_eq_true rfl) rfl dX10_ofCell_2 ?_
  refine V.if_ne C (tgt := 15) dX10_ofCell_5 (by decide) (fun c5 => ?_) (fun c5 => ?_)
  · exfalso; exact absurd c5 (by decide +kernel)
  refine V.iload_n C dX10_ofCell_8 rfl ?_
  refine V.zSin C ZE (cz_X10_isNoB_f (by decide +kernel) (by decide +kernel)) gz_X10_95 (n := 1) ⟨by decide, by decide, by decide +kernel⟩ rfl rfl ⟨Nat.le_of_ble_eq_true rfl, Nat.le_of_ble_eq_true rfl⟩ ⟨Nat.le_of_ble_eq_true rfl, Nat.le_of_ble_eq_true rfl⟩ (Nat.le_of_ble_eq_true rfl) rfl dX10_ofCell_9 ?_
  refine V.if_eq C (tgt := 19) dX10_ofCell_12 (by decide) (fun c12 => ?_) (fun c12 => ?_)
  rotate_left
  · exfalso; exact absurd c12 (by decide +kernel)
  refine V.iconst C (v := nI 0) dX10_ofCell_19 (by decide) ?_
  refine V.iconst C (v := nI 1) dX10_ofCell_20 (by decide) ?_
  refine V.zVix C ZE (X := []) (cz_X10_start_f1) (by first | rfl | exact (List.append_nil _).symm) gz_X10_63 (n := 2) ⟨rfl, by decide, by decide, by decide +kernel⟩ rfl (q0 := 0) rfl rfl rfl ⟨Nat.le_of_ble_eq_true rfl, Nat.le_of_ble_eq_true rfl⟩ ⟨Nat.le_of_ble_eq_true rfl, Nat.le_of_ble_eq_true rfl⟩ (Nat.le_of_ble_eq_true rfl) rfl dX10_ofCell_21 ?_
  refine V.if_ne C (tgt := 49) dX10_ofCell_24 (by decide) (fun c24 => ?_) (fun c24 => ?_)
  · exfalso; exact absurd c24 (by decide +kernel)
  refine V.aload_n C dX10_ofCell_27 rfl ?_
  refine V.iload_n C dX10_ofCell_28 rfl ?_
  refine V.iconst C (v := nI 0) dX10_ofCell_29 (by decide) ?_
  refine V.iconst C (v := nI 4) dX10_ofCell_30 (by decide) ?_
  refine V.zSin C ZE (cz_X10_isIn) gz_X10_45 (n := 3) ⟨by decide, by decide, by decide +kernel⟩ rfl rfl ⟨Nat.le_of_ble_eq_true rfl, Nat.le_of_ble_eq_true rfl⟩ ⟨Nat.le_of_ble_eq_true rfl, Nat.le_of_ble_eq_true rfl⟩ (Nat.le_of_ble_eq_true rfl) rfl dX10_ofCell_31 ?_
  refine V.topi (y := nI 1) (isIn_t (nI_pos (by omega)) (nI_nlt (show k ≤ 4 by omega) (by decide))) ?_
  refine V.if_ne C (tgt := 41) dX10_ofCell_34 (by decide) (fun c34 => ?_) (fun c34 => ?_)
  rotate_left
  · exfalso; exact absurd c34 (by decide +kernel)
  refine V.iconst C (v := nI 0) dX10_ofCell_41 (by decide) ?_
  refine V.iconst C (v := nI 2) dX10_ofCell_42 (by decide) ?_
  refine V.zVix C ZE (X := []) (cz_X10_refuse_f2) (by first | rfl | exact (List.append_nil _).symm) gz_X10_37 (n := 2) ⟨rfl, by decide, by decide, by decide +kernel⟩ rfl (q0 := 0) rfl rfl rfl ⟨Nat.le_of_ble_eq_true rfl, Nat.le_of_ble_eq_true rfl⟩ ⟨Nat.le_of_ble_eq_true rfl, Nat.le_of_ble_eq_true rfl⟩ (Nat.le_of_ble_eq_true rfl) rfl dX10_ofCell_43 ?_
  refine V.if_eq C (tgt := 53) dX10_ofCell_46 (by decide) (fun c46 => ?_) (fun c46 => ?_)
  rotate_left
  · exfalso; exact absurd c46 (by decide +kernel)
  refine V.aload_n C dX10_ofCell_53 rfl ?_
  refine V.iload_n C dX10_ofCell_54 rfl ?_
  refine V.iload_n C dX10_ofCell_55 rfl ?_
  refine V.iload_n C dX10_ofCell_56 rfl ?_
  refine V.zVix C ZE (X := []) (cz_X10_ofCellNow_20) (by first | rfl | exact (List.append_nil _).symm) gz_X10_162 (n := 3) ⟨rfl, by decide, by decide, by decide +kernel⟩ rfl (q0 := 0) rfl rfl rfl ⟨Nat.le_of_ble_eq_true rfl, Nat.le_of_ble_eq_true rfl⟩ ⟨Nat.le_of_ble_eq_true rfl, Nat.le_of_ble_eq_true rfl⟩ (Nat.le_of_ble_eq_true rfl) rfl dX10_ofCell_57 ?_
  refine V.pick (k := 0) rfl ?_
  refine V.widen (k := 5) (n := 13) (Nat.le_of_ble_eq_true rfl) (Nat.le_of_ble_eq_true rfl) ?_
  exact hQ _ _ _ _ _ (Or.inr (Or.inl ⟨_, _, dX10_ofCell_60, rfl, by first | rfl | exact nar_bI _, rfl, rfl⟩)) ⟨_, rfl, rfl⟩
set_option maxRecDepth 100000 in
set_option maxHeartbeats 4000000 in
theorem cz_X10_ofCell_x20 {l : Launch} {D : va_G} {cI cL cII cO : ClassId} {e0 : Nat} {g : Nat → Nat} {x : Int32} (hx : x < nI 0 ∨ nI 4 < x) : CtZ l D (TY cI cL cII cO) e0 yX10_ofCell (Cond.code yX10_ofCell cX10_ofCell 4 (some .int) :: TBL) ({ frames := 2, cells := 0, slots := 0, locals := 44 } : Room) (MF cI cII e0 g ((nI 0))) [.ref (g 0), .int (nI 2), .int (nI 0), .int (x)] (fun r z => ∃ fs, r = some (.int (nI 0)) ∧ z = [(g 0, .inr (12, .int (nI 2) :: fs))]) := by
  refine CtZ.of [some (.ref (g 0)), some (.int (nI 2)), some (.int (nI 0)), some (.int (x))] (by decide) rfl rfl (Nat.le_of_ble_eq_true rfl) rfl (fun κ C ZE hQ => ?_)
  refine V.aload_n C dX10_ofCell_0 rfl ?_
  refine V.iload_n C dX10_ofCell_1 rfl ?_
  refine V.zSin C ZE (cz_X10_isNoA_f (by decide +kernel) (by decide +kernel)) gz_X10_92 (n := 1) ⟨by decide, by decide, by decide +kernel⟩ rfl rfl ⟨Nat.le_of_ble_eq_true rfl, Nat.le_of_ble_eq_true rfl⟩ ⟨Nat.le_of_ble_eq_true rfl, Nat.le_of_ble_eq_true rfl⟩ (Nat.le_of_ble_eq_true rfl) rfl dX10_ofCell_2 ?_
  refine V.if_ne C (tgt := 15) dX10_ofCell_5 (by decide) (fun c5 => ?_) (fun c5 => ?_)
  · exfalso; exact absurd c5 (by decide +kernel)
  refine V.iload_n C dX10_ofCell_8 rfl ?_
  refine V.zSin C ZE (cz_X10_isNoB_f (by decide +kernel) (by decide +kernel)) gz_X10_95 (n := 1) ⟨by decide, by decide, by decide +kernel⟩ rfl rfl ⟨Nat.le_of_ble_eq_true rfl, Nat.le_of_ble_eq_true rfl⟩ ⟨Nat.le_of_ble_eq_true rfl, Nat.le_of_ble_eq_true rfl⟩ (Nat.le_of_ble_eq_true rfl) rfl dX10_ofCell_9 ?_
  refine V.if_eq C (tgt := 19) dX10_ofCell_12 (by decide) (fun c12 => ?_) (fun c12 => ?_)
  rotate_left
  · exfalso; exact absurd c12 (by decide +kernel)
  refine V.iconst C (v := nI 0) dX10_ofCell_19 (by decide) ?_
  refine V.iconst C (v := nI 1) dX10_ofCell_20 (by decide) ?_
  refine V.zVix C ZE (X := []) (cz_X10_start_f1) (by first | rfl | exact (List.append_nil _).symm) gz_X10_63 (n := 2) ⟨rfl, by decide, by decide, by decide +kernel⟩ rfl (q0 := 0) rfl rfl rfl ⟨Nat.le_of_ble_eq_true rfl, Nat.le_of_ble_eq_true rfl⟩ ⟨Nat.le_of_ble_eq_true rfl, Nat.le_of_ble_eq_true rfl⟩ (Nat.le_of_ble_eq_true rfl) rfl dX10_ofCell_21 ?_
  refine V.if_ne C (tgt := 49) dX10_ofCell_24 (by decide) (fun c24 => ?_) (fun c24 => ?_)
  · exfalso; exact absurd c24 (by decide +kernel)
  refine V.aload_n C dX10_ofCell_27 rfl ?_
  refine V.iload_n C dX10_ofCell_28 rfl ?_
  refine V.iconst C (v := nI 0) dX10_ofCell_29 (by decide) ?_
  refine V.iconst C (v := nI 4) dX10_ofCell_30 (by decide) ?_
  refine V.zSin C ZE (cz_X10_isIn) gz_X10_45 (n := 3) ⟨by decide, by decide, by decide +kernel⟩ rfl rfl ⟨Nat.le_of_ble_eq_true rfl, Nat.le_of_ble_eq_true rfl⟩ ⟨Nat.le_of_ble_eq_true rfl, Nat.le_of_ble_eq_true rfl⟩ (Nat.le_of_ble_eq_true rfl) rfl dX10_ofCell_31 ?_
  refine V.topi (y := nI 0) (isIn_f hx) ?_
  refine V.if_ne C (tgt := 41) dX10_ofCell_34 (by decide) (fun c34 => ?_) (fun c34 => ?_)
  · exfalso; exact absurd c34 (by decide +kernel)
  refine V.iconst C (v := nI 1) dX10_ofCell_37 (by decide) ?_
  refine V.goto C (tgt := 42) dX10_ofCell_38 (by decide) ?_
  refine V.iconst C (v := nI 2) dX10_ofCell_42 (by decide) ?_
  refine V.zVix C ZE (X := []) (cz_X10_refuse_t2) (by first | rfl | exact (List.append_nil _).symm) gz_X10_37 (n := 2) ⟨rfl, by decide, by decide, by decide +kernel⟩ rfl (q0 := 0) rfl rfl rfl ⟨Nat.le_of_ble_eq_true rfl, Nat.le_of_ble_eq_true rfl⟩ ⟨Nat.le_of_ble_eq_true rfl, Nat.le_of_ble_eq_true rfl⟩ (Nat.le_of_ble_eq_true rfl) rfl dX10_ofCell_43 ?_
  refine V.if_eq C (tgt := 53) dX10_ofCell_46 (by decide) (fun c46 => ?_) (fun c46 => ?_)
  · exfalso; exact absurd c46 (by decide +kernel)
  refine V.iconst C (v := nI 0) dX10_ofCell_49 (by decide) ?_
  refine V.goto C (tgt := 60) dX10_ofCell_50 (by decide) ?_
  refine V.pick (k := 0) rfl ?_
  refine V.widen (k := 0) (n := 0) (Nat.le_of_ble_eq_true rfl) (Nat.le_of_ble_eq_true rfl) ?_
  exact hQ _ _ _ _ _ (Or.inr (Or.inl ⟨_, _, dX10_ofCell_60, rfl, by first | rfl | exact nar_bI _, rfl, rfl⟩)) ⟨_, rfl, rfl⟩
set_option maxRecDepth 100000 in
set_option maxHeartbeats 4000000 in
theorem cz_X10_target_20 {l : Launch} {D : va_G} {cI cL cII cO : ClassId} {e0 : Nat} {g : Nat → Nat} {t : Nat} (ht : t ≤ 9) : CtZ l D (TY cI cL cII cO) e0 yX10_target (Cond.code yX10_target cX10_target 5 (some .int) :: TBL) ({ frames := 2, cells := 0, slots := 0, locals := 44 } : Room) (MF cI cII e0 g ((nI 0))) [.ref (g 0), .int (nI 2), .int (nI 0), .int (nI t)] (fun r z => ∃ fs, r = some (.int (nI 0)) ∧ z = [(g 0, .inr (12, .int (nI 0) :: fs))]) := by
  refine CtZ.of [some (.ref (g 0)), some (.int (nI 2)), some (.int (nI 0)), some (.int (nI t)), none] (by decide) rfl rfl (Nat.le_of_ble_eq_true rfl) rfl (fun κ C ZE hQ => ?_)
  refine V.aload_n C dX10_target_0 rfl ?_
  refine V.iload_n C dX10_target_1 rfl ?_
  refine V.zSin C ZE (cz_X10_isNoA_f (by decide +kernel) (by decide +kernel)) gz_X10_92 (n := 1) ⟨by decide, by decide, by decide +kernel⟩ rfl rfl ⟨Nat.le_of_ble_eq_true rfl, Nat.le_of_ble_eq_true rfl⟩ ⟨Nat.le_of_ble_eq_true rfl, Nat.le_of_ble_eq_true rfl⟩ (Nat.le_of_ble_eq_true rfl) rfl dX10_target_2 ?_
  refine V.if_ne C (tgt := 15) dX10_target_5 (by decide) (fun c5 => ?_) (fun c5 => ?_)
  · exfalso; exact absurd c5 (by decide +kernel)
  refine V.iload_n C dX10_target_8 rfl ?_
  refine V.zSin C ZE (cz_X10_isNoB_f (by decide +kernel) (by decide +kernel)) gz_X10_95 (n := 1) ⟨by decide, by decide, by decide +kernel⟩ rfl rfl ⟨Nat.le_of_ble_eq_true rfl, Nat.le_of_ble_eq_true rfl⟩ ⟨Nat.le_of_ble_eq_true rfl, Nat.le_of_ble_eq_true rfl⟩ (Nat.le_of_ble_eq_true rfl) rfl dX10_target_9 ?_
  refine V.if_eq C (tgt := 19) dX10_target_12 (by decide) (fun c12 => ?_) (fun c12 => ?_)
  rotate_left
  · exfalso; exact absurd c12 (by decide +kernel)
  refine V.iconst C (v := nI 0) dX10_target_19 (by decide) ?_
  refine V.iconst C (v := nI 1) dX10_target_20 (by decide) ?_
  refine V.zVix C ZE (X := []) (cz_X10_start_f1) (by first | rfl | exact (List.append_nil _).symm) gz_X10_63 (n := 2) ⟨rfl, by decide, by decide, by decide +kernel⟩ rfl (q0 := 0) rfl rfl rfl ⟨Nat.le_of_ble_eq_true rfl, Nat.le_of_ble_eq_true rfl⟩ ⟨Nat.le_of_ble_eq_true rfl, Nat.le_of_ble_eq_true rfl⟩ (Nat.le_of_ble_eq_true rfl) rfl dX10_target_21 ?_
  refine V.if_ne C (tgt := 50) dX10_target_24 (by decide) (fun c24 => ?_) (fun c24 => ?_)
  · exfalso; exact absurd c24 (by decide +kernel)
  refine V.aload_n C dX10_target_27 rfl ?_
  refine V.iload_n C dX10_target_28 rfl ?_
  refine V.iconst C (v := nI 0) dX10_target_29 (by decide) ?_
  refine V.bipush C (v := nI 9) dX10_target_30 (by decide) ?_
  refine V.zSin C ZE (cz_X10_isIn) gz_X10_45 (n := 3) ⟨by decide, by decide, by decide +kernel⟩ rfl rfl ⟨Nat.le_of_ble_eq_true rfl, Nat.le_of_ble_eq_true rfl⟩ ⟨Nat.le_of_ble_eq_true rfl, Nat.le_of_ble_eq_true rfl⟩ (Nat.le_of_ble_eq_true rfl) rfl dX10_target_32 ?_
  refine V.topi (y := nI 1) (isIn_t (nI_pos (by omega)) (nI_nlt ht (by decide))) ?_
  refine V.if_ne C (tgt := 42) dX10_target_35 (by decide) (fun c35 => ?_) (fun c35 => ?_)
  rotate_left
  · exfalso; exact absurd c35 (by decide +kernel)
  refine V.iconst C (v := nI 0) dX10_target_42 (by decide) ?_
  refine V.iconst C (v := nI 2) dX10_target_43 (by decide) ?_
  refine V.zVix C ZE (X := []) (cz_X10_refuse_f2) (by first | rfl | exact (List.append_nil _).symm) gz_X10_37 (n := 2) ⟨rfl, by decide, by decide, by decide +kernel⟩ rfl (q0 := 0) rfl rfl rfl ⟨Nat.le_of_ble_eq_true rfl, Nat.le_of_ble_eq_true rfl⟩ ⟨Nat.le_of_ble_eq_true rfl, Nat.le_of_ble_eq_true rfl⟩ (Nat.le_of_ble_eq_true rfl) rfl dX10_target_44 ?_
  refine V.if_eq C (tgt := 52) dX10_target_47 (by decide) (fun c47 => ?_) (fun c47 => ?_)
  rotate_left
  · exfalso; exact absurd c47 (by decide +kernel)
  refine V.aload_n C dX10_target_52 rfl ?_
  refine V.get C (q0 := 0) (k := 4) rfl rfl (by decide) (iz_X10 _) (List.mem_cons_of_mem _ tw_92) rfl rfl dX10_target_53 ?_
  refine V.iload_n C dX10_target_56 rfl ?_
  refine V.aaldA C (q0 := 5) (t0 := 2) (j := 2) (r := g 5 + 3) rfl rfl rfl (by decide) (by decide) rfl dX10_target_57 ?_
  refine V.iload_n C dX10_target_58 rfl ?_
  refine V.iald C (q0 := 8) (t0 := 0) rfl rfl rfl (by decide) (by decide) dX10_target_59 ?_
  refine V.topi (y := nI 0) (by first | rfl | simp [upd, nI_0]) ?_
  refine V.istore C dX10_target_60 (by decide) rfl ?_
  dsimp only [List.set]
  refine V.aload_n C dX10_target_62 rfl ?_
  refine V.get C (q0 := 0) (k := 4) rfl rfl (by decide) (iz_X10 _) (List.mem_cons_of_mem _ tw_92) rfl rfl dX10_target_63 ?_
  refine V.iload_n C dX10_target_66 rfl ?_
  refine V.aaldA C (q0 := 5) (t0 := 2) (j := 2) (r := g 5 + 3) rfl rfl rfl (by decide) (by decide) rfl dX10_target_67 ?_
  refine V.iload_n C dX10_target_68 rfl ?_
  refine V.iload_n C dX10_target_69 rfl ?_
  refine V.iast C (q0 := 8) (t0 := 0) (w' := _) rfl rfl (j := 0) rfl (by decide) (by decide) rfl dX10_target_70 ?_
  refine V.iload C dX10_target_71 rfl ?_
  refine V.pick (k := 0) rfl ?_
  refine V.widen (k := 0) (n := 0) (Nat.le_of_ble_eq_true rfl) (Nat.le_of_ble_eq_true rfl) ?_
  exact hQ _ _ _ _ _ (Or.inr (Or.inl ⟨_, _, dX10_target_73, rfl, by first | rfl | exact nar_bI _, rfl, rfl⟩)) ⟨_, rfl, rfl⟩
set_option maxRecDepth 100000 in
set_option maxHeartbeats 4000000 in
theorem cz_X10_target_x20 {l : Launch} {D : va_G} {cI cL cII cO : ClassId} {e0 : Nat} {g : Nat → Nat} {x : Int32} (hx : x < nI 0 ∨ nI 9 < x) : CtZ l D (TY cI cL cII cO) e0 yX10_target (Cond.code yX10_target cX10_target 5 (some .int) :: TBL) ({ frames := 2, cells := 0, slots := 0, locals := 44 } : Room) (MF cI cII e0 g ((nI 0))) [.ref (g 0), .int (nI 2), .int (nI 0), .int (x)] (fun r z => ∃ fs, r = some (.int (nI 0)) ∧ z = [(g 0, .inr (12, .int (nI 2) :: fs))]) := by
  refine CtZ.of [some (.ref (g 0)), some (.int (nI 2)), some (.int (nI 0)), some (.int (x)), none] (by decide) rfl rfl (Nat.le_of_ble_eq_true rfl) rfl (fun κ C ZE hQ => ?_)
  refine V.aload_n C dX10_target_0 rfl ?_
  refine V.iload_n C dX10_target_1 rfl ?_
  refine V.zSin C ZE (cz_X10_isNoA_f (by decide +kernel) (by decide +kernel)) gz_X10_92 (n := 1) ⟨by decide, by decide, by decide +kernel⟩ rfl rfl ⟨Nat.le_of_ble_eq_true rfl, Nat.le_of_ble_eq_true rfl⟩ ⟨Nat.le_of_ble_eq_true rfl, Nat.le_of_ble_eq_true rfl⟩ (Nat.le_of_ble_eq_true rfl) rfl dX10_target_2 ?_
  refine V.if_ne C (tgt := 15) dX10_target_5 (by decide) (fun c5 => ?_) (fun c5 => ?_)
  · exfalso; exact absurd c5 (by decide +kernel)
  refine V.iload_n C dX10_target_8 rfl ?_
  refine V.zSin C ZE (cz_X10_isNoB_f (by decide +kernel) (by decide +kernel)) gz_X10_95 (n := 1) ⟨by decide, by decide, by decide +kernel⟩ rfl rfl ⟨Nat.le_of_ble_eq_true rfl, Nat.le_of_ble_eq_true rfl⟩ ⟨Nat.le_of_ble_eq_true rfl, Nat.le_of_ble_eq_true rfl⟩ (Nat.le_of_ble_eq_true rfl) rfl dX10_target_9 ?_
  refine V.if_eq C (tgt := 19) dX10_target_12 (by decide) (fun c12 => ?_) (fun c12 => ?_)
  rotate_left
  · exfalso; exact absurd c12 (by decide +kernel)
  refine V.iconst C (v := nI 0) dX10_target_19 (by decide) ?_
  refine V.iconst C (v := nI 1) dX10_target_20 (by decide) ?_
  refine V.zVix C ZE (X := []) (cz_X10_start_f1) (by first | rfl | exact (List.append_nil _).symm) gz_X10_63 (n := 2) ⟨rfl, by decide, by decide, by decide +kernel⟩ rfl (q0 := 0) rfl rfl rfl ⟨Nat.le_of_ble_eq_true rfl, Nat.le_of_ble_eq_true rfl⟩ ⟨Nat.le_of_ble_eq_true rfl, Nat.le_of_ble_eq_true rfl⟩ (Nat.le_of_ble_eq_true rfl) rfl dX10_target_21 ?_
  refine V.if_ne C (tgt := 50) dX10_target_24 (by decide) (fun c24 => ?_) (fun c24 => ?_)
  · exfalso; exact absurd c24 (by decide +kernel)
  refine V.aload_n C dX10_target_27 rfl ?_
  refine V.iload_n C dX10_target_28 rfl ?_
  refine V.iconst C (v := nI 0) dX10_target_29 (by decide) ?_
  refine V.bipush C (v := nI 9) dX10_target_30 (by decide) ?_
  refine V.zSin C ZE (cz_X10_isIn) gz_X10_45 (n := 3) ⟨by decide, by decide, by decide +kernel⟩ rfl rfl ⟨Nat.le_of_ble_eq_true rfl, Nat.le_of_ble_eq_true rfl⟩ ⟨Nat.le_of_ble_eq_true rfl, Nat.le_of_ble_eq_true rfl⟩ (Nat.le_of_ble_eq_true rfl) rfl dX10_target_32 ?_
  refine V.topi (y := nI 0) (isIn_f hx) ?_
  refine V.if_ne C (tgt := 42) dX10_target_35 (by decide) (fun c35 => ?_) (fun c35 => ?_)
  · exfalso; exact absurd c35 (by decide +kernel)
  refine V.iconst C (v := nI 1) dX10_target_38 (by decide) ?_
  refine V.goto C (tgt := 43) dX10_target_39 (by decide) ?_
  refine V.iconst C (v := nI 2) dX10_target_43 (by decide) ?_
  refine V.zVix C ZE (X := []) (cz_X10_refuse_t2) (by first | rfl | exact (List.append_nil _).symm) gz_X10_37 (n := 2) ⟨rfl, by decide, by decide, by decide +kernel⟩ rfl (q0 := 0) rfl rfl rfl ⟨Nat.le_of_ble_eq_true rfl, Nat.le_of_ble_eq_true rfl⟩ ⟨Nat.le_of_ble_eq_true rfl, Nat.le_of_ble_eq_true rfl⟩ (Nat.le_of_ble_eq_true rfl) rfl dX10_target_44 ?_
  refine V.if_eq C (tgt := 52) dX10_target_47 (by decide) (fun c47 => ?_) (fun c47 => ?_)
  · exfalso; exact absurd c47 (by decide +kernel)
  refine V.iconst C (v := nI 0) dX10_target_50 (by decide) ?_
  refine V.pick (k := 0) rfl ?_
  refine V.widen (k := 0) (n := 0) (Nat.le_of_ble_eq_true rfl) (Nat.le_of_ble_eq_true rfl) ?_
  exact hQ _ _ _ _ _ (Or.inr (Or.inl ⟨_, _, dX10_target_51, rfl, by first | rfl | exact nar_bI _, rfl, rfl⟩)) ⟨_, rfl, rfl⟩
set_option maxRecDepth 100000 in
set_option maxHeartbeats 4000000 in
theorem cz_X10_ofCell_21 {l : Launch} {D : va_G} {cI cL cII cO : ClassId} {e0 : Nat} {g : Nat → Nat} {k : Nat} (hk : k < 5) : CtZ l D (TY cI cL cII cO) e0 yX10_ofCell (Cond.code yX10_ofCell cX10_ofCell 4 (some .int) :: TBL) ({ frames := 5, cells := 5, slots := 13, locals := 119 } : Room) (MF cI cII e0 g ((nI 0))) [.ref (g 0), .int (nI 2), .int (nI 1), .int (nI k)] (fun r z => ∃ fs, r = some (.int (nI 0)) ∧ z = [(g 0, .inr (12, .int (nI 0) :: fs))]) := by
  refine CtZ.of [some (.ref (g 0)), some (.int (nI 2)), some (.int (nI 1)), some (.int (nI k))] (by decide) rfl rfl (Nat.le_of_ble_eq_true rfl) rfl (fun κ C ZE hQ => ?_)
  refine V.aload_n C dX10_ofCell_0 rfl ?_
  refine V.iload_n C dX10_ofCell_1 rfl ?_
  refine V.zSin C ZE (cz_X10_isNoA_f (by decide +kernel) (by decide +kernel)) gz_X10_92 (n := 1) ⟨by decide, by decide, by decide +kernel⟩ rfl rfl ⟨Nat.le_of_ble_eq_true rfl, Nat.le_of_ble_eq_true rfl⟩ ⟨Nat.le_of_ble_eq_true rfl, Nat.le_of_ble_eq_true rfl⟩ (Nat.le_of_ble_eq_true rfl) rfl dX10_ofCell_2 ?_
  refine V.if_ne C (tgt := 15) dX10_ofCell_5 (by decide) (fun c5 => ?_) (fun c5 => ?_)
  · exfalso; exact absurd c5 (by decide +kernel)
  refine V.iload_n C dX10_ofCell_8 rfl ?_
  refine V.zSin C ZE (cz_X10_isNoB_f (by decide +kernel) (by decide +kernel)) gz_X10_95 (n := 1) ⟨by decide, by decide, by decide +kernel⟩ rfl rfl ⟨Nat.le_of_ble_eq_true rfl, Nat.le_of_ble_eq_true rfl⟩ ⟨Nat.le_of_ble_eq_true rfl, Nat.le_of_ble_eq_true rfl⟩ (Nat.le_of_ble_eq_true rfl) rfl dX10_ofCell_9 ?_
  refine V.if_eq C (tgt := 19) dX10_ofCell_12 (by decide) (fun c12 => ?_) (fun c12 => ?_)
  rotate_left
  · exfalso; exact absurd c12 (by decide +kernel)
  refine V.iconst C (v := nI 0) dX10_ofCell_19 (by decide) ?_
  refine V.iconst C (v := nI 1) dX10_ofCell_20 (by decide) ?_
  refine V.zVix C ZE (X := []) (cz_X10_start_f1) (by first | rfl | exact (List.append_nil _).symm) gz_X10_63 (n := 2) ⟨rfl, by decide, by decide, by decide +kernel⟩ rfl (q0 := 0) rfl rfl rfl ⟨Nat.le_of_ble_eq_true rfl, Nat.le_of_ble_eq_true rfl⟩ ⟨Nat.le_of_ble_eq_true rfl, Nat.le_of_ble_eq_true rfl⟩ (Nat.le_of_ble_eq_true rfl) rfl dX10_ofCell_21 ?_
  refine V.if_ne C (tgt := 49) dX10_ofCell_24 (by decide) (fun c24 => ?_) (fun c24 => ?_)
  · exfalso; exact absurd c24 (by decide +kernel)
  refine V.aload_n C dX10_ofCell_27 rfl ?_
  refine V.iload_n C dX10_ofCell_28 rfl ?_
  refine V.iconst C (v := nI 0) dX10_ofCell_29 (by decide) ?_
  refine V.iconst C (v := nI 4) dX10_ofCell_30 (by decide) ?_
  refine V.zSin C ZE (cz_X10_isIn) gz_X10_45 (n := 3) ⟨by decide, by decide, by decide +kernel⟩ rfl rfl ⟨Nat.le_of_ble_eq_true rfl, Nat.le_of_ble_eq_true rfl⟩ ⟨Nat.le_of_ble_eq_true rfl, Nat.le_of_ble_eq_true rfl⟩ (Nat.le_of_ble_eq_true rfl) rfl dX10_ofCell_31 ?_
  refine V.topi (y := nI 1) (isIn_t (nI_pos (by omega)) (nI_nlt (show k ≤ 4 by omega) (by decide))) ?_
  refine V.if_ne C (tgt := 41) dX10_ofCell_34 (by decide) (fun c34 => ?_) (fun c34 => ?_)
  rotate_left
  · exfalso; exact absurd c34 (by decide +kernel)
  refine V.iconst C (v := nI 0) dX10_ofCell_41 (by decide) ?_
  refine V.iconst C (v := nI 2) dX10_ofCell_42 (by decide) ?_
  refine V.zVix C ZE (X := []) (cz_X10_refuse_f2) (by first | rfl | exact (List.append_nil _).symm) gz_X10_37 (n := 2) ⟨rfl, by decide, by decide, by decide +kernel⟩ rfl (q0 := 0) rfl rfl rfl ⟨Nat.le_of_ble_eq_true rfl, Nat.le_of_ble_eq_true rfl⟩ ⟨Nat.le_of_ble_eq_true rfl, Nat.le_of_ble_eq_true rfl⟩ (Nat.le_of_ble_eq_true rfl) rfl dX10_ofCell_43 ?_
  refine V.if_eq C (tgt := 53) dX10_ofCell_46 (by decide) (fun c46 => ?_) (fun c46 => ?_)
  rotate_left
  · exfalso; exact absurd c46 (by decide +kernel)
  refine V.aload_n C dX10_ofCell_53 rfl ?_
  refine V.iload_n C dX10_ofCell_54 rfl ?_
  refine V.iload_n C dX10_ofCell_55 rfl ?_
  refine V.iload_n C dX10_ofCell_56 rfl ?_
  refine V.zVix C ZE (X := []) (cz_X10_ofCellNow_21) (by first | rfl | exact (List.append_nil _).symm) gz_X10_162 (n := 3) ⟨rfl, by decide, by decide, by decide +kernel⟩ rfl (q0 := 0) rfl rfl rfl ⟨Nat.le_of_ble_eq_true rfl, Nat.le_of_ble_eq_true rfl⟩ ⟨Nat.le_of_ble_eq_true rfl, Nat.le_of_ble_eq_true rfl⟩ (Nat.le_of_ble_eq_true rfl) rfl dX10_ofCell_57 ?_
  refine V.pick (k := 0) rfl ?_
  refine V.widen (k := 5) (n := 13) (Nat.le_of_ble_eq_true rfl) (Nat.le_of_ble_eq_true rfl) ?_
  exact hQ _ _ _ _ _ (Or.inr (Or.inl ⟨_, _, dX10_ofCell_60, rfl, by first | rfl | exact nar_bI _, rfl, rfl⟩)) ⟨_, rfl, rfl⟩
set_option maxRecDepth 100000 in
set_option maxHeartbeats 4000000 in
theorem cz_X10_ofCell_x21 {l : Launch} {D : va_G} {cI cL cII cO : ClassId} {e0 : Nat} {g : Nat → Nat} {x : Int32} (hx : x < nI 0 ∨ nI 4 < x) : CtZ l D (TY cI cL cII cO) e0 yX10_ofCell (Cond.code yX10_ofCell cX10_ofCell 4 (some .int) :: TBL) ({ frames := 2, cells := 0, slots := 0, locals := 44 } : Room) (MF cI cII e0 g ((nI 0))) [.ref (g 0), .int (nI 2), .int (nI 1), .int (x)] (fun r z => ∃ fs, r = some (.int (nI 0)) ∧ z = [(g 0, .inr (12, .int (nI 2) :: fs))]) := by
  refine CtZ.of [some (.ref (g 0)), some (.int (nI 2)), some (.int (nI 1)), some (.int (x))] (by decide) rfl rfl (Nat.le_of_ble_eq_true rfl) rfl (fun κ C ZE hQ => ?_)
  refine V.aload_n C dX10_ofCell_0 rfl ?_
  refine V.iload_n C dX10_ofCell_1 rfl ?_
  refine V.zSin C ZE (cz_X10_isNoA_f (by decide +kernel) (by decide +kernel)) gz_X10_92 (n := 1) ⟨by decide, by decide, by decide +kernel⟩ rfl rfl ⟨Nat.le_of_ble_eq_true rfl, Nat.le_of_ble_eq_true rfl⟩ ⟨Nat.le_of_ble_eq_true rfl, Nat.le_of_ble_eq_true rfl⟩ (Nat.le_of_ble_eq_true rfl) rfl dX10_ofCell_2 ?_
  refine V.if_ne C (tgt := 15) dX10_ofCell_5 (by decide) (fun c5 => ?_) (fun c5 => ?_)
  · exfalso; exact absurd c5 (by decide +kernel)
  refine V.iload_n C dX10_ofCell_8 rfl ?_
  refine V.zSin C ZE (cz_X10_isNoB_f (by decide +kernel) (by decide +kernel)) gz_X10_95 (n := 1) ⟨by decide, by decide, by decide +kernel⟩ rfl rfl ⟨Nat.le_of_ble_eq_true rfl, Nat.le_of_ble_eq_true rfl⟩ ⟨Nat.le_of_ble_eq_true rfl, Nat.le_of_ble_eq_true rfl⟩ (Nat.le_of_ble_eq_true rfl) rfl dX10_ofCell_9 ?_
  refine V.if_eq C (tgt := 19) dX10_ofCell_12 (by decide) (fun c12 => ?_) (fun c12 => ?_)
  rotate_left
  · exfalso; exact absurd c12 (by decide +kernel)
  refine V.iconst C (v := nI 0) dX10_ofCell_19 (by decide) ?_
  refine V.iconst C (v := nI 1) dX10_ofCell_20 (by decide) ?_
  refine V.zVix C ZE (X := []) (cz_X10_start_f1) (by first | rfl | exact (List.append_nil _).symm) gz_X10_63 (n := 2) ⟨rfl, by decide, by decide, by decide +kernel⟩ rfl (q0 := 0) rfl rfl rfl ⟨Nat.le_of_ble_eq_true rfl, Nat.le_of_ble_eq_true rfl⟩ ⟨Nat.le_of_ble_eq_true rfl, Nat.le_of_ble_eq_true rfl⟩ (Nat.le_of_ble_eq_true rfl) rfl dX10_ofCell_21 ?_
  refine V.if_ne C (tgt := 49) dX10_ofCell_24 (by decide) (fun c24 => ?_) (fun c24 => ?_)
  · exfalso; exact absurd c24 (by decide +kernel)
  refine V.aload_n C dX10_ofCell_27 rfl ?_
  refine V.iload_n C dX10_ofCell_28 rfl ?_
  refine V.iconst C (v := nI 0) dX10_ofCell_29 (by decide) ?_
  refine V.iconst C (v := nI 4) dX10_ofCell_30 (by decide) ?_
  refine V.zSin C ZE (cz_X10_isIn) gz_X10_45 (n := 3) ⟨by decide, by decide, by decide +kernel⟩ rfl rfl ⟨Nat.le_of_ble_eq_true rfl, Nat.le_of_ble_eq_true rfl⟩ ⟨Nat.le_of_ble_eq_true rfl, Nat.le_of_ble_eq_true rfl⟩ (Nat.le_of_ble_eq_true rfl) rfl dX10_ofCell_31 ?_
  refine V.topi (y := nI 0) (isIn_f hx) ?_
  refine V.if_ne C (tgt := 41) dX10_ofCell_34 (by decide) (fun c34 => ?_) (fun c34 => ?_)
  · exfalso; exact absurd c34 (by decide +kernel)
  refine V.iconst C (v := nI 1) dX10_ofCell_37 (by decide) ?_
  refine V.goto C (tgt := 42) dX10_ofCell_38 (by decide) ?_
  refine V.iconst C (v := nI 2) dX10_ofCell_42 (by decide) ?_
  refine V.zVix C ZE (X := []) (cz_X10_refuse_t2) (by first | rfl | exact (List.append_nil _).symm) gz_X10_37 (n := 2) ⟨rfl, by decide, by decide, by decide +kernel⟩ rfl (q0 := 0) rfl rfl rfl ⟨Nat.le_of_ble_eq_true rfl, Nat.le_of_ble_eq_true rfl⟩ ⟨Nat.le_of_ble_eq_true rfl, Nat.le_of_ble_eq_true rfl⟩ (Nat.le_of_ble_eq_true rfl) rfl dX10_ofCell_43 ?_
  refine V.if_eq C (tgt := 53) dX10_ofCell_46 (by decide) (fun c46 => ?_) (fun c46 => ?_)
  · exfalso; exact absurd c46 (by decide +kernel)
  refine V.iconst C (v := nI 0) dX10_ofCell_49 (by decide) ?_
  refine V.goto C (tgt := 60) dX10_ofCell_50 (by decide) ?_
  refine V.pick (k := 0) rfl ?_
  refine V.widen (k := 0) (n := 0) (Nat.le_of_ble_eq_true rfl) (Nat.le_of_ble_eq_true rfl) ?_
  exact hQ _ _ _ _ _ (Or.inr (Or.inl ⟨_, _, dX10_ofCell_60, rfl, by first | rfl | exact nar_bI _, rfl, rfl⟩)) ⟨_, rfl, rfl⟩
set_option maxRecDepth 100000 in
set_option maxHeartbeats 4000000 in
theorem cz_X10_target_21 {l : Launch} {D : va_G} {cI cL cII cO : ClassId} {e0 : Nat} {g : Nat → Nat} {t : Nat} (ht : t ≤ 9) : CtZ l D (TY cI cL cII cO) e0 yX10_target (Cond.code yX10_target cX10_target 5 (some .int) :: TBL) ({ frames := 2, cells := 0, slots := 0, locals := 44 } : Room) (MF cI cII e0 g ((nI 0))) [.ref (g 0), .int (nI 2), .int (nI 1), .int (nI t)] (fun r z => ∃ fs, r = some (.int (nI 0)) ∧ z = [(g 0, .inr (12, .int (nI 0) :: fs))]) := by
  refine CtZ.of [some (.ref (g 0)), some (.int (nI 2)), some (.int (nI 1)), some (.int (nI t)), none] (by decide) rfl rfl (Nat.le_of_ble_eq_true rfl) rfl (fun κ C ZE hQ => ?_)
  refine V.aload_n C dX10_target_0 rfl ?_
  refine V.iload_n C dX10_target_1 rfl ?_
  refine V.zSin C ZE (cz_X10_isNoA_f (by decide +kernel) (by decide +kernel)) gz_X10_92 (n := 1) ⟨by decide, by decide, by decide +kernel⟩ rfl rfl ⟨Nat.le_of_ble_eq_true rfl, Nat.le_of_ble_eq_true rfl⟩ ⟨Nat.le_of_ble_eq_true rfl, Nat.le_of_ble_eq_true rfl⟩ (Nat.le_of_ble_eq_true rfl) rfl dX10_target_2 ?_
  refine V.if_ne C (tgt := 15) dX10_target_5 (by decide) (fun c5 => ?_) (fun c5 => ?_)
  · exfalso; exact absurd c5 (by decide +kernel)
  refine V.iload_n C dX10_target_8 rfl ?_
  refine V.zSin C ZE (cz_X10_isNoB_f (by decide +kernel) (by decide +kernel)) gz_X10_95 (n := 1) ⟨by decide, by decide, by decide +kernel⟩ rfl rfl ⟨Nat.le_of_ble_eq_true rfl, Nat.le_of_ble_eq_true rfl⟩ ⟨Nat.le_of_ble_eq_true rfl, Nat.le_of_ble_eq_true rfl⟩ (Nat.le_of_ble_eq_true rfl) rfl dX10_target_9 ?_
  refine V.if_eq C (tgt := 19) dX10_target_12 (by decide) (fun c12 => ?_) (fun c12 => ?_)
  rotate_left
  · exfalso; exact absurd c12 (by decide +kernel)
  refine V.iconst C (v := nI 0) dX10_target_19 (by decide) ?_
  refine V.iconst C (v := nI 1) dX10_target_20 (by decide) ?_
  refine V.zVix C ZE (X := []) (cz_X10_start_f1) (by first | rfl | exact (List.append_nil _).symm) gz_X10_63 (n := 2) ⟨rfl, by decide, by decide, by decide +kernel⟩ rfl (q0 := 0) rfl rfl rfl ⟨Nat.le_of_ble_eq_true rfl, Nat.le_of_ble_eq_true rfl⟩ ⟨Nat.le_of_ble_eq_true rfl, Nat.le_of_ble_eq_true rfl⟩ (Nat.le_of_ble_eq_true rfl) rfl dX10_target_21 ?_
  refine V.if_ne C (tgt := 50) dX10_target_24 (by decide) (fun c24 => ?_) (fun c24 => ?_)
  · exfalso; exact absurd c24 (by decide +kernel)
  refine V.aload_n C dX10_target_27 rfl ?_
  refine V.iload_n C dX10_target_28 rfl ?_
  refine V.iconst C (v := nI 0) dX10_target_29 (by decide) ?_
  refine V.bipush C (v := nI 9) dX10_target_30 (by decide) ?_
  refine V.zSin C ZE (cz_X10_isIn) gz_X10_45 (n := 3) ⟨by decide, by decide, by decide +kernel⟩ rfl rfl ⟨Nat.le_of_ble_eq_true rfl, Nat.le_of_ble_eq_true rfl⟩ ⟨Nat.le_of_ble_eq_true rfl, Nat.le_of_ble_eq_true rfl⟩ (Nat.le_of_ble_eq_true rfl) rfl dX10_target_32 ?_
  refine V.topi (y := nI 1) (isIn_t (nI_pos (by omega)) (nI_nlt ht (by decide))) ?_
  refine V.if_ne C (tgt := 42) dX10_target_35 (by decide) (fun c35 => ?_) (fun c35 => ?_)
  rotate_left
  · exfalso; exact absurd c35 (by decide +kernel)
  refine V.iconst C (v := nI 0) dX10_target_42 (by decide) ?_
  refine V.iconst C (v := nI 2) dX10_target_43 (by decide) ?_
  refine V.zVix C ZE (X := []) (cz_X10_refuse_f2) (by first | rfl | exact (List.append_nil _).symm) gz_X10_37 (n := 2) ⟨rfl, by decide, by decide, by decide +kernel⟩ rfl (q0 := 0) rfl rfl rfl ⟨Nat.le_of_ble_eq_true rfl, Nat.le_of_ble_eq_true rfl⟩ ⟨Nat.le_of_ble_eq_true rfl, Nat.le_of_ble_eq_true rfl⟩ (Nat.le_of_ble_eq_true rfl) rfl dX10_target_44 ?_
  refine V.if_eq C (tgt := 52) dX10_target_47 (by decide) (fun c47 => ?_) (fun c47 => ?_)
  rotate_left
  · exfalso; exact absurd c47 (by decide +kernel)
  refine V.aload_n C dX10_target_52 rfl ?_
  refine V.get C (q0 := 0) (k := 4) rfl rfl (by decide) (iz_X10 _) (List.mem_cons_of_mem _ tw_92) rfl rfl dX10_target_53 ?_
  refine V.iload_n C dX10_target_56 rfl ?_
  refine V.aaldA C (q0 := 5) (t0 := 2) (j := 2) (r := g 5 + 3) rfl rfl rfl (by decide) (by decide) rfl dX10_target_57 ?_
  refine V.iload_n C dX10_target_58 rfl ?_
  refine V.iald C (q0 := 8) (t0 := 0) rfl rfl rfl (by decide) (by decide) dX10_target_59 ?_
  refine V.topi (y := nI 0) (by first | rfl | simp [upd, nI_0]) ?_
  refine V.istore C dX10_target_60 (by decide) rfl ?_
  dsimp only [List.set]
  refine V.aload_n C dX10_target_62 rfl ?_
  refine V.get C (q0 := 0) (k := 4) rfl rfl (by decide) (iz_X10 _) (List.mem_cons_of_mem _ tw_92) rfl rfl dX10_target_63 ?_
  refine V.iload_n C dX10_target_66 rfl ?_
  refine V.aaldA C (q0 := 5) (t0 := 2) (j := 2) (r := g 5 + 3) rfl rfl rfl (by decide) (by decide) rfl dX10_target_67 ?_
  refine V.iload_n C dX10_target_68 rfl ?_
  refine V.iload_n C dX10_target_69 rfl ?_
  refine V.iast C (q0 := 8) (t0 := 0) (w' := _) rfl rfl (j := 1) rfl (by decide) (by decide) rfl dX10_target_70 ?_
  refine V.iload C dX10_target_71 rfl ?_
  refine V.pick (k := 0) rfl ?_
  refine V.widen (k := 0) (n := 0) (Nat.le_of_ble_eq_true rfl) (Nat.le_of_ble_eq_true rfl) ?_
  exact hQ _ _ _ _ _ (Or.inr (Or.inl ⟨_, _, dX10_target_73, rfl, by first | rfl | exact nar_bI _, rfl, rfl⟩)) ⟨_, rfl, rfl⟩
set_option maxRecDepth 100000 in
set_option maxHeartbeats 4000000 in
theorem cz_X10_target_x21 {l : Launch} {D : va_G} {cI cL cII cO : ClassId} {e0 : Nat} {g : Nat → Nat} {x : Int32} (hx : x < nI 0 ∨ nI 9 < x) : CtZ l D (TY cI cL cII cO) e0 yX10_target (Cond.code yX10_target cX10_target 5 (some .int) :: TBL) ({ frames := 2, cells := 0, slots := 0, locals := 44 } : Room) (MF cI cII e0 g ((nI 0))) [.ref (g 0), .int (nI 2), .int (nI 1), .int (x)] (fun r z => ∃ fs, r = some (.int (nI 0)) ∧ z = [(g 0, .inr (12, .int (nI 2) :: fs))]) := by
  refine CtZ.of [some (.ref (g 0)), some (.int (nI 2)), some (.int (nI 1)), some (.int (x)), none] (by decide) rfl rfl (Nat.le_of_ble_eq_true rfl) rfl (fun κ C ZE hQ => ?_)
  refine V.aload_n C dX10_target_0 rfl ?_
  refine V.iload_n C dX10_target_1 rfl ?_
  refine V.zSin C ZE (cz_X10_isNoA_f (by decide +kernel) (by decide +kernel)) gz_X10_92 (n := 1) ⟨by decide, by decide, by decide +kernel⟩ rfl rfl ⟨Nat.le_of_ble_eq_true rfl, Nat.le_of_ble_eq_true rfl⟩ ⟨Nat.le_of_ble_eq_true rfl, Nat.le_of_ble_eq_true rfl⟩ (Nat.le_of_ble_eq_true rfl) rfl dX10_target_2 ?_
  refine V.if_ne C (tgt := 15) dX10_target_5 (by decide) (fun c5 => ?_) (fun c5 => ?_)
  · exfalso; exact absurd c5 (by decide +kernel)
  refine V.iload_n C dX10_target_8 rfl ?_
  refine V.zSin C ZE (cz_X10_isNoB_f (by decide +kernel) (by decide +kernel)) gz_X10_95 (n := 1) ⟨by decide, by decide, by decide +kernel⟩ rfl rfl ⟨Nat.le_of_ble_eq_true rfl, Nat.le_of_ble_eq_true rfl⟩ ⟨Nat.le_of_ble_eq_true rfl, Nat.le_of_ble_eq_true rfl⟩ (Nat.le_of_ble_eq_true rfl) rfl dX10_target_9 ?_
  refine V.if_eq C (tgt := 19) dX10_target_12 (by decide) (fun c12 => ?_) (fun c12 => ?_)
  rotate_left
  · exfalso; exact absurd c12 (by decide +kernel)
  refine V.iconst C (v := nI 0) dX10_target_19 (by decide) ?_
  refine V.iconst C (v := nI 1) dX10_target_20 (by decide) ?_
  refine V.zVix C ZE (X := []) (cz_X10_start_f1) (by first | rfl | exact (List.append_nil _).symm) gz_X10_63 (n := 2) ⟨rfl, by decide, by decide, by decide +kernel⟩ rfl (q0 := 0) rfl rfl rfl ⟨Nat.le_of_ble_eq_true rfl, Nat.le_of_ble_eq_true rfl⟩ ⟨Nat.le_of_ble_eq_true rfl, Nat.le_of_ble_eq_true rfl⟩ (Nat.le_of_ble_eq_true rfl) rfl dX10_target_21 ?_
  refine V.if_ne C (tgt := 50) dX10_target_24 (by decide) (fun c24 => ?_) (fun c24 => ?_)
  · exfalso; exact absurd c24 (by decide +kernel)
  refine V.aload_n C dX10_target_27 rfl ?_
  refine V.iload_n C dX10_target_28 rfl ?_
  refine V.iconst C (v := nI 0) dX10_target_29 (by decide) ?_
  refine V.bipush C (v := nI 9) dX10_target_30 (by decide) ?_
  refine V.zSin C ZE (cz_X10_isIn) gz_X10_45 (n := 3) ⟨by decide, by decide, by decide +kernel⟩ rfl rfl ⟨Nat.le_of_ble_eq_true rfl, Nat.le_of_ble_eq_true rfl⟩ ⟨Nat.le_of_ble_eq_true rfl, Nat.le_of_ble_eq_true rfl⟩ (Nat.le_of_ble_eq_true rfl) rfl dX10_target_32 ?_
  refine V.topi (y := nI 0) (isIn_f hx) ?_
  refine V.if_ne C (tgt := 42) dX10_target_35 (by decide) (fun c35 => ?_) (fun c35 => ?_)
  · exfalso; exact absurd c35 (by decide +kernel)
  refine V.iconst C (v := nI 1) dX10_target_38 (by decide) ?_
  refine V.goto C (tgt := 43) dX10_target_39 (by decide) ?_
  refine V.iconst C (v := nI 2) dX10_target_43 (by decide) ?_
  refine V.zVix C ZE (X := []) (cz_X10_refuse_t2) (by first | rfl | exact (List.append_nil _).symm) gz_X10_37 (n := 2) ⟨rfl, by decide, by decide, by decide +kernel⟩ rfl (q0 := 0) rfl rfl rfl ⟨Nat.le_of_ble_eq_true rfl, Nat.le_of_ble_eq_true rfl⟩ ⟨Nat.le_of_ble_eq_true rfl, Nat.le_of_ble_eq_true rfl⟩ (Nat.le_of_ble_eq_true rfl) rfl dX10_target_44 ?_
  refine V.if_eq C (tgt := 52) dX10_target_47 (by decide) (fun c47 => ?_) (fun c47 => ?_)
  · exfalso; exact absurd c47 (by decide +kernel)
  refine V.iconst C (v := nI 0) dX10_target_50 (by decide) ?_
  refine V.pick (k := 0) rfl ?_
  refine V.widen (k := 0) (n := 0) (Nat.le_of_ble_eq_true rfl) (Nat.le_of_ble_eq_true rfl) ?_
  exact hQ _ _ _ _ _ (Or.inr (Or.inl ⟨_, _, dX10_target_51, rfl, by first | rfl | exact nar_bI _, rfl, rfl⟩)) ⟨_, rfl, rfl⟩
set_option maxRecDepth 100000 in
set_option maxHeartbeats 4000000 in
theorem cz_X10_thrown {l : Launch} {D : va_G} {cI cL cII cO : ClassId} {e0 : Nat} {w : va_W} {a : Nat} {x : Int32} {fs : List Value} (h0 : w[0]? = some (a, .inr (12, .int x :: fs))) : CtZ l D (TY cI cL cII cO) e0 yX10_thrown (Cond.code yX10_thrown cX10_thrown 1 (some .int) :: TBL) ({ frames := 0, cells := 0, slots := 0, locals := 0 } : Room) w [.ref a] (fun r z => r = some (.int x) ∧ z = w) := by
  refine CtZ.of [some (.ref a)] (by decide) rfl rfl (Nat.le_of_ble_eq_true rfl) rfl (fun κ C ZE hQ => ?_)
  refine V.aload_n C dX10_thrown_0 rfl ?_
  refine V.get C (q0 := 0) (k := 0) h0 rfl (by decide) (iz_X10 _) (List.mem_cons_of_mem _ tw_60) rfl rfl dX10_thrown_1 ?_
  refine V.widen (k := 0) (n := 0) (Nat.le_of_ble_eq_true rfl) (Nat.le_of_ble_eq_true rfl) ?_
  exact hQ _ _ _ _ _ (Or.inr (Or.inl ⟨_, _, dX10_thrown_4, rfl, by first | rfl | exact nar_bI _, rfl, rfl⟩)) ⟨rfl, rfl⟩
