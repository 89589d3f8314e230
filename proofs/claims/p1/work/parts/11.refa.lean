set_option maxRecDepth 100000 in
set_option maxHeartbeats 4000000 in
theorem cz_X10_isIn {l : Launch} {D : va_G} {cI cL cII cO : ClassId} {e0 : Nat} {w : va_W} {v a b : Int32} : CtZ l D (TY cI cL cII cO) e0 yX10_isIn (Cond.code yX10_isIn cX10_isIn 3 (some .boolean) :: TBL) ({ frames := 0, cells := 0, slots := 0, locals := 0 } : Room) w [.int (v), .int (a), .int (b)] (fun r z => r = some (.int (bI (!decide (v < a) && !decide (b < v)))) ∧ z = w) := by
  refine CtZ.of [some (.int (v)), some (.int (a)), some (.int (b))] (by decide) rfl rfl (Nat.le_of_ble_eq_true rfl) rfl (fun κ C ZE hQ => ?_)
  refine V.iload_n C dX10_isIn_0 rfl ?_
  refine V.iload_n C dX10_isIn_1 rfl ?_
  refine V.icmp_lt C (tgt := 14) dX10_isIn_2 (by decide) (fun c2 => ?_) (fun c2 => ?_)
  · skip
    refine V.iconst C (v := nI 0) dX10_isIn_14 (by decide) ?_
    refine V.widen (k := 0) (n := 0) (Nat.le_of_ble_eq_true rfl) (Nat.le_of_ble_eq_true rfl) ?_
    exact hQ _ _ _ _ _ (Or.inr (Or.inl ⟨_, _, dX10_isIn_15, rfl, by first | rfl | exact nar_bI _, rfl, rfl⟩)) ⟨congrArg (fun q => some (Value.int q)) (by clear hQ C ZE; first | (simp [bI, nI_one, nI_0, *]; done) | (simp_all [bI, nI_one, nI_0]; done)), rfl⟩
  · skip
    refine V.iload_n C dX10_isIn_5 rfl ?_
    refine V.iload_n C dX10_isIn_6 rfl ?_
    refine V.icmp_gt C (tgt := 14) dX10_isIn_7 (by decide) (fun c7 => ?_) (fun c7 => ?_)
    · skip
      refine V.iconst C (v := nI 0) dX10_isIn_14 (by decide) ?_
      refine V.widen (k := 0) (n := 0) (Nat.le_of_ble_eq_true rfl) (Nat.le_of_ble_eq_true rfl) ?_
      exact hQ _ _ _ _ _ (Or.inr (Or.inl ⟨_, _, dX10_isIn_15, rfl, by first | rfl | exact nar_bI _, rfl, rfl⟩)) ⟨congrArg (fun q => some (Value.int q)) (by clear hQ C ZE; first | (simp [bI, nI_one, nI_0, *]; done) | (simp_all [bI, nI_one, nI_0]; done)), rfl⟩
    · skip
      refine V.iconst C (v := nI 1) dX10_isIn_10 (by decide) ?_
      refine V.goto C (tgt := 15) dX10_isIn_11 (by decide) ?_
      refine V.widen (k := 0) (n := 0) (Nat.le_of_ble_eq_true rfl) (Nat.le_of_ble_eq_true rfl) ?_
      exact hQ _ _ _ _ _ (Or.inr (Or.inl ⟨_, _, dX10_isIn_15, rfl, by first | rfl | exact nar_bI _, rfl, rfl⟩)) ⟨congrArg (fun q => some (Value.int q)) (by clear hQ C ZE; first | (simp [bI, nI_one, nI_0, *]; done) | (simp_all [bI, nI_one, nI_0]; done)), rfl⟩
set_option maxRecDepth 100000 in
set_option maxHeartbeats 4000000 in
theorem cz_X10_isNoA_f {l : Launch} {D : va_G} {cI cL cII cO : ClassId} {e0 : Nat} {w : va_W} {v : Int32} (h1 : ¬ v < nI 0) (h2 : ¬ nI 2 < v) : CtZ l D (TY cI cL cII cO) e0 yX10_isNoA (Cond.code yX10_isNoA cX10_isNoA 1 (some .boolean) :: TBL) ({ frames := 1, cells := 0, slots := 0, locals := 22 } : Room) w [.int (v)] (fun r z => r = some (.int (nI 0)) ∧ z = w) := by
  refine CtZ.of [some (.int (v))] (by decide) rfl rfl (Nat.le_of_ble_eq_true rfl) rfl (fun κ C ZE hQ => ?_)
  refine V.iload_n C dX10_isNoA_0 rfl ?_
  refine V.iconst C (v := nI 0) dX10_isNoA_1 (by decide) ?_
  refine V.iconst C (v := nI 2) dX10_isNoA_2 (by decide) ?_
  refine V.zSin C ZE (cz_X10_isIn) gz_X10_45 (n := 3) ⟨by decide, by decide, by decide +kernel⟩ rfl rfl ⟨Nat.le_of_ble_eq_true rfl, Nat.le_of_ble_eq_true rfl⟩ ⟨Nat.le_of_ble_eq_true rfl, Nat.le_of_ble_eq_true rfl⟩ (Nat.le_of_ble_eq_true rfl) rfl dX10_isNoA_3 ?_
  refine V.topi (y := nI 1) (isIn_t h1 h2) ?_
  refine V.if_ne C (tgt := 13) dX10_isNoA_6 (by decide) (fun c6 => ?_) (fun c6 => ?_)
  rotate_left
  · exfalso; exact absurd c6 (by decide +kernel)
  refine V.iconst C (v := nI 0) dX10_isNoA_13 (by decide) ?_
  refine V.widen (k := 0) (n := 0) (Nat.le_of_ble_eq_true rfl) (Nat.le_of_ble_eq_true rfl) ?_
  exact hQ _ _ _ _ _ (Or.inr (Or.inl ⟨_, _, dX10_isNoA_14, rfl, by first | rfl | exact nar_bI _, rfl, rfl⟩)) ⟨rfl, rfl⟩
set_option maxRecDepth 100000 in
set_option maxHeartbeats 4000000 in
theorem cz_X10_isNoA_t {l : Launch} {D : va_G} {cI cL cII cO : ClassId} {e0 : Nat} {w : va_W} {v : Int32} (h : v < nI 0 ∨ nI 2 < v) : CtZ l D (TY cI cL cII cO) e0 yX10_isNoA (Cond.code yX10_isNoA cX10_isNoA 1 (some .boolean) :: TBL) ({ frames := 1, cells := 0, slots := 0, locals := 22 } : Room) w [.int (v)] (fun r z => r = some (.int (nI 1)) ∧ z = w) := by
  refine CtZ.of [some (.int (v))] (by decide) rfl rfl (Nat.le_of_ble_eq_true rfl) rfl (fun κ C ZE hQ => ?_)
  refine V.iload_n C dX10_isNoA_0 rfl ?_
  refine V.iconst C (v := nI 0) dX10_isNoA_1 (by decide) ?_
  refine V.iconst C (v := nI 2) dX10_isNoA_2 (by decide) ?_
  refine V.zSin C ZE (cz_X10_isIn) gz_X10_45 (n := 3) ⟨by decide, by decide, by decide +kernel⟩ rfl rfl ⟨Nat.le_of_ble_eq_true rfl, Nat.le_of_ble_eq_true rfl⟩ ⟨Nat.le_of_ble_eq_true rfl, Nat.le_of_ble_eq_true rfl⟩ (Nat.le_of_ble_eq_true rfl) rfl dX10_isNoA_3 ?_
  refine V.topi (y := nI 0) (isIn_f h) ?_
  refine V.if_ne C (tgt := 13) dX10_isNoA_6 (by decide) (fun c6 => ?_) (fun c6 => ?_)
  · exfalso; exact absurd c6 (by decide +kernel)
  refine V.iconst C (v := nI 1) dX10_isNoA_9 (by decide) ?_
  refine V.goto C (tgt := 14) dX10_isNoA_10 (by decide) ?_
  refine V.widen (k := 0) (n := 0) (Nat.le_of_ble_eq_true rfl) (Nat.le_of_ble_eq_true rfl) ?_
  exact hQ _ _ _ _ _ (Or.inr (Or.inl ⟨_, _, dX10_isNoA_14, rfl, by first | rfl | exact nar_bI _, rfl, rfl⟩)) ⟨rfl, rfl⟩
set_option maxRecDepth 100000 in
set_option maxHeartbeats 4000000 in
theorem cz_X10_isNoB_f {l : Launch} {D : va_G} {cI cL cII cO : ClassId} {e0 : Nat} {w : va_W} {v : Int32} (h1 : ¬ v < nI 0) (h2 : ¬ nI 1 < v) : CtZ l D (TY cI cL cII cO) e0 yX10_isNoB (Cond.code yX10_isNoB cX10_isNoB 1 (some .boolean) :: TBL) ({ frames := 1, cells := 0, slots := 0, locals := 22 } : Room) w [.int (v)] (fun r z => r = some (.int (nI 0)) ∧ z = w) := by
  refine CtZ.of [some (.int (v))] (by decide) rfl rfl (Nat.le_of_ble_eq_true rfl) rfl (fun κ C ZE hQ => ?_)
  refine V.iload_n C dX10_isNoB_0 rfl ?_
  refine V.iconst C (v := nI 0) dX10_isNoB_1 (by decide) ?_
  refine V.iconst C (v := nI 1) dX10_isNoB_2 (by decide) ?_
  refine V.zSin C ZE (cz_X10_isIn) gz_X10_45 (n := 3) ⟨by decide, by decide, by decide +kernel⟩ rfl rfl ⟨Nat.le_of_ble_eq_true rfl, Nat.le_of_ble_eq_true rfl⟩ ⟨Nat.le_of_ble_eq_true rfl, Nat.le_of_ble_eq_true rfl⟩ (Nat.le_of_ble_eq_true rfl) rfl dX10_isNoB_3 ?_
  refine V.topi (y := nI 1) (isIn_t h1 h2) ?_
  refine V.if_ne C (tgt := 13) dX10_isNoB_6 (by decide) (fun c6 => ?_) (fun c6 => ?_)
  rotate_left
  · exfalso; exact absurd c6 (by decide +kernel)
  refine V.iconst C (v := nI 0) dX10_isNoB_13 (by decide) ?_
  refine V.widen (k := 0) (n := 0) (Nat.le_of_ble_eq_true rfl) (Nat.le_of_ble_eq_true rfl) ?_
  exact hQ _ _ _ _ _ (Or.inr (Or.inl ⟨_, _, dX10_isNoB_14, rfl, by first | rfl | exact nar_bI _, rfl, rfl⟩)) ⟨rfl, rfl⟩
set_option maxRecDepth 100000 in
set_option maxHeartbeats 4000000 in
theorem cz_X10_isNoB_t {l : Launch} {D : va_G} {cI cL cII cO : ClassId} {e0 : Nat} {w : va_W} {v : Int32} (h : v < nI 0 ∨ nI 1 < v) : CtZ l D (TY cI cL cII cO) e0 yX10_isNoB (Cond.code yX10_isNoB cX10_isNoB 1 (some .boolean) :: TBL) ({ frames := 1, cells := 0, slots := 0, locals := 22 } : Room) w [.int (v)] (fun r z => r = some (.int (nI 1)) ∧ z = w) := by
  refine CtZ.of [some (.int (v))] (by decide) rfl rfl (Nat.le_of_ble_eq_true rfl) rfl (fun κ C ZE hQ => ?_)
  refine V.iload_n C dX10_isNoB_0 rfl ?_
  refine V.iconst C (v := nI 0) dX10_isNoB_1 (by decide) ?_
  refine V.iconst C (v := nI 1) dX10_isNoB_2 (by decide) ?_
  refine V.zSin C ZE (cz_X10_isIn) gz_X10_45 (n := 3) ⟨by decide, by decide, by decide +kernel⟩ rfl rfl ⟨Nat.le_of_ble_eq_true rfl, Nat.le_of_ble_eq_true rfl⟩ ⟨Nat.le_of_ble_eq_true rfl, Nat.le_of_ble_eq_true rfl⟩ (Nat.le_of_ble_eq_true rfl) rfl dX10_isNoB_3 ?_
  refine V.topi (y := nI 0) (isIn_f h) ?_
  refine V.if_ne C (tgt := 13) dX10_isNoB_6 (by decide) (fun c6 => ?_) (fun c6 => ?_)
  · exfalso; exact absurd c6 (by decide +kernel)
  refine V.iconst C (v := nI 1) dX10_isNoB_9 (by decide) ?_
  refine V.goto C (tgt := 14) dX10_isNoB_10 (by decide) ?_
  refine V.widen (k := 0) (n := 0) (Nat.le_of_ble_eq_true rfl) (Nat.le_of_ble_eq_true rfl) ?_
  exact hQ _ _ _ _ _ (Or.inr (Or.inl ⟨_, _, dX10_isNoB_14, rfl, by first | rfl | exact nar_bI _, rfl, rfl⟩)) ⟨rfl, rfl⟩
set_option maxRecDepth 100000 in
set_option maxHeartbeats 4000000 in
theorem cz_X10_isNoRounds_f {l : Launch} {D : va_G} {cI cL cII cO : ClassId} {e0 : Nat} {w : va_W} {v : Int32} (h1 : ¬ v < nI 0) (h2 : ¬ nI 9 < v) : CtZ l D (TY cI cL cII cO) e0 yX10_isNoRounds (Cond.code yX10_isNoRounds cX10_isNoRounds 1 (some .boolean) :: TBL) ({ frames := 1, cells := 0, slots := 0, locals := 22 } : Room) w [.int (v)] (fun r z => r = some (.int (nI 0)) ∧ z = w) := by
  refine CtZ.of [some (.int (v))] (by decide) rfl rfl (Nat.le_of_ble_eq_true rfl) rfl (fun κ C ZE hQ => ?_)
  refine V.iload_n C dX10_isNoRounds_0 rfl ?_
  refine V.iconst C (v := nI 0) dX10_isNoRounds_1 (by decide) ?_
  refine V.bipush C (v := nI 9) dX10_isNoRounds_2 (by decide) ?_
  refine V.zSin C ZE (cz_X10_isIn) gz_X10_45 (n := 3) ⟨by decide, by decide, by decide +kernel⟩ rfl rfl ⟨Nat.le_of_ble_eq_true rfl, Nat.le_of_ble_eq_true rfl⟩ ⟨Nat.le_of_ble_eq_true rfl, Nat.le_of_ble_eq_true rfl⟩ (Nat.le_of_ble_eq_true rfl) rfl dX10_isNoRounds_4 ?_
  refine V.topi (y := nI 1) (isIn_t h1 h2) ?_
  refine V.if_ne C (tgt := 14) dX10_isNoRounds_7 (by decide) (fun c7 => ?_) (fun c7 => ?_)
  rotate_left
  · exfalso; exact absurd c7 (by decide +kernel)
  refine V.iconst C (v := nI 0) dX10_isNoRounds_14 (by decide) ?_
  refine V.widen (k := 0) (n := 0) (Nat.le_of_ble_eq_true rfl) (Nat.le_of_ble_eq_true rfl) ?_
  exact hQ _ _ _ _ _ (Or.inr (Or.inl ⟨_, _, dX10_isNoRounds_15, rfl, by first | rfl | exact nar_bI _, rfl, rfl⟩)) ⟨rfl, rfl⟩
set_option maxRecDepth 100000 in
set_option maxHeartbeats 4000000 in
theorem cz_X10_isNoRounds_t {l : Launch} {D : va_G} {cI cL cII cO : ClassId} {e0 : Nat} {w : va_W} {v : Int32} (h : v < nI 0 ∨ nI 9 < v) : CtZ l D (TY cI cL cII cO) e0 yX10_isNoRounds (Cond.code yX10_isNoRounds cX10_isNoRounds 1 (some .boolean) :: TBL) ({ frames := 1, cells := 0, slots := 0, locals := 22 } : Room) w [.int (v)] (fun r z => r = some (.int (nI 1)) ∧ z = w) := by
  refine CtZ.of [some (.int (v))] (by decide) rfl rfl (Nat.le_of_ble_eq_true rfl) rfl (fun κ C ZE hQ => ?_)
  refine V.iload_n C dX10_isNoRounds_0 rfl ?_
  refine V.iconst C (v := nI 0) dX10_isNoRounds_1 (by decide) ?_
  refine V.bipush C (v := nI 9) dX10_isNoRounds_2 (by decide) ?_
  refine V.zSin C ZE (cz_X10_isIn) gz_X10_45 (n := 3) ⟨by decide, by decide, by decide +kernel⟩ rfl rfl ⟨Nat.le_of_ble_eq_true rfl, Nat.le_of_ble_eq_true rfl⟩ ⟨Nat.le_of_ble_eq_true rfl, Nat.le_of_ble_eq_true rfl⟩ (Nat.le_of_ble_eq_true rfl) rfl dX10_isNoRounds_4 ?_
  refine V.topi (y := nI 0) (isIn_f h) ?_
  refine V.if_ne C (tgt := 14) dX10_isNoRounds_7 (by decide) (fun c7 => ?_) (fun c7 => ?_)
  · exfalso; exact absurd c7 (by decide +kernel)
  refine V.iconst C (v := nI 1) dX10_isNoRounds_10 (by decide) ?_
  refine V.goto C (tgt := 15) dX10_isNoRounds_11 (by decide) ?_
  refine V.widen (k := 0) (n := 0) (Nat.le_of_ble_eq_true rfl) (Nat.le_of_ble_eq_true rfl) ?_
  exact hQ _ _ _ _ _ (Or.inr (Or.inl ⟨_, _, dX10_isNoRounds_15, rfl, by first | rfl | exact nar_bI _, rfl, rfl⟩)) ⟨rfl, rfl⟩
set_option maxRecDepth 100000 in
set_option maxHeartbeats 4000000 in
theorem cz_X10_refuse_f1 {l : Launch} {D : va_G} {cI cL cII cO : ClassId} {e0 : Nat} {g : Nat → Nat} : CtZ l D (TY cI cL cII cO) e0 yX10_refuse (Cond.code yX10_refuse cX10_refuse 3 (some .boolean) :: TBL) ({ frames := 0, cells := 0, slots := 0, locals := 0 } : Room) (MF cI cII e0 g ((nI 0))) [.ref (g 0), .int (nI 0), .int (nI 1)] (fun r z => r = some (.int (nI 0)) ∧ z = (MF cI cII e0 g ((nI 0)))) := by
  refine CtZ.of [some (.ref (g 0)), some (.int (nI 0)), some (.int (nI 1))] (by decide) rfl rfl (Nat.le_of_ble_eq_true rfl) rfl (fun κ C ZE hQ => ?_)
  refine V.iload_n C dX10_refuse_0 rfl ?_
  refine V.if_eq C (tgt := 16) dX10_refuse_1 (by decide) (fun c1 => ?_) (fun c1 => ?_)
  rotate_left
  · exfalso; exact absurd c1 (by decide +kernel)
  refine V.aload_n C dX10_refuse_16 rfl ?_
  refine V.get C (q0 := 0) (k := 0) rfl rfl (by decide) (iz_X10 _) (List.mem_cons_of_mem _ tw_60) rfl rfl dX10_refuse_17 ?_
  refine V.if_le C (tgt := 27) dX10_refuse_20 (by decide) (fun c20 => ?_) (fun c20 => ?_)
  rotate_left
  · exfalso; exact absurd c20 (by decide +kernel)
  refine V.iconst C (v := nI 0) dX10_refuse_27 (by decide) ?_
  refine V.widen (k := 0) (n := 0) (Nat.le_of_ble_eq_true rfl) (Nat.le_of_ble_eq_true rfl) ?_
  exact hQ _ _ _ _ _ (Or.inr (Or.inl ⟨_, _, dX10_refuse_28, rfl, by first | rfl | exact nar_bI _, rfl, rfl⟩)) ⟨rfl, rfl⟩
set_option maxRecDepth 100000 in
set_option maxHeartbeats 4000000 in
theorem cz_X10_refuse_f2 {l : Launch} {D : va_G} {cI cL cII cO : ClassId} {e0 : Nat} {g : Nat → Nat} : CtZ l D (TY cI cL cII cO) e0 yX10_refuse (Cond.code yX10_refuse cX10_refuse 3 (some .boolean) :: TBL) ({ frames := 0, cells := 0, slots := 0, locals := 0 } : Room) (MF cI cII e0 g ((nI 0))) [.ref (g 0), .int (nI 0), .int (nI 2)] (fun r z => r = some (.int (nI 0)) ∧ z = (MF cI cII e0 g ((nI 0)))) := by
  refine CtZ.of [some (.ref (g 0)), some (.int (nI 0)), some (.int (nI 2))] (by decide) rfl rfl (Nat.le_of_ble_eq_true rfl) rfl (fun κ C ZE hQ => ?_)
  refine V.iload_n C dX10_refuse_0 rfl ?_
  refine V.if_eq C (tgt := 16) dX10_refuse_1 (by decide) (fun c1 => ?_) (fun c1 => ?_)
  rotate_left
  · exfalso; exact absurd c1 (by decide +kernel)
  refine V.aload_n C dX10_refuse_16 rfl ?_
  refine V.get C (q0 := 0) (k := 0) rfl rfl (by decide) (iz_X10 _) (List.mem_cons_of_mem _ tw_60) rfl rfl dX10_refuse_17 ?_
  refine V.if_le C (tgt := 27) dX10_refuse_20 (by decide) (fun c20 => ?_) (fun c20 => ?_)
  rotate_left
  · exfalso; exact absurd c20 (by decide +kernel)
  refine V.iconst C (v := nI 0) dX10_refuse_27 (by decide) ?_
  refine V.widen (k := 0) (n := 0) (Nat.le_of_ble_eq_true rfl) (Nat.le_of_ble_eq_true rfl) ?_
  exact hQ _ _ _ _ _ (Or.inr (Or.inl ⟨_, _, dX10_refuse_28, rfl, by first | rfl | exact nar_bI _, rfl, rfl⟩)) ⟨rfl, rfl⟩
set_option maxRecDepth 100000 in
set_option maxHeartbeats 4000000 in
theorem cz_X10_refuse_t1 {l : Launch} {D : va_G} {cI cL cII cO : ClassId} {e0 : Nat} {g : Nat → Nat} : CtZ l D (TY cI cL cII cO) e0 yX10_refuse (Cond.code yX10_refuse cX10_refuse 3 (some .boolean) :: TBL) ({ frames := 0, cells := 0, slots := 0, locals := 0 } : Room) (MF cI cII e0 g ((nI 0))) [.ref (g 0), .int (nI 1), .int (nI 1)] (fun r z => r = some (.int (nI 1)) ∧ z = (MF cI cII e0 g ((nI 1)))) := by
  refine CtZ.of [some (.ref (g 0)), some (.int (nI 1)), some (.int (nI 1))] (by decide) rfl rfl (Nat.le_of_ble_eq_true rfl) rfl (fun κ C ZE hQ => ?_)
  refine V.iload_n C dX10_refuse_0 rfl ?_
  refine V.if_eq C (tgt := 16) dX10_refuse_1 (by decide) (fun c1 => ?_) (fun c1 => ?_)
  · exfalso; exact absurd c1 (by decide +kernel)
  refine V.aload_n C dX10_refuse_4 rfl ?_
  refine V.get C (q0 := 0) (k := 0) rfl rfl (by decide) (iz_X10 _) (List.mem_cons_of_mem _ tw_60) rfl rfl dX10_refuse_5 ?_
  refine V.if_ne C (tgt := 16) dX10_refuse_8 (by decide) (fun c8 => ?_) (fun c8 => ?_)
  · exfalso; exact absurd c8 (by decide +kernel)
  refine V.aload_n C dX10_refuse_11 rfl ?_
  refine V.iload_n C dX10_refuse_12 rfl ?_
  refine V.put C (q0 := 0) (k := 0) (w' := _) rfl rfl (by decide) (iz_X10 _) (List.mem_cons_of_mem _ tw_60) rfl tyX10 tyX10_ok nmX10 rfl rfl rfl rfl (Nat.le_of_ble_eq_true rfl) rfl dX10_refuse_13 ?_
  refine V.aload_n C dX10_refuse_16 rfl ?_
  refine V.get C (q0 := 0) (k := 0) rfl rfl (by decide) (iz_X10 _) (List.mem_cons_of_mem _ tw_60) rfl rfl dX10_refuse_17 ?_
  refine V.if_le C (tgt := 27) dX10_refuse_20 (by decide) (fun c20 => ?_) (fun c20 => ?_)
  · exfalso; exact absurd c20 (by decide +kernel)
  refine V.iconst C (v := nI 1) dX10_refuse_23 (by decide) ?_
  refine V.goto C (tgt := 28) dX10_refuse_24 (by decide) ?_
  refine V.widen (k := 0) (n := 0) (Nat.le_of_ble_eq_true rfl) (Nat.le_of_ble_eq_true rfl) ?_
  exact hQ _ _ _ _ _ (Or.inr (Or.inl ⟨_, _, dX10_refuse_28, rfl, by first | rfl | exact nar_bI _, rfl, rfl⟩)) ⟨rfl, rfl⟩
set_option maxRecDepth 100000 in
set_option maxHeartbeats 4000000 in
theorem cz_X10_refuse_t2 {l : Launch} {D : va_G} {cI cL cII cO : ClassId} {e0 : Nat} {g : Nat → Nat} : CtZ l D (TY cI cL cII cO) e0 yX10_refuse (Cond.code yX10_refuse cX10_refuse 3 (some .boolean) :: TBL) ({ frames := 0, cells := 0, slots := 0, locals := 0 } : Room) (MF cI cII e0 g ((nI 0))) [.ref (g 0), .int (nI 1), .int (nI 2)] (fun r z => r = some (.int (nI 1)) ∧ z = (MF cI cII e0 g ((nI 2)))) := by
  refine CtZ.of [some (.ref (g 0)), some (.int (nI 1)), some (.int (nI 2))] (by decide) rfl rfl (Nat.le_of_ble_eq_true rfl) rfl (fun κ C ZE hQ => ?_)
  refine V.iload_n C dX10_refuse_0 rfl ?_
  refine V.if_eq C (tgt := 16) dX10_refuse_1 (by decide) (fun c1 => ?_) (fun c1 => ?_)
  · exfalso; exact absurd c1 (by decide +kernel)
  refine V.aload_n C dX10_refuse_4 rfl ?_
  refine V.get C (q0 := 0) (k := 0) rfl rfl (by decide) (iz_X10 _) (List.mem_cons_of_mem _ tw_60) rfl rfl dX10_refuse_5 ?_
  refine V.if_ne C (tgt := 16) dX10_refuse_8 (by decide) (fun c8 => ?_) (fun c8 => ?_)
  · exfalso; exact absurd c8 (by decide +kernel)
  refine V.aload_n C dX10_refuse_11 rfl ?_
  refine V.iload_n C dX10_refuse_12 rfl ?_
  refine V.put C (q0 := 0) (k := 0) (w' := _) rfl rfl (by decide) (iz_X10 _) (List.mem_cons_of_mem _ tw_60) rfl tyX10 tyX10_ok nmX10 rfl rfl rfl rfl (Nat.le_of_ble_eq_true rfl) rfl dX10_refuse_13 ?_
  refine V.aload_n C dX10_refuse_16 rfl ?_
  refine V.get C (q0 := 0) (k := 0) rfl rfl (by decide) (iz_X10 _) (List.mem_cons_of_mem _ tw_60) rfl rfl dX10_refuse_17 ?_
  refine V.if_le C (tgt := 27) dX10_refuse_20 (by decide) (fun c20 => ?_) (fun c20 => ?_)
  · exfalso; exact absurd c20 (by decide +kernel)
  refine V.iconst C (v := nI 1) dX10_refuse_23 (by decide) ?_
  refine V.goto C (tgt := 28) dX10_refuse_24 (by decide) ?_
  refine V.widen (k := 0) (n := 0) (Nat.le_of_ble_eq_true rfl) (Nat.le_of_ble_eq_true rfl) ?_
  exact hQ _ _ _ _ _ (Or.inr (Or.inl ⟨_, _, dX10_refuse_28, rfl, by first | rfl | exact nar_bI _, rfl, rfl⟩)) ⟨rfl, rfl⟩
set_option maxRecDepth 100000 in
set_option maxHeartbeats 4000000 in
theorem cz_X10_refuse_t3 {l : Launch} {D : va_G} {cI cL cII cO : ClassId} {e0 : Nat} {g : Nat → Nat} : CtZ l D (TY cI cL cII cO) e0 yX10_refuse (Cond.code yX10_refuse cX10_refuse 3 (some .boolean) :: TBL) ({ frames := 0, cells := 0, slots := 0, locals := 0 } : Room) (MF cI cII e0 g ((nI 0))) [.ref (g 0), .int (nI 1), .int (nI 3)] (fun r z => r = some (.int (nI 1)) ∧ z = (MF cI cII e0 g ((nI 3)))) := by
  refine CtZ.of [some (.ref (g 0)), some (.int (nI 1)), some (.int (nI 3))] (by decide) rfl rfl (Nat.le_of_ble_eq_true rfl) rfl (fun κ C ZE hQ => ?_)
  refine V.iload_n C dX10_refuse_0 rfl ?_
  refine V.if_eq C (tgt := 16) dX10_refuse_1 (by decide) (fun c1 => ?_) (fun c1 => ?_)
  · exfalso; exact absurd c1 (by decide +kernel)
  refine V.aload_n C dX10_refuse_4 rfl ?_
  refine V.get C (q0 := 0) (k := 0) rfl rfl (by decide) (iz_X10 _) (List.mem_cons_of_mem _ tw_60) rfl rfl dX10_refuse_5 ?_
  refine V.if_ne C (tgt := 16) dX10_refuse_8 (by decide) (fun c8 => ?_) (fun c8 => ?_)
  · exfalso; exact absurd c8 (by decide +kernel)
  refine V.aload_n C dX10_refuse_11 rfl ?_
  refine V.iload_n C dX10_refuse_12 rfl ?_
  refine V.put C (q0 := 0) (k := 0) (w' := _) rfl rfl (by decide) (iz_X10 _) (List.mem_cons_of_mem _ tw_60) rfl tyX10 tyX10_ok nmX10 rfl rfl rfl rfl (Nat.le_of_ble_eq_true rfl) rfl dX10_refuse_13 ?_
  refine V.aload_n C dX10_refuse_16 rfl ?_
  refine V.get C (q0 := 0) (k := 0) rfl rfl (by decide) (iz_X10 _) (List.mem_cons_of_mem _ tw_60) rfl rfl dX10_refuse_17 ?_
  refine V.if_le C (tgt := 27) dX10_refuse_20 (by decide) (fun c20 => ?_) (fun c20 => ?_)
  · exfalso; exact absurd c20 (by decide +kernel)
  refine V.iconst C (v := nI 1) dX10_refuse_23 (by decide) ?_
  refine V.goto C (tgt := 28) dX10_refuse_24 (by decide) ?_
  refine V.widen (k := 0) (n := 0) (Nat.le_of_ble_eq_true rfl) (Nat.le_of_ble_eq_true rfl) ?_
  exact hQ _ _ _ _ _ (Or.inr (Or.inl ⟨_, _, dX10_refuse_28, rfl, by first | rfl | exact nar_bI _, rfl, rfl⟩)) ⟨rfl, rfl⟩
set_option maxRecDepth 100000 in
set_option maxHeartbeats 4000000 in
theorem cz_X10_start_f1 {l : Launch} {D : va_G} {cI cL cII cO : ClassId} {e0 : Nat} {g : Nat → Nat} : CtZ l D (TY cI cL cII cO) e0 yX10_start (Cond.code yX10_start cX10_start 3 (some .boolean) :: TBL) ({ frames := 1, cells := 0, slots := 0, locals := 22 } : Room) (MF cI cII e0 g ((nI 0))) [.ref (g 0), .int (nI 0), .int (nI 1)] (fun r z => r = some (.int (nI 0)) ∧ z = (MF cI cII e0 g ((nI 0)))) := by
  refine CtZ.of [some (.ref (g 0)), some (.int (nI 0)), some (.int (nI 1))] (by decide) rfl rfl (Nat.le_of_ble_eq_true rfl) rfl (fun κ C ZE hQ => ?_)
  refine V.aload_n C dX10_start_0 rfl ?_
  refine V.iconst C (v := nI 0) dX10_start_1 (by decide) ?_
  refine V.put C (q0 := 0) (k := 0) (w' := _) rfl rfl (by decide) (iz_X10 _) (List.mem_cons_of_mem _ tw_60) rfl tyX10 tyX10_ok nmX10 rfl rfl rfl rfl (Nat.le_of_ble_eq_true rfl) rfl dX10_start_2 ?_
  refine V.aload_n C dX10_start_5 rfl ?_
  refine V.iload_n C dX10_start_6 rfl ?_
  refine V.iload_n C dX10_start_7 rfl ?_
  refine V.zVix C ZE (X := []) (cz_X10_refuse_f1) (by first | rfl | exact (List.append_nil _).symm) gz_X10_37 (n := 2) ⟨rfl, by decide, by decide, by decide +kernel⟩ rfl (q0 := 0) rfl rfl rfl ⟨Nat.le_of_ble_eq_true rfl, Nat.le_of_ble_eq_true rfl⟩ ⟨Nat.le_of_ble_eq_true rfl, Nat.le_of_ble_eq_true rfl⟩ (Nat.le_of_ble_eq_true rfl) rfl dX10_start_8 ?_
  refine V.widen (k := 0) (n := 0) (Nat.le_of_ble_eq_true rfl) (Nat.le_of_ble_eq_true rfl) ?_
  exact hQ _ _ _ _ _ (Or.inr (Or.inl ⟨_, _, dX10_start_11, rfl, by first | rfl | exact nar_bI _, rfl, rfl⟩)) ⟨rfl, rfl⟩
set_option maxRecDepth 100000 in
set_option maxHeartbeats 4000000 in
theorem cz_X10_start_t1 {l : Launch} {D : va_G} {cI cL cII cO : ClassId} {e0 : Nat} {g : Nat → Nat} : CtZ l D (TY cI cL cII cO) e0 yX10_start (Cond.code yX10_start cX10_start 3 (some .boolean) :: TBL) ({ frames := 1, cells := 0, slots := 0, locals := 22 } : Room) (MF cI cII e0 g ((nI 0))) [.ref (g 0), .int (nI 1), .int (nI 1)] (fun r z => r = some (.int (nI 1)) ∧ z = (MF cI cII e0 g ((nI 1)))) := by
  refine CtZ.of [some (.ref (g 0)), some (.int (nI 1)), some (.int (nI 1))] (by decide) rfl rfl (Nat.le_of_ble_eq_true rfl) rfl (fun κ C ZE hQ => ?_)
  refine V.aload_n C dX10_start_0 rfl ?_
  refine V.iconst C (v := nI 0) dX10_start_1 (by decide) ?_
  refine V.put C (q0 := 0) (k := 0) (w' := _) rfl rfl (by decide) (iz_X10 _) (List.mem_cons_of_mem _ tw_60) rfl tyX10 tyX10_ok nmX10 rfl rfl rfl rfl (Nat.le_of_ble_eq_true rfl) rfl dX10_start_2 ?_
  refine V.aload_n C dX10_start_5 rfl ?_
  refine V.iload_n C dX10_start_6 rfl ?_
  refine V.iload_n C dX10_start_7 rfl ?_
  refine V.zVix C ZE (X := []) (cz_X10_refuse_t1) (by first | rfl | exact (List.append_nil _).symm) gz_X10_37 (n := 2) ⟨rfl, by decide, by decide, by decide +kernel⟩ rfl (q0 := 0) rfl rfl rfl ⟨Nat.le_of_ble_eq_true rfl, Nat.le_of_ble_eq_true rfl⟩ ⟨Nat.le_of_ble_eq_true rfl, Nat.le_of_ble_eq_true rfl⟩ (Nat.le_of_ble_eq_true rfl) rfl dX10_start_8 ?_
  refine V.widen (k := 0) (n := 0) (Nat.le_of_ble_eq_true rfl) (Nat.le_of_ble_eq_true rfl) ?_
  exact hQ _ _ _ _ _ (Or.inr (Or.inl ⟨_, _, dX10_start_11, rfl, by first | rfl | exact nar_bI _, rfl, rfl⟩)) ⟨rfl, rfl⟩
set_option maxRecDepth 100000 in
set_option maxHeartbeats 4000000 in
theorem cz_X10_isNoQuestion {l : Launch} {D : va_G} {cI cL cII cO : ClassId} {e0 : Nat} {g : Nat → Nat} {q : Int32} : CtZ l D (TY cI cL cII cO) e0 yX10_isNoQuestion (Cond.code yX10_isNoQuestion cX10_isNoQuestion 2 (some .boolean) :: TBL) ({ frames := 1, cells := 0, slots := 0, locals := 22 } : Room) (MF cI cII e0 g ((nI 0))) [.ref (g 0), .int (q)] (fun r z => r = some (.int (nI 1)) ∧ z = (MF cI cII e0 g ((nI 0)))) := by
  refine CtZ.of [some (.ref (g 0)), some (.int (q))] (by decide) rfl rfl (Nat.le_of_ble_eq_true rfl) rfl (fun κ C ZE hQ => ?_)
  refine V.iload_n C dX10_isNoQuestion_0 rfl ?_
  refine V.iconst C (v := nI 0) dX10_isNoQuestion_1 (by decide) ?_
  refine V.aload_n C dX10_isNoQuestion_2 rfl ?_
  refine V.get C (q0 := 0) (k := 1) rfl rfl (by decide) (iz_X10 _) (List.mem_cons_of_mem _ tw_66) rfl rfl dX10_isNoQuestion_3 ?_
  refine V.zVin C ZE (cz_Jx4a65c_size_8abf5 (k := 1) rfl) gz_X10_41 (n := 0) ⟨rfl, by decide, by decide, by decide +kernel⟩ rfl (q0 := 1) rfl rfl rfl ⟨Nat.le_of_ble_eq_true rfl, Nat.le_of_ble_eq_true rfl⟩ ⟨Nat.le_of_ble_eq_true rfl, Nat.le_of_ble_eq_true rfl⟩ (Nat.le_of_ble_eq_true rfl) rfl dX10_isNoQuestion_6 ?_
  refine V.iconst C (v := nI 1) dX10_isNoQuestion_9 (by decide) ?_
  refine V.isub C dX10_isNoQuestion_10 ?_
  refine V.topi (y := -1) (by decide +kernel) ?_
  refine V.zSin C ZE (cz_X10_isIn) gz_X10_45 (n := 3) ⟨by decide, by decide, by decide +kernel⟩ rfl rfl ⟨Nat.le_of_ble_eq_true rfl, Nat.le_of_ble_eq_true rfl⟩ ⟨Nat.le_of_ble_eq_true rfl, Nat.le_of_ble_eq_true rfl⟩ (Nat.le_of_ble_eq_true rfl) rfl dX10_isNoQuestion_11 ?_
  refine V.topi (y := nI 0) (isIn_f (neg_split q)) ?_
  refine V.if_ne C (tgt := 21) dX10_isNoQuestion_14 (by decide) (fun c14 => ?_) (fun c14 => ?_)
  · exfalso; exact absurd c14 (by decide +kernel)
  refine V.iconst C (v := nI 1) dX10_isNoQuestion_17 (by decide) ?_
  refine V.goto C (tgt := 22) dX10_isNoQuestion_18 (by decide) ?_
  refine V.widen (k := 0) (n := 0) (Nat.le_of_ble_eq_true rfl) (Nat.le_of_ble_eq_true rfl) ?_
  exact hQ _ _ _ _ _ (Or.inr (Or.inl ⟨_, _, dX10_isNoQuestion_22, rfl, by first | rfl | exact nar_bI _, rfl, rfl⟩)) ⟨rfl, rfl⟩
set_option maxRecDepth 100000 in
set_option maxHeartbeats 4000000 in
theorem cz_X10_isNoAnswer {l : Launch} {D : va_G} {cI cL cII cO : ClassId} {e0 : Nat} {g : Nat → Nat} {q a : Int32} : CtZ l D (TY cI cL cII cO) e0 yX10_isNoAnswer (Cond.code yX10_isNoAnswer cX10_isNoAnswer 3 (some .boolean) :: TBL) ({ frames := 2, cells := 0, slots := 0, locals := 43 } : Room) (MF cI cII e0 g ((nI 0))) [.ref (g 0), .int (q), .int (a)] (fun r z => r = some (.int (nI 1)) ∧ z = (MF cI cII e0 g ((nI 0)))) := by
  refine CtZ.of [some (.ref (g 0)), some (.int (q)), some (.int (a))] (by decide) rfl rfl (Nat.le_of_ble_eq_true rfl) rfl (fun κ C ZE hQ => ?_)
  refine V.aload_n C dX10_isNoAnswer_0 rfl ?_
  refine V.iload_n C dX10_isNoAnswer_1 rfl ?_
  refine V.zVix C ZE (X := []) (cz_X10_isNoQuestion) (by first | rfl | exact (List.append_nil _).symm) gz_X10_49 (n := 1) ⟨rfl, by decide, by decide, by decide +kernel⟩ rfl (q0 := 0) rfl rfl rfl ⟨Nat.le_of_ble_eq_true rfl, Nat.le_of_ble_eq_true rfl⟩ ⟨Nat.le_of_ble_eq_true rfl, Nat.le_of_ble_eq_true rfl⟩ (Nat.le_of_ble_eq_true rfl) rfl dX10_isNoAnswer_2 ?_
  refine V.if_ne C (tgt := 33) dX10_isNoAnswer_5 (by decide) (fun c5 => ?_) (fun c5 => ?_)
  rotate_left
  · exfalso; exact absurd c5 (by decide +kernel)
  refine V.iconst C (v := nI 1) dX10_isNoAnswer_33 (by decide) ?_
  refine V.goto C (tgt := 38) dX10_isNoAnswer_34 (by decide) ?_
  refine V.widen (k := 0) (n := 0) (Nat.le_of_ble_eq_true rfl) (Nat.le_of_ble_eq_true rfl) ?_
  exact hQ _ _ _ _ _ (Or.inr (Or.inl ⟨_, _, dX10_isNoAnswer_38, rfl, by first | rfl | exact nar_bI _, rfl, rfl⟩)) ⟨rfl, rfl⟩
set_option maxRecDepth 100000 in
set_option maxHeartbeats 4000000 in
theorem cz_X10_isNoPerson {l : Launch} {D : va_G} {cI cL cII cO : ClassId} {e0 : Nat} {g : Nat → Nat} {v : Int32} : CtZ l D (TY cI cL cII cO) e0 yX10_isNoPerson (Cond.code yX10_isNoPerson cX10_isNoPerson 2 (some .boolean) :: TBL) ({ frames := 2, cells := 0, slots := 0, locals := 44 } : Room) (MF cI cII e0 g ((nI 0))) [.ref (g 0), .int (v)] (fun r z => r = some (.int (nI 1)) ∧ z = (MF cI cII e0 g ((nI 1)))) := by
  refine CtZ.of [some (.ref (g 0)), some (.int (v))] (by decide) rfl rfl (Nat.le_of_ble_eq_true rfl) rfl (fun κ C ZE hQ => ?_)
  refine V.aload_n C dX10_isNoPerson_0 rfl ?_
  refine V.iload_n C dX10_isNoPerson_1 rfl ?_
  refine V.iconst C (v := nI 0) dX10_isNoPerson_2 (by decide) ?_
  refine V.aload_n C dX10_isNoPerson_3 rfl ?_
  refine V.get C (q0 := 0) (k := 2) rfl rfl (by decide) (iz_X10 _) (List.mem_cons_of_mem _ tw_75) rfl rfl dX10_isNoPerson_4 ?_
  refine V.zVin C ZE (cz_Jx4a65c_size_8abf5 (k := 2) rfl) gz_X10_41 (n := 0) ⟨rfl, by decide, by decide, by decide +kernel⟩ rfl (q0 := 2) rfl rfl rfl ⟨Nat.le_of_ble_eq_true rfl, Nat.le_of_ble_eq_true rfl⟩ ⟨Nat.le_of_ble_eq_true rfl, Nat.le_of_ble_eq_true rfl⟩ (Nat.le_of_ble_eq_true rfl) rfl dX10_isNoPerson_7 ?_
  refine V.iconst C (v := nI 1) dX10_isNoPerson_10 (by decide) ?_
  refine V.isub C dX10_isNoPerson_11 ?_
  refine V.topi (y := -1) (by decide +kernel) ?_
  refine V.zSin C ZE (cz_X10_isIn) gz_X10_45 (n := 3) ⟨by decide, by decide, by decide +kernel⟩ rfl rfl ⟨Nat.le_of_ble_eq_true rfl, Nat.le_of_ble_eq_true rfl⟩ ⟨Nat.le_of_ble_eq_true rfl, Nat.le_of_ble_eq_true rfl⟩ (Nat.le_of_ble_eq_true rfl) rfl dX10_isNoPerson_12 ?_
  refine V.topi (y := nI 0) (isIn_f (neg_split v)) ?_
  refine V.if_ne C (tgt := 22) dX10_isNoPerson_15 (by decide) (fun c15 => ?_) (fun c15 => ?_)
  · exfalso; exact absurd c15 (by decide +kernel)
  refine V.iconst C (v := nI 1) dX10_isNoPerson_18 (by decide) ?_
  refine V.goto C (tgt := 23) dX10_isNoPerson_19 (by decide) ?_
  refine V.iconst C (v := nI 1) dX10_isNoPerson_23 (by decide) ?_
  refine V.zVix C ZE (X := []) (cz_X10_start_t1) (by first | rfl | exact (List.append_nil _).symm) gz_X10_63 (n := 2) ⟨rfl, by decide, by decide, by decide +kernel⟩ rfl (q0 := 0) rfl rfl rfl ⟨Nat.le_of_ble_eq_true rfl, Nat.le_of_ble_eq_true rfl⟩ ⟨Nat.le_of_ble_eq_true rfl, Nat.le_of_ble_eq_true rfl⟩ (Nat.le_of_ble_eq_true rfl) rfl dX10_isNoPerson_24 ?_
  refine V.widen (k := 0) (n := 0) (Nat.le_of_ble_eq_true rfl) (Nat.le_of_ble_eq_true rfl) ?_
  exact hQ _ _ _ _ _ (Or.inr (Or.inl ⟨_, _, dX10_isNoPerson_27, rfl, by first | rfl | exact nar_bI _, rfl, rfl⟩)) ⟨rfl, rfl⟩
set_option maxRecDepth 100000 in
set_option maxHeartbeats 4000000 in
theorem cz_X10_isNoInterview {l : Launch} {D : va_G} {cI cL cII cO : ClassId} {e0 : Nat} {g : Nat → Nat} {v : Int32} : CtZ l D (TY cI cL cII cO) e0 yX10_isNoInterview (Cond.code yX10_isNoInterview cX10_isNoInterview 2 (some .boolean) :: TBL) ({ frames := 2, cells := 0, slots := 0, locals := 44 } : Room) (MF cI cII e0 g ((nI 0))) [.ref (g 0), .int (v)] (fun r z => r = some (.int (nI 1)) ∧ z = (MF cI cII e0 g ((nI 1)))) := by
  refine CtZ.of [some (.ref (g 0)), some (.int (v))] (by decide) rfl rfl (Nat.le_of_ble_eq_true rfl) rfl (fun κ C ZE hQ => ?_)
  refine V.aload_n C dX10_isNoInterview_0 rfl ?_
  refine V.iload_n C dX10_isNoInterview_1 rfl ?_
  refine V.iconst C (v := nI 0) dX10_isNoInterview_2 (by decide) ?_
  refine V.aload_n C dX10_isNoInterview_3 rfl ?_
  refine V.get C (q0 := 0) (k := 3) rfl rfl (by decide) (iz_X10 _) (List.mem_cons_of_mem _ tw_80) rfl rfl dX10_isNoInterview_4 ?_
  refine V.zVin C ZE (cz_Jx4a65c_size_8abf5 (k := 3) rfl) gz_X10_41 (n := 0) ⟨rfl, by decide, by decide, by decide +kernel⟩ rfl (q0 := 3) rfl rfl rfl ⟨Nat.le_of_ble_eq_true rfl, Nat.le_of_ble_eq_true rfl⟩ ⟨Nat.le_of_ble_eq_true rfl, Nat.le_of_ble_eq_true rfl⟩ (Nat.le_of_ble_eq_true rfl) rfl dX10_isNoInterview_7 ?_
  refine V.iconst C (v := nI 1) dX10_isNoInterview_10 (by decide) ?_
  refine V.isub C dX10_isNoInterview_11 ?_
  refine V.topi (y := -1) (by decide +kernel) ?_
  refine V.zSin C ZE (cz_X10_isIn) gz_X10_45 (n := 3) ⟨by decide, by decide, by decide +kernel⟩ rfl rfl ⟨Nat.le_of_ble_eq_true rfl, Nat.le_of_ble_eq_true rfl⟩ ⟨Nat.le_of_ble_eq_true rfl, Nat.le_of_ble_eq_true rfl⟩ (Nat.le_of_ble_eq_true rfl) rfl dX10_isNoInterview_12 ?_
  refine V.topi (y := nI 0) (isIn_f (neg_split v)) ?_
  refine V.if_ne C (tgt := 22) dX10_isNoInterview_15 (by decide) (fun c15 => ?_) (fun c15 => ?_)
  · exfalso; exact absurd c15 (by decide +kernel)
  refine V.iconst C (v := nI 1) dX10_isNoInterview_18 (by decide) ?_
  refine V.goto C (tgt := 23) dX10_isNoInterview_19 (by decide) ?_
  refine V.iconst C (v := nI 1) dX10_isNoInterview_23 (by decide) ?_
  refine V.zVix C ZE (X := []) (cz_X10_start_t1) (by first | rfl | exact (List.append_nil _).symm) gz_X10_63 (n := 2) ⟨rfl, by decide, by decide, by decide +kernel⟩ rfl (q0 := 0) rfl rfl rfl ⟨Nat.le_of_ble_eq_true rfl, Nat.le_of_ble_eq_true rfl⟩ ⟨Nat.le_of_ble_eq_true rfl, Nat.le_of_ble_eq_true rfl⟩ (Nat.le_of_ble_eq_true rfl) rfl dX10_isNoInterview_24 ?_
  refine V.widen (k := 0) (n := 0) (Nat.le_of_ble_eq_true rfl) (Nat.le_of_ble_eq_true rfl) ?_
  exact hQ _ _ _ _ _ (Or.inr (Or.inl ⟨_, _, dX10_isNoInterview_27, rfl, by first | rfl | exact nar_bI _, rfl, rfl⟩)) ⟨rfl, rfl⟩
set_option maxRecDepth 100000 in
set_option maxHeartbeats 4000000 in
theorem cz_X10_filled {l : Launch} {D : va_G} {cI cL cII cO : ClassId} {e0 : Nat} {g : Nat → Nat} {v : Int32} : CtZ l D (TY cI cL cII cO) e0 yX10_filled (Cond.code yX10_filled cX10_filled 5 (some (.array (.array .int))) :: TBL) ({ frames := 3, cells := 5, slots := 13, locals := 69 } : Room) (MF cI cII e0 g ((nI 0))) [.ref (g 0), .int (v)] (fun r z => ∃ q, r = some (.ref q) ∧ z = (MF cI cII e0 g ((nI 0))) ++ [(q, .inl (cII, 3, .inr (.inr (.inr (.inr (fun i => if i < 3 then some (q + 1 + i) else none)))))), (q + 1, .inl (cI, 2, .inl (fun _ => (0 : Int32)))), (q + 2, .inl (cI, 2, .inl (fun _ => (0 : Int32)))), (q + 3, .inl (cI, 2, .inl (fun _ => (0 : Int32))))]) := by
  refine CtZ.of [some (.ref (g 0)), some (.int (v)), none, none, none] (by decide) rfl rfl (Nat.le_of_ble_eq_true rfl) rfl (fun κ C ZE hQ => ?_)
  refine V.iconst C (v := 3) dX10_filled_0 (by decide) ?_
  refine V.iconst C (v := 2) dX10_filled_1 (by decide) ?_
  refine V.mna C ZE (tI := 0) (tT := 2) rfl rfl (List.mem_cons_of_mem _ tw_82) (List.mem_cons_of_mem _ tw_83) (Nat.le_of_ble_eq_true rfl) (Nat.le_of_ble_eq_true rfl) dX10_filled_2 (fun q1 => ?_)
  refine V.astore_n C dX10_filled_6 (by decide) rfl ?_
  dsimp only [List.set, Fin.val]
  refine V.aload_n C dX10_filled_7 rfl ?_
  refine V.get C (q0 := 0) (k := 3) rfl rfl (by decide) (iz_X10 _) (List.mem_cons_of_mem _ tw_80) rfl rfl dX10_filled_8 ?_
  refine V.reord [3, 0, 1, 2, 4, 5, 6, 7, 8, 9, 10, 11, 12] (w' := [(g 3, .inr (1, [.int (nI 0), .ref e0, .int (nI 0)])), (g 0, .inr (12, [.int (nI 0), .ref (g 1), .ref (g 2), .ref (g 3), .ref (g 5), .ref (g 4), .int (nI 0), .int (nI 0), .int (nI 3), .int (nI 0)])), (g 1, .inr (1, [.int (nI 0), .ref e0, .int (nI 0)])), (g 2, .inr (1, [.int (nI 0), .ref e0, .int (nI 0)])), (g 4, .inr (1, [.int (nI 0), .ref e0, .int (nI 0)])), (g 5, .inl (cII, 3, .inr (.inr (.inr (.inr (fun i => if i < 3 then some (g 5 + 1 + i) else none)))))), (g 5 + 1, .inl (cI, 2, .inl (fun _ => (0 : Int32)))), (g 5 + 2, .inl (cI, 2, .inl (fun _ => (0 : Int32)))), (g 5 + 3, .inl (cI, 2, .inl (fun _ => (0 : Int32)))), (q1, .inl (cII, 3, .inr (.inr (.inr (.inr (fun i => if i < 3 then some (q1 + 1 + i) else none)))))), (q1 + 1, .inl (cI, 2, .inl (fun _ => (0 : Int32)))), (q1 + 2, .inl (cI, 2, .inl (fun _ => (0 : Int32)))), (q1 + 3, .inl (cI, 2, .inl (fun _ => (0 : Int32))))]) rfl (by decide) rfl ?_
  refine V.zVqx C ZE (X := [(g 0, .inr (12, [.int (nI 0), .ref (g 1), .ref (g 2), .ref (g 3), .ref (g 5), .ref (g 4), .int (nI 0), .int (nI 0), .int (nI 3), .int (nI 0)])), (g 1, .inr (1, [.int (nI 0), .ref e0, .int (nI 0)])), (g 2, .inr (1, [.int (nI 0), .ref e0, .int (nI 0)])), (g 4, .inr (1, [.int (nI 0), .ref e0, .int (nI 0)])), (g 5, .inl (cII, 3, .inr (.inr (.inr (.inr (fun i => if i < 3 then some (g 5 + 1 + i) else none)))))), (g 5 + 1, .inl (cI, 2, .inl (fun _ => (0 : Int32)))), (g 5 + 2, .inl (cI, 2, .inl (fun _ => (0 : Int32)))), (g 5 + 3, .inl (cI, 2, .inl (fun _ => (0 : Int32)))), (q1, .inl (cII, 3, .inr (.inr (.inr (.inr (fun i => if i < 3 then some (q1 + 1 + i) else none)))))), (q1 + 1, .inl (cI, 2, .inl (fun _ => (0 : Int32)))), (q1 + 2, .inl (cI, 2, .inl (fun _ => (0 : Int32)))), (q1 + 3, .inl (cI, 2, .inl (fun _ => (0 : Int32))))]) (cz_Jx4a65c_iterator_32c93) rfl gz_X10_109 (n := 0) ⟨rfl, by decide, by decide, by decide +kernel⟩ rfl (q0 := 0) rfl rfl rfl ⟨Nat.le_of_ble_eq_true rfl, Nat.le_of_ble_eq_true rfl⟩ ⟨Nat.le_of_ble_eq_true rfl, Nat.le_of_ble_eq_true rfl⟩ (Nat.le_of_ble_eq_true rfl) rfl dX10_filled_11 (fun q2 => ?_)
  refine V.astore_n C dX10_filled_14 (by decide) rfl ?_
  dsimp only [List.set, Fin.val]
  refine V.aload_n C dX10_filled_15 rfl ?_
  refine V.zFi C ZE (cz_Jx35411_hasNext_aae02 (i := 1) (k := 0) rfl rfl) gz_X10_113 (q0 := 1) rfl rfl ⟨Nat.le_of_ble_eq_true rfl, Nat.le_of_ble_eq_true rfl⟩ ⟨Nat.le_of_ble_eq_true rfl, Nat.le_of_ble_eq_true rfl⟩ (Nat.le_of_ble_eq_true rfl) rfl dX10_filled_16 ?_
  refine V.if_eq C (tgt := 84) dX10_filled_21 (by decide) (fun c21 => ?_) (fun c21 => ?_)
  rotate_left
  · exfalso; exact absurd c21 (by decide +kernel)
  refine V.aload_n C dX10_filled_84 rfl ?_
  refine V.reord [2, 3, 4, 0, 5, 6, 7, 8, 9, 10, 11, 12, 13] (w' := [(g 0, .inr (12, [.int (nI 0), .ref (g 1), .ref (g 2), .ref (g 3), .ref (g 5), .ref (g 4), .int (nI 0), .int (nI 0), .int (nI 3), .int (nI 0)])), (g 1, .inr (1, [.int (nI 0), .ref e0, .int (nI 0)])), (g 2, .inr (1, [.int (nI 0), .ref e0, .int (nI 0)])), (g 3, .inr (1, [.int (nI 0), .ref e0, .int (nI 0)])), (g 4, .inr (1, [.int (nI 0), .ref e0, .int (nI 0)])), (g 5, .inl (cII, 3, .inr (.inr (.inr (.inr (fun i => if i < 3 then some (g 5 + 1 + i) else none)))))), (g 5 + 1, .inl (cI, 2, .inl (fun _ => (0 : Int32)))), (g 5 + 2, .inl (cI, 2, .inl (fun _ => (0 : Int32)))), (g 5 + 3, .inl (cI, 2, .inl (fun _ => (0 : Int32)))), (q1, .inl (cII, 3, .inr (.inr (.inr (.inr (fun i => if i < 3 then some (q1 + 1 + i) else none)))))), (q1 + 1, .inl (cI, 2, .inl (fun _ => (0 : Int32)))), (q1 + 2, .inl (cI, 2, .inl (fun _ => (0 : Int32)))), (q1 + 3, .inl (cI, 2, .inl (fun _ => (0 : Int32))))]) rfl (by decide) rfl ?_
  refine V.widen (k := 5) (n := 13) (Nat.le_of_ble_eq_true rfl) (Nat.le_of_ble_eq_true rfl) ?_
  exact hQ _ _ _ _ _ (Or.inr (Or.inr (Or.inr (Or.inl ⟨_, _, dX10_filled_85, rfl, Or.inr ⟨_, rfl⟩, rfl, rfl⟩)))) ⟨_, rfl, rfl⟩
set_option maxRecDepth 100000 in
set_option maxHeartbeats 4000000 in
theorem cz_X10_sum {l : Launch} {D : va_G} {cI cL cII cO : ClassId} {e0 : Nat} {g : Nat → Nat} : CtZ l D (TY cI cL cII cO) e0 yX10_sum (Cond.code yX10_sum cX10_sum 10 (some .int) :: TBL) ({ frames := 0, cells := 0, slots := 0, locals := 0 } : Room) (MF cI cII e0 g ((nI 0))) [.ref (g 5)] (fun r z => r = some (.int (nI 0)) ∧ z = (MF cI cII e0 g ((nI 0)))) := by
  refine CtZ.of [some (.ref (g 5)), none, none, none, none, none, none, none, none, none] (by decide) rfl rfl (Nat.le_of_ble_eq_true rfl) rfl (fun κ C ZE hQ => ?_)
  refine V.iconst C (v := nI 0) dX10_sum_0 (by decide) ?_
  refine V.istore_n C dX10_sum_1 (by decide) rfl ?_
  dsimp only [List.set, Fin.val]
  refine V.aload_n C dX10_sum_2 rfl ?_
  refine V.astore_n C dX10_sum_3 (by decide) rfl ?_
  dsimp only [List.set, Fin.val]
  refine V.aload_n C dX10_sum_4 rfl ?_
  refine V.alen C (q0 := 5) (t0 := 2) rfl rfl dX10_sum_5 ?_
  refine V.istore_n C dX10_sum_6 (by decide) rfl ?_
  dsimp only [List.set, Fin.val]
  refine V.iconst C (v := nI 0) dX10_sum_7 (by decide) ?_
  refine V.istore C dX10_sum_8 (by decide) rfl ?_
  dsimp only [List.set]
  refine V.iload C dX10_sum_10 rfl ?_
  refine V.iload_n C dX10_sum_12 rfl ?_
  refine V.icmp_ge C (tgt := 65) dX10_sum_13 (by decide) (fun c13 => ?_) (fun c13 => ?_)
  · exfalso; exact absurd c13 (by decide +kernel)
  refine V.aload_n C dX10_sum_16 rfl ?_
  refine V.iload C dX10_sum_17 rfl ?_
  refine V.aaldA C (q0 := 5) (t0 := 2) (j := 0) (r := g 5 + 1) rfl rfl rfl (by decide) (by decide) rfl dX10_sum_19 ?_
  refine V.astore C dX10_sum_20 (by decide) rfl ?_
  dsimp only [List.set]
  refine V.aload C dX10_sum_22 rfl ?_
  refine V.astore C dX10_sum_24 (by decide) rfl ?_
  dsimp only [List.set]
  refine V.aload C dX10_sum_26 rfl ?_
  refine V.alen C (q0 := 6) (t0 := 0) rfl rfl dX10_sum_28 ?_
  refine V.istore C dX10_sum_29 (by decide) rfl ?_
  dsimp only [List.set]
  refine V.iconst C (v := nI 0) dX10_sum_31 (by decide) ?_
  refine V.istore C dX10_sum_32 (by decide) rfl ?_
  dsimp only [List.set]
  refine V.iload C dX10_sum_34 rfl ?_
  refine V.iload C dX10_sum_36 rfl ?_
  refine V.icmp_ge C (tgt := 59) dX10_sum_38 (by decide) (fun c38 => ?_) (fun c38 => ?_)
  · exfalso; exact absurd c38 (by decide +kernel)
  refine V.aload C dX10_sum_41 rfl ?_
  refine V.iload C dX10_sum_43 rfl ?_
  refine V.iald C (q0 := 6) (t0 := 0) rfl rfl rfl (by decide) (by decide) dX10_sum_45 ?_
  refine V.topi (y := nI 0) (by first | rfl | simp [upd, nI_0]) ?_
  refine V.istore C dX10_sum_46 (by decide) rfl ?_
  dsimp only [List.set]
  refine V.iload_n C dX10_sum_48 rfl ?_
  refine V.iload C dX10_sum_49 rfl ?_
  refine V.iadd C dX10_sum_51 ?_
  refine V.topi (y := nI 0) (by decide +kernel) ?_
  refine V.istore_n C dX10_sum_52 (by decide) rfl ?_
  dsimp only [List.set, Fin.val]
  refine V.iinc C (v := nI 1) dX10_sum_53 rfl (by decide +kernel) (by decide) rfl ?_
  dsimp only [List.set]
  refine V.goto C (tgt := 34) dX10_sum_56 (by decide) ?_
  refine V.iload C dX10_sum_34 rfl ?_
  refine V.iload C dX10_sum_36 rfl ?_
  refine V.icmp_ge C (tgt := 59) dX10_sum_38 (by decide) (fun c38 => ?_) (fun c38 => ?_)
  · exfalso; exact absurd c38 (by decide +kernel)
  refine V.aload C dX10_sum_41 rfl ?_
  refine V.iload C dX10_sum_43 rfl ?_
  refine V.iald C (q0 := 6) (t0 := 0) rfl rfl rfl (by decide) (by decide) dX10_sum_45 ?_
  refine V.topi (y := nI 0) (by first | rfl | simp [upd, nI_0]) ?_
  refine V.istore C dX10_sum_46 (by decide) rfl ?_
  dsimp only [List.set]
  refine V.iload_n C dX10_sum_48 rfl ?_
  refine V.iload C dX10_sum_49 rfl ?_
  refine V.iadd C dX10_sum_51 ?_
  refine V.topi (y := nI 0) (by decide +kernel) ?_
  refine V.istore_n C dX10_sum_52 (by decide) rfl ?_
  dsimp only [List.set, Fin.val]
  refine V.iinc C (v := nI 2) dX10_sum_53 rfl (by decide +kernel) (by decide) rfl ?_
  dsimp only [List.set]
  refine V.goto C (tgt := 34) dX10_sum_56 (by decide) ?_
  refine V.iload C dX10_sum_34 rfl ?_
  refine V.iload C dX10_sum_36 rfl ?_
  refine V.icmp_ge C (tgt := 59) dX10_sum_38 (by decide) (fun c38 => ?_) (fun c38 => ?_)
  rotate_left
  · exfalso; exact absurd c38 (by decide +kernel)
  refine V.iinc C (v := nI 1) dX10_sum_59 rfl (by decide +kernel) (by decide) rfl ?_
  dsimp only [List.set]
  refine V.goto C (tgt := 10) dX10_sum_62 (by decide) ?_
  refine V.iload C dX10_sum_10 rfl ?_
  refine V.iload_n C dX10_sum_12 rfl ?_
  refine V.icmp_ge C (tgt := 65) dX10_sum_13 (by decide) (fun c13 => ?_) (fun c13 => ?_)
  · exfalso; exact absurd c13 (by decide +kernel)
  refine V.aload_n C dX10_sum_16 rfl ?_
  refine V.iload C dX10_sum_17 rfl ?_
  refine V.aaldA C (q0 := 5) (t0 := 2) (j := 1) (r := g 5 + 2) rfl rfl rfl (by decide) (by decide) rfl dX10_sum_19 ?_
  refine V.astore C dX10_sum_20 (by decide) rfl ?_
  dsimp only [List.set]
  refine V.aload C dX10_sum_22 rfl ?_
  refine V.astore C dX10_sum_24 (by decide) rfl ?_
  dsimp only [List.set]
  refine V.aload C dX10_sum_26 rfl ?_
  refine V.alen C (q0 := 7) (t0 := 0) rfl rfl dX10_sum_28 ?_
  refine V.istore C dX10_sum_29 (by decide) rfl ?_
  dsimp only [List.set]
  refine V.iconst C (v := nI 0) dX10_sum_31 (by decide) ?_
  refine V.istore C dX10_sum_32 (by decide) rfl ?_
  dsimp only [List.set]
  refine V.iload C dX10_sum_34 rfl ?_
  refine V.iload C dX10_sum_36 rfl ?_
  refine V.icmp_ge C (tgt := 59) dX10_sum_38 (by decide) (fun c38 => ?_) (fun c38 => ?_)
  · exfalso; exact absurd c38 (by decide +kernel)
  refine V.aload C dX10_sum_41 rfl ?_
  refine V.iload C dX10_sum_43 rfl ?_
  refine V.iald C (q0 := 7) (t0 := 0) rfl rfl rfl (by decide) (by decide) dX10_sum_45 ?_
  refine V.topi (y := nI 0) (by first | rfl | simp [upd, nI_0]) ?_
  refine V.istore C dX10_sum_46 (by decide) rfl ?_
  dsimp only [List.set]
  refine V.iload_n C dX10_sum_48 rfl ?_
  refine V.iload C dX10_sum_49 rfl ?_
  refine V.iadd C dX10_sum_51 ?_
  refine V.topi (y := nI 0) (by decide +kernel) ?_
  refine V.istore_n C dX10_sum_52 (by decide) rfl ?_
  dsimp only [List.set, Fin.val]
  refine V.iinc C (v := nI 1) dX10_sum_53 rfl (by decide +kernel) (by decide) rfl ?_
  dsimp only [List.set]
  refine V.goto C (tgt := 34) dX10_sum_56 (by decide) ?_
  refine V.iload C dX10_sum_34 rfl ?_
  refine V.iload C dX10_sum_36 rfl ?_
  refine V.icmp_ge C (tgt := 59) dX10_sum_38 (by decide) (fun c38 => ?_) (fun c38 => ?_)
  · exfalso; exact absurd c38 (by decide +kernel)
  refine V.aload C dX10_sum_41 rfl ?_
  refine V.iload C dX10_sum_43 rfl ?_
  refine V.iald C (q0 := 7) (t0 := 0) rfl rfl rfl (by decide) (by decide) dX10_sum_45 ?_
  refine V.topi (y := nI 0) (by first | rfl | simp [upd, nI_0]) ?_
  refine V.istore C dX10_sum_46 (by decide) rfl ?_
  dsimp only [List.set]
  refine V.iload_n C dX10_sum_48 rfl ?_
  refine V.iload C dX10_sum_49 rfl ?_
  refine V.iadd C dX10_sum_51 ?_
  refine V.topi (y := nI 0) (by decide +kernel) ?_
  refine V.istore_n C dX10_sum_52 (by decide) rfl ?_
  dsimp only [List.set, Fin.val]
  refine V.iinc C (v := nI 2) dX10_sum_53 rfl (by decide +kernel) (by decide) rfl ?_
  dsimp only [List.set]
  refine V.goto C (tgt := 34) dX10_sum_56 (by decide) ?_
  refine V.iload C dX10_sum_34 rfl ?_
  refine V.iload C dX10_sum_36 rfl ?_
  refine V.icmp_ge C (tgt := 59) dX10_sum_38 (by decide) (fun c38 => ?_) (fun c38 => ?_)
  rotate_left
  · exfalso; exact absurd c38 (by decide +kernel)
  refine V.iinc C (v := nI 2) dX10_sum_59 rfl (by decide +kernel) (by decide) rfl ?_
  dsimp only [List.set]
  refine V.goto C (tgt := 10) dX10_sum_62 (by decide) ?_
  refine V.iload C dX10_sum_10 rfl ?_
  refine V.iload_n C dX10_sum_12 rfl ?_
  refine V.icmp_ge C (tgt := 65) dX10_sum_13 (by decide) (fun c13 => ?_) (fun c13 => ?_)
  · exfalso; exact absurd c13 (by decide +kernel)
  refine V.aload_n C dX10_sum_16 rfl ?_
  refine V.iload C dX10_sum_17 rfl ?_
  refine V.aaldA C (q0 := 5) (t0 := 2) (j := 2) (r := g 5 + 3) rfl rfl rfl (by decide) (by decide) rfl dX10_sum_19 ?_
  refine V.astore C dX10_sum_20 (by decide) rfl ?_
  dsimp only [List.set]
  refine V.aload C dX10_sum_22 rfl ?_
  refine V.astore C dX10_sum_24 (by decide) rfl ?_
  dsimp only [List.set]
  refine V.aload C dX10_sum_26 rfl ?_
  refine V.alen C (q0 := 8) (t0 := 0) rfl rfl dX10_sum_28 ?_
  refine V.istore C dX10_sum_29 (by decide) rfl ?_
  dsimp only [List.set]
  refine V.iconst C (v := nI 0) dX10_sum_31 (by decide) ?_
  refine V.istore C dX10_sum_32 (by decide) rfl ?_
  dsimp only [List.set]
  refine V.iload C dX10_sum_34 rfl ?_
  refine V.iload C dX10_sum_36 rfl ?_
  refine V.icmp_ge C (tgt := 59) dX10_sum_38 (by decide) (fun c38 => ?_) (fun c38 => ?_)
  · exfalso; exact absurd c38 (by decide +kernel)
  refine V.aload C dX10_sum_41 rfl ?_
  refine V.iload C dX10_sum_43 rfl ?_
  refine V.iald C (q0 := 8) (t0 := 0) rfl rfl rfl (by decide) (by decide) dX10_sum_45 ?_
  refine V.topi (y := nI 0) (by first | rfl | simp [upd, nI_0]) ?_
  refine V.istore C dX10_sum_46 (by decide) rfl ?_
  dsimp only [List.set]
  refine V.iload_n C dX10_sum_48 rfl ?_
  refine V.iload C dX10_sum_49 rfl ?_
  refine V.iadd C dX10_sum_51 ?_
  refine V.topi (y := nI 0) (by decide +kernel) ?_
  refine V.istore_n C dX10_sum_52 (by decide) rfl ?_
  dsimp only [List.set, Fin.val]
  refine V.iinc C (v := nI 1) dX10_sum_53 rfl (by decide +kernel) (by decide) rfl ?_
  dsimp only [List.set]
  refine V.goto C (tgt := 34) dX10_sum_56 (by decide) ?_
  refine V.iload C dX10_sum_34 rfl ?_
  refine V.iload C dX10_sum_36 rfl ?_
  refine V.icmp_ge C (tgt := 59) dX10_sum_38 (by decide) (fun c38 => ?_) (fun c38 => ?_)
  · exfalso; exact absurd c38 (by decide +kernel)
  refine V.aload C dX10_sum_41 rfl ?_
  refine V.iload C dX10_sum_43 rfl ?_
  refine V.iald C (q0 := 8) (t0 := 0) rfl rfl rfl (by decide) (by decide) dX10_sum_45 ?_
  refine V.topi (y := nI 0) (by first | rfl | simp [upd, nI_0]) ?_
  refine V.istore C dX10_sum_46 (by decide) rfl ?_
  dsimp only [List.set]
  refine V.iload_n C dX10_sum_48 rfl ?_
  refine V.iload C dX10_sum_49 rfl ?_
  refine V.iadd C dX10_sum_51 ?_
  refine V.topi (y := nI 0) (by decide +kernel) ?_
  refine V.istore_n C dX10_sum_52 (by decide) rfl ?_
  dsimp only [List.set, Fin.val]
  refine V.iinc C (v := nI 2) dX10_sum_53 rfl (by decide +kernel) (by decide) rfl ?_
  dsimp only [List.set]
  refine V.goto C (tgt := 34) dX10_sum_56 (by decide) ?_
  refine V.iload C dX10_sum_34 rfl ?_
  refine V.iload C dX10_sum_36 rfl ?_
  refine V.icmp_ge C (tgt := 59) dX10_sum_38 (by decide) (fun c38 => ?_) (fun c38 => ?_)
  rotate_left
  · exfalso; exact absurd c38 (by decide +kernel)
  refine V.iinc C (v := nI 3) dX10_sum_59 rfl (by decide +kernel) (by decide) rfl ?_
  dsimp only [List.set]
  refine V.goto C (tgt := 10) dX10_sum_62 (by decide) ?_
  refine V.iload C dX10_sum_10 rfl ?_
  refine V.iload_n C dX10_sum_12 rfl ?_
  refine V.icmp_ge C (tgt := 65) dX10_sum_13 (by decide) (fun c13 => ?_) (fun c13 => ?_)
  rotate_left
  · exfalso; exact absurd c13 (by decide +kernel)
  refine V.iload_n C dX10_sum_65 rfl ?_
  refine V.widen (k := 0) (n := 0) (Nat.le_of_ble_eq_true rfl) (Nat.le_of_ble_eq_true rfl) ?_
  exact hQ _ _ _ _ _ (Or.inr (Or.inl ⟨_, _, dX10_sum_66, rfl, by first | rfl | exact nar_bI _, rfl, rfl⟩)) ⟨rfl, rfl⟩
set_option maxRecDepth 100000 in
set_option maxHeartbeats 4000000 in
theorem cz_X10_isOpen_00 {l : Launch} {D : va_G} {cI cL cII cO : ClassId} {e0 : Nat} {g : Nat → Nat} {w : va_W} {k q : Nat} (h0 : w[0]? = some (g 0, .inr (12, [.int (nI 0), .ref (g 1), .ref (g 2), .ref (g 3), .ref (g 5), .ref (g 4), .int (nI 0), .int (nI 0), .int (nI 3), .int (nI 0)]))) (h5 : w[5]? = some (g 5, .inl (cII, 3, .inr (.inr (.inr (.inr (fun i => if i < 3 then some (g 5 + 1 + i) else none))))))) (h6 : w[6]? = some (g 5 + 1, .inl (cI, 2, .inl (fun _ => (0 : Int32))))) (f0 : w[k]? = some (q, .inl (cII, 3, .inr (.inr (.inr (.inr (fun i => if i < 3 then some (q + 1 + i) else none))))))) (f1 : w[k + 1]? = some (q + 1, .inl (cI, 2, .inl (fun _ => (0 : Int32))))) : CtZ l D (TY cI cL cII cO) e0 yX10_isOpen (Cond.code yX10_isOpen cX10_isOpen 5 (some .boolean) :: TBL) ({ frames := 0, cells := 0, slots := 0, locals := 0 } : Room) w [.ref (g 0), .ref q, .int (nI 0), .int (nI 0)] (fun r z => r = some (.int (nI 0)) ∧ z = w) := by
  refine CtZ.of [some (.ref (g 0)), some (.ref q), some (.int (nI 0)), some (.int (nI 0)), none] (by decide) rfl rfl (Nat.le_of_ble_eq_true rfl) rfl (fun κ C ZE hQ => ?_)
  refine V.aload_n C dX10_isOpen_0 rfl ?_
  refine V.iload_n C dX10_isOpen_1 rfl ?_
  refine V.aaldA C (q0 := k) (t0 := 2) (j := 0) (r := q + 1) f0 rfl rfl (by decide) (by decide) rfl dX10_isOpen_2 ?_
  refine V.iload_n C dX10_isOpen_3 rfl ?_
  refine V.iald C (q0 := k + 1) (t0 := 0) f1 rfl rfl (by decide) (by decide) dX10_isOpen_4 ?_
  refine V.topi (y := nI 0) (by first | rfl | simp [upd, nI_0]) ?_
  refine V.istore C dX10_isOpen_5 (by decide) rfl ?_
  dsimp only [List.set]
  refine V.iload C dX10_isOpen_7 rfl ?_
  refine V.aload_n C dX10_isOpen_9 rfl ?_
  refine V.get C (q0 := 0) (k := 4) h0 rfl (by decide) (iz_X10 _) (List.mem_cons_of_mem _ tw_92) rfl rfl dX10_isOpen_10 ?_
  refine V.iload_n C dX10_isOpen_13 rfl ?_
  refine V.aaldA C (q0 := 5) (t0 := 2) (j := 0) (r := g 5 + 1) h5 rfl rfl (by decide) (by decide) rfl dX10_isOpen_14 ?_
  refine V.iload_n C dX10_isOpen_15 rfl ?_
  refine V.iald C (q0 := 6) (t0 := 0) h6 rfl rfl (by decide) (by decide) dX10_isOpen_16 ?_
  refine V.topi (y := nI 0) (by first | rfl | simp [upd, nI_0]) ?_
  refine V.icmp_lt C (tgt := 52) dX10_isOpen_17 (by decide) (fun c17 => ?_) (fun c17 => ?_)
  · exfalso; exact absurd c17 (by decide +kernel)
  refine V.iload C dX10_isOpen_20 rfl ?_
  refine V.aload_n C dX10_isOpen_22 rfl ?_
  refine V.get C (q0 := 0) (k := 4) h0 rfl (by decide) (iz_X10 _) (List.mem_cons_of_mem _ tw_92) rfl rfl dX10_isOpen_23 ?_
  refine V.iload_n C dX10_isOpen_26 rfl ?_
  refine V.aaldA C (q0 := 5) (t0 := 2) (j := 0) (r := g 5 + 1) h5 rfl rfl (by decide) (by decide) rfl dX10_isOpen_27 ?_
  refine V.iload_n C dX10_isOpen_28 rfl ?_
  refine V.iald C (q0 := 6) (t0 := 0) h6 rfl rfl (by decide) (by decide) dX10_isOpen_29 ?_
  refine V.topi (y := nI 0) (by first | rfl | simp [upd, nI_0]) ?_
  refine V.aload_n C dX10_isOpen_30 rfl ?_
  refine V.get C (q0 := 0) (k := 7) h0 rfl (by decide) (iz_X10 _) (List.mem_cons_of_mem _ tw_93) rfl rfl dX10_isOpen_31 ?_
  refine V.iadd C dX10_isOpen_34 ?_
  refine V.topi (y := nI 0) (by decide +kernel) ?_
  refine V.icmp_ge C (tgt := 56) dX10_isOpen_35 (by decide) (fun c35 => ?_) (fun c35 => ?_)
  rotate_left
  · exfalso; exact absurd c35 (by decide +kernel)
  refine V.iconst C (v := nI 0) dX10_isOpen_56 (by decide) ?_
  refine V.widen (k := 0) (n := 0) (Nat.le_of_ble_eq_true rfl) (Nat.le_of_ble_eq_true rfl) ?_
  exact hQ _ _ _ _ _ (Or.inr (Or.inl ⟨_, _, dX10_isOpen_57, rfl, by first | rfl | exact nar_bI _, rfl, rfl⟩)) ⟨rfl, rfl⟩
set_option maxRecDepth 100000 in
set_option maxHeartbeats 4000000 in
theorem cz_X10_isOpen_01 {l : Launch} {D : va_G} {cI cL cII cO : ClassId} {e0 : Nat} {g : Nat → Nat} {w : va_W} {k q : Nat} (h0 : w[0]? = some (g 0, .inr (12, [.int (nI 0), .ref (g 1), .ref (g 2), .ref (g 3), .ref (g 5), .ref (g 4), .int (nI 0), .int (nI 0), .int (nI 3), .int (nI 0)]))) (h5 : w[5]? = some (g 5, .inl (cII, 3, .inr (.inr (.inr (.inr (fun i => if i < 3 then some (g 5 + 1 + i) else none))))))) (h6 : w[6]? = some (g 5 + 1, .inl (cI, 2, .inl (fun _ => (0 : Int32))))) (f0 : w[k]? = some (q, .inl (cII, 3, .inr (.inr (.inr (.inr (fun i => if i < 3 then some (q + 1 + i) else none))))))) (f1 : w[k + 1]? = some (q + 1, .inl (cI, 2, .inl (fun _ => (0 : Int32))))) : CtZ l D (TY cI cL cII cO) e0 yX10_isOpen (Cond.code yX10_isOpen cX10_isOpen 5 (some .boolean) :: TBL) ({ frames := 0, cells := 0, slots := 0, locals := 0 } : Room) w [.ref (g 0), .ref q, .int (nI 0), .int (nI 1)] (fun r z => r = some (.int (nI 0)) ∧ z = w) := by
  refine CtZ.of [some (.ref (g 0)), some (.ref q), some (.int (nI 0)), some (.int (nI 1)), none] (by decide) rfl rfl (Nat.le_of_ble_eq_true rfl) rfl (fun κ C ZE hQ => ?_)
  refine V.aload_n C dX10_isOpen_0 rfl ?_
  refine V.iload_n C dX10_isOpen_1 rfl ?_
  refine V.aaldA C (q0 := k) (t0 := 2) (j := 0) (r := q + 1) f0 rfl rfl (by decide) (by decide) rfl dX10_isOpen_2 ?_
  refine V.iload_n C dX10_isOpen_3 rfl ?_
  refine V.iald C (q0 := k + 1) (t0 := 0) f1 rfl rfl (by decide) (by decide) dX10_isOpen_4 ?_
  refine V.topi (y := nI 0) (by first | rfl | simp [upd, nI_0]) ?_
  refine V.istore C dX10_isOpen_5 (by decide) rfl ?_
  dsimp only [List.set]
  refine V.iload C dX10_isOpen_7 rfl ?_
  refine V.aload_n C dX10_isOpen_9 rfl ?_
  refine V.get C (q0 := 0) (k := 4) h0 rfl (by decide) (iz_X10 _) (List.mem_cons_of_mem _ tw_92) rfl rfl dX10_isOpen_10 ?_
  refine V.iload_n C dX10_isOpen_13 rfl ?_
  refine V.aaldA C (q0 := 5) (t0 := 2) (j := 0) (r := g 5 + 1) h5 rfl rfl (by decide) (by decide) rfl dX10_isOpen_14 ?_
  refine V.iload_n C dX10_isOpen_15 rfl ?_
  refine V.iald C (q0 := 6) (t0 := 0) h6 rfl rfl (by decide) (by decide) dX10_isOpen_16 ?_
  refine V.topi (y := nI 0) (by first | rfl | simp [upd, nI_0]) ?_
  refine V.icmp_lt C (tgt := 52) dX10_isOpen_17 (by decide) (fun c17 => ?_) (fun c17 => ?_)
  · exfalso; exact absurd c17 (by decide +kernel)
  refine V.iload C dX10_isOpen_20 rfl ?_
  refine V.aload_n C dX10_isOpen_22 rfl ?_
  refine V.get C (q0 := 0) (k := 4) h0 rfl (by decide) (iz_X10 _) (List.mem_cons_of_mem _ tw_92) rfl rfl dX10_isOpen_23 ?_
  refine V.iload_n C dX10_isOpen_26 rfl ?_
  refine V.aaldA C (q0 := 5) (t0 := 2) (j := 0) (r := g 5 + 1) h5 rfl rfl (by decide) (by decide) rfl dX10_isOpen_27 ?_
  refine V.iload_n C dX10_isOpen_28 rfl ?_
  refine V.iald C (q0 := 6) (t0 := 0) h6 rfl rfl (by decide) (by decide) dX10_isOpen_29 ?_
  refine V.topi (y := nI 0) (by first | rfl | simp [upd, nI_0]) ?_
  refine V.aload_n C dX10_isOpen_30 rfl ?_
  refine V.get C (q0 := 0) (k := 7) h0 rfl (by decide) (iz_X10 _) (List.mem_cons_of_mem _ tw_93) rfl rfl dX10_isOpen_31 ?_
  refine V.iadd C dX10_isOpen_34 ?_
  refine V.topi (y := nI 0) (by decide +kernel) ?_
  refine V.icmp_ge C (tgt := 56) dX10_isOpen_35 (by decide) (fun c35 => ?_) (fun c35 => ?_)
  rotate_left
  · exfalso; exact absurd c35 (by decide +kernel)
  refine V.iconst C (v := nI 0) dX10_isOpen_56 (by decide) ?_
  refine V.widen (k := 0) (n := 0) (Nat.le_of_ble_eq_true rfl) (Nat.le_of_ble_eq_true rfl) ?_
  exact hQ _ _ _ _ _ (Or.inr (Or.inl ⟨_, _, dX10_isOpen_57, rfl, by first | rfl | exact nar_bI _, rfl, rfl⟩)) ⟨rfl, rfl⟩
set_option maxRecDepth 100000 in
set_option maxHeartbeats 4000000 in
theorem cz_X10_isOpen_10 {l : Launch} {D : va_G} {cI cL cII cO : ClassId} {e0 : Nat} {g : Nat → Nat} {w : va_W} {k q : Nat} (h0 : w[0]? = some (g 0, .inr (12, [.int (nI 0), .ref (g 1), .ref (g 2), .ref (g 3), .ref (g 5), .ref (g 4), .int (nI 0), .int (nI 0), .int (nI 3), .int (nI 0)]))) (h5 : w[5]? = some (g 5, .inl (cII, 3, .inr (.inr (.inr (.inr (fun i => if i < 3 then some (g 5 + 1 + i) else none))))))) (h6 : w[7]? = some (g 5 + 2, .inl (cI, 2, .inl (fun _ => (0 : Int32))))) (f0 : w[k]? = some (q, .inl (cII, 3, .inr (.inr (.inr (.inr (fun i => if i < 3 then some (q + 1 + i) else none))))))) (f1 : w[k + 2]? = some (q + 2, .inl (cI, 2, .inl (fun _ => (0 : Int32))))) : CtZ l D (TY cI cL cII cO) e0 yX10_isOpen (Cond.code yX10_isOpen cX10_isOpen 5 (some .boolean) :: TBL) ({ frames := 0, cells := 0, slots := 0, locals := 0 } : Room) w [.ref (g 0), .ref q, .int (nI 1), .int (nI 0)] (fun r z => r = some (.int (nI 0)) ∧ z = w) := by
  refine CtZ.of [some (.ref (g 0)), some (.ref q), some (.int (nI 1)), some (.int (nI 0)), none] (by decide) rfl rfl (Nat.le_of_ble_eq_true rfl) rfl (fun κ C ZE hQ => ?_)
  refine V.aload_n C dX10_isOpen_0 rfl ?_
  refine V.iload_n C dX10_isOpen_1 rfl ?_
  refine V.aaldA C (q0 := k) (t0 := 2) (j := 1) (r := q + 2) f0 rfl rfl (by decide) (by decide) rfl dX10_isOpen_2 ?_
  refine V.iload_n C dX10_isOpen_3 rfl ?_
  refine V.iald C (q0 := k + 2) (t0 := 0) f1 rfl rfl (by decide) (by decide) dX10_isOpen_4 ?_
  refine V.topi (y := nI 0) (by first | rfl | simp [upd, nI_0]) ?_
  refine V.istore C dX10_isOpen_5 (by decide) rfl ?_
  dsimp only [List.set]
  refine V.iload C dX10_isOpen_7 rfl ?_
  refine V.aload_n C dX10_isOpen_9 rfl ?_
  refine V.get C (q0 := 0) (k := 4) h0 rfl (by decide) (iz_X10 _) (List.mem_cons_of_mem _ tw_92) rfl rfl dX10_isOpen_10 ?_
  refine V.iload_n C dX10_isOpen_13 rfl ?_
  refine V.aaldA C (q0 := 5) (t0 := 2) (j := 1) (r := g 5 + 2) h5 rfl rfl (by decide) (by decide) rfl dX10_isOpen_14 ?_
  refine V.iload_n C dX10_isOpen_15 rfl ?_
  refine V.iald C (q0 := 7) (t0 := 0) h6 rfl rfl (by decide) (by decide) dX10_isOpen_16 ?_
  refine V.topi (y := nI 0) (by first | rfl | simp [upd, nI_0]) ?_
  refine V.icmp_lt C (tgt := 52) dX10_isOpen_17 (by decide) (fun c17 => ?_) (fun c17 => ?_)
  · exfalso; exact absurd c17 (by decide +kernel)
  refine V.iload C dX10_isOpen_20 rfl ?_
  refine V.aload_n C dX10_isOpen_22 rfl ?_
  refine V.get C (q0 := 0) (k := 4) h0 rfl (by decide) (iz_X10 _) (List.mem_cons_of_mem _ tw_92) rfl rfl dX10_isOpen_23 ?_
  refine V.iload_n C dX10_isOpen_26 rfl ?_
  refine V.aaldA C (q0 := 5) (t0 := 2) (j := 1) (r := g 5 + 2) h5 rfl rfl (by decide) (by decide) rfl dX10_isOpen_27 ?_
  refine V.iload_n C dX10_isOpen_28 rfl ?_
  refine V.iald C (q0 := 7) (t0 := 0) h6 rfl rfl (by decide) (by decide) dX10_isOpen_29 ?_
  refine V.topi (y := nI 0) (by first | rfl | simp [upd, nI_0]) ?_
  refine V.aload_n C dX10_isOpen_30 rfl ?_
  refine V.get C (q0 := 0) (k := 7) h0 rfl (by decide) (iz_X10 _) (List.mem_cons_of_mem _ tw_93) rfl rfl dX10_isOpen_31 ?_
  refine V.iadd C dX10_isOpen_34 ?_
  refine V.topi (y := nI 0) (by decide +kernel) ?_
  refine V.icmp_ge C (tgt := 56) dX10_isOpen_35 (by decide) (fun c35 => ?_) (fun c35 => ?_)
  rotate_left
  · exfalso; exact absurd c35 (by decide +kernel)
  refine V.iconst C (v := nI 0) dX10_isOpen_56 (by decide) ?_
  refine V.widen (k := 0) (n := 0) (Nat.le_of_ble_eq_true rfl) (Nat.le_of_ble_eq_true rfl) ?_
  exact hQ _ _ _ _ _ (Or.inr (Or.inl ⟨_, _, dX10_isOpen_57, rfl, by first | rfl | exact nar_bI _, rfl, rfl⟩)) ⟨rfl, rfl⟩
set_option maxRecDepth 100000 in
set_option maxHeartbeats 4000000 in
theorem cz_X10_isOpen_11 {l : Launch} {D : va_G} {cI cL cII cO : ClassId} {e0 : Nat} {g : Nat → Nat} {w : va_W} {k q : Nat} (h0 : w[0]? = some (g 0, .inr (12, [.int (nI 0), .ref (g 1), .ref (g 2), .ref (g 3), .ref (g 5), .ref (g 4), .int (nI 0), .int (nI 0), .int (nI 3), .int (nI 0)]))) (h5 : w[5]? = some (g 5, .inl (cII, 3, .inr (.inr (.inr (.inr (fun i => if i < 3 then some (g 5 + 1 + i) else none))))))) (h6 : w[7]? = some (g 5 + 2, .inl (cI, 2, .inl (fun _ => (0 : Int32))))) (f0 : w[k]? = some (q, .inl (cII, 3, .inr (.inr (.inr (.inr (fun i => if i < 3 then some (q + 1 + i) else none))))))) (f1 : w[k + 2]? = some (q + 2, .inl (cI, 2, .inl (fun _ => (0 : Int32))))) : CtZ l D (TY cI cL cII cO) e0 yX10_isOpen (Cond.code yX10_isOpen cX10_isOpen 5 (some .boolean) :: TBL) ({ frames := 0, cells := 0, slots := 0, locals := 0 } : Room) w [.ref (g 0), .ref q, .int (nI 1), .int (nI 1)] (fun r z => r = some (.int (nI 0)) ∧ z = w) := by
  refine CtZ.of [some (.ref (g 0)), some (.ref q), some (.int (nI 1)), some (.int (nI 1)), none] (by decide) rfl rfl (Nat.le_of_ble_eq_true rfl) rfl (fun κ C ZE hQ => ?_)
  refine V.aload_n C dX10_isOpen_0 rfl ?_
  refine V.iload_n C dX10_isOpen_1 rfl ?_
  refine V.aaldA C (q0 := k) (t0 := 2) (j := 1) (r := q + 2) f0 rfl rfl (by decide) (by decide) rfl dX10_isOpen_2 ?_
  refine V.iload_n C dX10_isOpen_3 rfl ?_
  refine V.iald C (q0 := k + 2) (t0 := 0) f1 rfl rfl (by decide) (by decide) dX10_isOpen_4 ?_
  refine V.topi (y := nI 0) (by first | rfl | simp [upd, nI_0]) ?_
  refine V.istore C dX10_isOpen_5 (by decide) rfl ?_
  dsimp only [List.set]
  refine V.iload C dX10_isOpen_7 rfl ?_
  refine V.aload_n C dX10_isOpen_9 rfl ?_
  refine V.get C (q0 := 0) (k := 4) h0 rfl (by decide) (iz_X10 _) (List.mem_cons_of_mem _ tw_92) rfl rfl dX10_isOpen_10 ?_
  refine V.iload_n C dX10_isOpen_13 rfl ?_
  refine V.aaldA C (q0 := 5) (t0 := 2) (j := 1) (r := g 5 + 2) h5 rfl rfl (by decide) (by decide) rfl dX10_isOpen_14 ?_
  refine V.iload_n C dX10_isOpen_15 rfl ?_
  refine V.iald C (q0 := 7) (t0 := 0) h6 rfl rfl (by decide) (by decide) dX10_isOpen_16 ?_
  refine V.topi (y := nI 0) (by first | rfl | simp [upd, nI_0]) ?_
  refine V.icmp_lt C (tgt := 52) dX10_isOpen_17 (by decide) (fun c17 => ?_) (fun c17 => ?_)
  · exfalso; exact absurd c17 (by decide +kernel)
  refine V.iload C dX10_isOpen_20 rfl ?_
  refine V.aload_n C dX10_isOpen_22 rfl ?_
  refine V.get C (q0 := 0) (k := 4) h0 rfl (by decide) (iz_X10 _) (List.mem_cons_of_mem _ tw_92) rfl rfl dX10_isOpen_23 ?_
  refine V.iload_n C dX10_isOpen_26 rfl ?_
  refine V.aaldA C (q0 := 5) (t0 := 2) (j := 1) (r := g 5 + 2) h5 rfl rfl (by decide) (by decide) rfl dX10_isOpen_27 ?_
  refine V.iload_n C dX10_isOpen_28 rfl ?_
  refine V.iald C (q0 := 7) (t0 := 0) h6 rfl rfl (by decide) (by decide) dX10_isOpen_29 ?_
  refine V.topi (y := nI 0) (by first | rfl | simp [upd, nI_0]) ?_
  refine V.aload_n C dX10_isOpen_30 rfl ?_
  refine V.get C (q0 := 0) (k := 7) h0 rfl (by decide) (iz_X10 _) (List.mem_cons_of_mem _ tw_93) rfl rfl dX10_isOpen_31 ?_
  refine V.iadd C dX10_isOpen_34 ?_
  refine V.topi (y := nI 0) (by decide +kernel) ?_
  refine V.icmp_ge C (tgt := 56) dX10_isOpen_35 (by decide) (fun c35 => ?_) (fun c35 => ?_)
  rotate_left
  · exfalso; exact absurd c35 (by decide +kernel)
  refine V.iconst C (v := nI 0) dX10_isOpen_56 (by decide) ?_
  refine V.widen (k := 0) (n := 0) (Nat.le_of_ble_eq_true rfl) (Nat.le_of_ble_eq_true rfl) ?_
  exact hQ _ _ _ _ _ (Or.inr (Or.inl ⟨_, _, dX10_isOpen_57, rfl, by first | rfl | exact nar_bI _, rfl, rfl⟩)) ⟨rfl, rfl⟩
set_option maxRecDepth 100000 in
set_option maxHeartbeats 4000000 in
theorem cz_X10_isOpen_20 {l : Launch} {D : va_G} {cI cL cII cO : ClassId} {e0 : Nat} {g : Nat → Nat} {w : va_W} {k q : Nat} (h0 : w[0]? = some (g 0, .inr (12, [.int (nI 0), .ref (g 1), .ref (g 2), .ref (g 3), .ref (g 5), .ref (g 4), .int (nI 0), .int (nI 0), .int (nI 3), .int (nI 0)]))) (h5 : w[5]? = some (g 5, .inl (cII, 3, .inr (.inr (.inr (.inr (fun i => if i < 3 then some (g 5 + 1 + i) else none))))))) (h6 : w[8]? = some (g 5 + 3, .inl (cI, 2, .inl (fun _ => (0 : Int32))))) (f0 : w[k]? = some (q, .inl (cII, 3, .inr (.inr (.inr (.inr (fun i => if i < 3 then some (q + 1 + i) else none))))))) (f1 : w[k + 3]? = some (q + 3, .inl (cI, 2, .inl (fun _ => (0 : Int32))))) : CtZ l D (TY cI cL cII cO) e0 yX10_isOpen (Cond.code yX10_isOpen cX10_isOpen 5 (some .boolean) :: TBL) ({ frames := 0, cells := 0, slots := 0, locals := 0 } : Room) w [.ref (g 0), .ref q, .int (nI 2), .int (nI 0)] (fun r z => r = some (.int (nI 0)) ∧ z = w) := by
  refine CtZ.of [some (.ref (g 0)), some (.ref q), some (.int (nI 2)), some (.int (nI 0)), none] (by decide) rfl rfl (Nat.le_of_ble_eq_true rfl) rfl (fun κ C ZE hQ => ?_)
  refine V.aload_n C dX10_isOpen_0 rfl ?_
  refine V.iload_n C dX10_isOpen_1 rfl ?_
  refine V.aaldA C (q0 := k) (t0 := 2) (j := 2) (r := q + 3) f0 rfl rfl (by decide) (by decide) rfl dX10_isOpen_2 ?_
  refine V.iload_n C dX10_isOpen_3 rfl ?_
  refine V.iald C (q0 := k + 3) (t0 := 0) f1 rfl rfl (by decide) (by decide) dX10_isOpen_4 ?_
  refine V.topi (y := nI 0) (by first | rfl | simp [upd, nI_0]) ?_
  refine V.istore C dX10_isOpen_5 (by decide) rfl ?_
  dsimp only [List.set]
  refine V.iload C dX10_isOpen_7 rfl ?_
  refine V.aload_n C dX10_isOpen_9 rfl ?_
  refine V.get C (q0 := 0) (k := 4) h0 rfl (by decide) (iz_X10 _) (List.mem_cons_of_mem _ tw_92) rfl rfl dX10_isOpen_10 ?_
  refine V.iload_n C dX10_isOpen_13 rfl ?_
  refine V.aaldA C (q0 := 5) (t0 := 2) (j := 2) (r := g 5 + 3) h5 rfl rfl (by decide) (by decide) rfl dX10_isOpen_14 ?_
  refine V.iload_n C dX10_isOpen_15 rfl ?_
  refine V.iald C (q0 := 8) (t0 := 0) h6 rfl rfl (by decide) (by decide) dX10_isOpen_16 ?_
  refine V.topi (y := nI 0) (by first | rfl | simp [upd, nI_0]) ?_
  refine V.icmp_lt C (tgt := 52) dX10_isOpen_17 (by decide) (fun c17 => ?_) (fun c17 => ?_)
  · exfalso; exact absurd c17 (by decide +kernel)
  refine V.iload C dX10_isOpen_20 rfl ?_
  refine V.aload_n C dX10_isOpen_22 rfl ?_
  refine V.get C (q0 := 0) (k := 4) h0 rfl (by decide) (iz_X10 _) (List.mem_cons_of_mem _ tw_92) rfl rfl dX10_isOpen_23 ?_
  refine V.iload_n C dX10_isOpen_26 rfl ?_
  refine V.aaldA C (q0 := 5) (t0 := 2) (j := 2) (r := g 5 + 3) h5 rfl rfl (by decide) (by decide) rfl dX10_isOpen_27 ?_
  refine V.iload_n C dX10_isOpen_28 rfl ?_
  refine V.iald C (q0 := 8) (t0 := 0) h6 rfl rfl (by decide) (by decide) dX10_isOpen_29 ?_
  refine V.topi (y := nI 0) (by first | rfl | simp [upd, nI_0]) ?_
  refine V.aload_n C dX10_isOpen_30 rfl ?_
  refine V.get C (q0 := 0) (k := 7) h0 rfl (by decide) (iz_X10 _) (List.mem_cons_of_mem _ tw_93) rfl rfl dX10_isOpen_31 ?_
  refine V.iadd C dX10_isOpen_34 ?_
  refine V.topi (y := nI 0) (by decide +kernel) ?_
  refine V.icmp_ge C (tgt := 56) dX10_isOpen_35 (by decide) (fun c35 => ?_) (fun c35 => ?_)
  rotate_left
  · exfalso; exact absurd c35 (by decide +kernel)
  refine V.iconst C (v := nI 0) dX10_isOpen_56 (by decide) ?_
  refine V.widen (k := 0) (n := 0) (Nat.le_of_ble_eq_true rfl) (Nat.le_of_ble_eq_true rfl) ?_
  exact hQ _ _ _ _ _ (Or.inr (Or.inl ⟨_, _, dX10_isOpen_57, rfl, by first | rfl | exact nar_bI _, rfl, rfl⟩)) ⟨rfl, rfl⟩
set_option maxRecDepth 100000 in
set_option maxHeartbeats 4000000 in
theorem cz_X10_isOpen_21 {l : Launch} {D : va_G} {cI cL cII cO : ClassId} {e0 : Nat} {g : Nat → Nat} {w : va_W} {k q : Nat} (h0 : w[0]? = some (g 0, .inr (12, [.int (nI 0), .ref (g 1), .ref (g 2), .ref (g 3), .ref (g 5), .ref (g 4), .int (nI 0), .int (nI 0), .int (nI 3), .int (nI 0)]))) (h5 : w[5]? = some (g 5, .inl (cII, 3, .inr (.inr (.inr (.inr (fun i => if i < 3 then some (g 5 + 1 + i) else none))))))) (h6 : w[8]? = some (g 5 + 3, .inl (cI, 2, .inl (fun _ => (0 : Int32))))) (f0 : w[k]? = some (q, .inl (cII, 3, .inr (.inr (.inr (.inr (fun i => if i < 3 then some (q + 1 + i) else none))))))) (f1 : w[k + 3]? = some (q + 3, .inl (cI, 2, .inl (fun _ => (0 : Int32))))) : CtZ l D (TY cI cL cII cO) e0 yX10_isOpen (Cond.code yX10_isOpen cX10_isOpen 5 (some .boolean) :: TBL) ({ frames := 0, cells := 0, slots := 0, locals := 0 } : Room) w [.ref (g 0), .ref q, .int (nI 2), .int (nI 1)] (fun r z => r = some (.int (nI 0)) ∧ z = w) := by
  refine CtZ.of [some (.ref (g 0)), some (.ref q), some (.int (nI 2)), some (.int (nI 1)), none] (by decide) rfl rfl (Nat.le_of_ble_eq_true rfl) rfl (fun κ C ZE hQ => ?_)
  refine V.aload_n C dX10_isOpen_0 rfl ?_
  refine V.iload_n C dX10_isOpen_1 rfl ?_
  refine V.aaldA C (q0 := k) (t0 := 2) (j := 2) (r := q + 3) f0 rfl rfl (by decide) (by decide) rfl dX10_isOpen_2 ?_
  refine V.iload_n C dX10_isOpen_3 rfl ?_
  refine V.iald C (q0 := k + 3) (t0 := 0) f1 rfl rfl (by decide) (by decide) dX10_isOpen_4 ?_
  refine V.topi (y := nI 0) (by first | rfl | simp [upd, nI_0]) ?_
  refine V.istore C dX10_isOpen_5 (by decide) rfl ?_
  dsimp only [List.set]
  refine V.iload C dX10_isOpen_7 rfl ?_
  refine V.aload_n C dX10_isOpen_9 rfl ?_
  refine V.get C (q0 := 0) (k := 4) h0 rfl (by decide) (iz_X10 _) (List.mem_cons_of_mem _ tw_92) rfl rfl dX10_isOpen_10 ?_
  refine V.iload_n C dX10_isOpen_13 rfl ?_
  refine V.aaldA C (q0 := 5) (t0 := 2) (j := 2) (r := g 5 + 3) h5 rfl rfl (by decide) (by decide) rfl dX10_isOpen_14 ?_
  refine V.iload_n C dX10_isOpen_15 rfl ?_
  refine V.iald C (q0 := 8) (t0 := 0) h6 rfl rfl (by decide) (by decide) dX10_isOpen_16 ?_
  refine V.topi (y := nI 0) (by first | rfl | simp [upd, nI_0]) ?_
  refine V.icmp_lt C (tgt := 52) dX10_isOpen_17 (by decide) (fun c17 => ?_) (fun c17 => ?_)
  · exfalso; exact absurd c17 (by decide +kernel)
  refine V.iload C dX10_isOpen_20 rfl ?_
  refine V.aload_n C dX10_isOpen_22 rfl ?_
  refine V.get C (q0 := 0) (k := 4) h0 rfl (by decide) (iz_X10 _) (List.mem_cons_of_mem _ tw_92) rfl rfl dX10_isOpen_23 ?_
  refine V.iload_n C dX10_isOpen_26 rfl ?_
  refine V.aaldA C (q0 := 5) (t0 := 2) (j := 2) (r := g 5 + 3) h5 rfl rfl (by decide) (by decide) rfl dX10_isOpen_27 ?_
  refine V.iload_n C dX10_isOpen_28 rfl ?_
  refine V.iald C (q0 := 8) (t0 := 0) h6 rfl rfl (by decide) (by decide) dX10_isOpen_29 ?_
  refine V.topi (y := nI 0) (by first | rfl | simp [upd, nI_0]) ?_
  refine V.aload_n C dX10_isOpen_30 rfl ?_
  refine V.get C (q0 := 0) (k := 7) h0 rfl (by decide) (iz_X10 _) (List.mem_cons_of_mem _ tw_93) rfl rfl dX10_isOpen_31 ?_
  refine V.iadd C dX10_isOpen_34 ?_
  refine V.topi (y := nI 0) (by decide +kernel) ?_
  refine V.icmp_ge C (tgt := 56) dX10_isOpen_35 (by decide) (fun c35 => ?_) (fun c35 => ?_)
  rotate_left
  · exfalso; exact absurd c35 (by decide +kernel)
  refine V.iconst C (v := nI 0) dX10_isOpen_56 (by decide) ?_
  refine V.widen (k := 0) (n := 0) (Nat.le_of_ble_eq_true rfl) (Nat.le_of_ble_eq_true rfl) ?_
  exact hQ _ _ _ _ _ (Or.inr (Or.inl ⟨_, _, dX10_isOpen_57, rfl, by first | rfl | exact nar_bI _, rfl, rfl⟩)) ⟨rfl, rfl⟩
set_option maxRecDepth 100000 in
set_option maxHeartbeats 4000000 in
theorem cz_X10_open {l : Launch} {D : va_G} {cI cL cII cO : ClassId} {e0 : Nat} {g : Nat → Nat} {q : Nat} : CtZ l D (TY cI cL cII cO) e0 yX10_open (Cond.code yX10_open cX10_open 5 (some .int) :: TBL) ({ frames := 1, cells := 0, slots := 0, locals := 24 } : Room) ((MF cI cII e0 g ((nI 0))) ++ [(q, .inl (cII, 3, .inr (.inr (.inr (.inr (fun i => if i < 3 then some (q + 1 + i) else none)))))), (q + 1, .inl (cI, 2, .inl (fun _ => (0 : Int32)))), (q + 2, .inl (cI, 2, .inl (fun _ => (0 : Int32)))), (q + 3, .inl (cI, 2, .inl (fun _ => (0 : Int32))))]) [.ref (g 0), .ref q] (fun r z => r = some (.int (nI 0)) ∧ z = (MF cI cII e0 g ((nI 0))) ++ [(q, .inl (cII, 3, .inr (.inr (.inr (.inr (fun i => if i < 3 then some (q + 1 + i) else none)))))), (q + 1, .inl (cI, 2, .inl (fun _ => (0 : Int32)))), (q + 2, .inl (cI, 2, .inl (fun _ => (0 : Int32)))), (q + 3, .inl (cI, 2, .inl (fun _ => (0 : Int32))))]) := by
  refine CtZ.of [some (.ref (g 0)), some (.ref q), none, none, none] (by decide) rfl rfl (Nat.le_of_ble_eq_true rfl) rfl (fun κ C ZE hQ => ?_)
  refine V.iconst C (v := nI 0) dX10_open_0 (by decide) ?_
  refine V.istore_n C dX10_open_1 (by decide) rfl ?_
  dsimp only [List.set, Fin.val]
  refine V.iconst C (v := nI 0) dX10_open_2 (by decide) ?_
  refine V.istore_n C dX10_open_3 (by decide) rfl ?_
  dsimp only [List.set, Fin.val]
  refine V.iload_n C dX10_open_4 rfl ?_
  refine V.iconst C (v := nI 3) dX10_open_5 (by decide) ?_
  refine V.icmp_ge C (tgt := 49) dX10_open_6 (by decide) (fun c6 => ?_) (fun c6 => ?_)
  · exfalso; exact absurd c6 (by decide +kernel)
  refine V.iconst C (v := nI 0) dX10_open_9 (by decide) ?_
  refine V.istore C dX10_open_10 (by decide) rfl ?_
  dsimp only [List.set]
  refine V.iload C dX10_open_12 rfl ?_
  refine V.iconst C (v := nI 2) dX10_open_14 (by decide) ?_
  refine V.icmp_ge C (tgt := 43) dX10_open_15 (by decide) (fun c15 => ?_) (fun c15 => ?_)
  · exfalso; exact absurd c15 (by decide +kernel)
  refine V.iload_n C dX10_open_18 rfl ?_
  refine V.aload_n C dX10_open_19 rfl ?_
  refine V.aload_n C dX10_open_20 rfl ?_
  refine V.iload_n C dX10_open_21 rfl ?_
  refine V.iload C dX10_open_22 rfl ?_
  refine V.zVin C ZE (cz_X10_isOpen_00 (k := 9) rfl rfl rfl rfl rfl) gz_X10_152 (n := 3) ⟨rfl, by decide, by decide, by decide +kernel⟩ rfl (q0 := 0) rfl rfl rfl ⟨Nat.le_of_ble_eq_true rfl, Nat.le_of_ble_eq_true rfl⟩ ⟨Nat.le_of_ble_eq_true rfl, Nat.le_of_ble_eq_true rfl⟩ (Nat.le_of_ble_eq_true rfl) rfl dX10_open_24 ?_
  refine V.if_eq C (tgt := 34) dX10_open_27 (by decide) (fun c27 => ?_) (fun c27 => ?_)
  rotate_left
  · exfalso; exact absurd c27 (by decide +kernel)
  refine V.iconst C (v := nI 0) dX10_open_34 (by decide) ?_
  refine V.iadd C dX10_open_35 ?_
  refine V.topi (y := nI 0) (by decide +kernel) ?_
  refine V.istore_n C dX10_open_36 (by decide) rfl ?_
  dsimp only [List.set, Fin.val]
  refine V.iinc C (v := nI 1) dX10_open_37 rfl (by decide +kernel) (by decide) rfl ?_
  dsimp only [List.set]
  refine V.goto C (tgt := 12) dX10_open_40 (by decide) ?_
  refine V.iload C dX10_open_12 rfl ?_
  refine V.iconst C (v := nI 2) dX10_open_14 (by decide) ?_
  refine V.icmp_ge C (tgt := 43) dX10_open_15 (by decide) (fun c15 => ?_) (fun c15 => ?_)
  · exfalso; exact absurd c15 (by decide +kernel)
  refine V.iload_n C dX10_open_18 rfl ?_
  refine V.aload_n C dX10_open_19 rfl ?_
  refine V.aload_n C dX10_open_20 rfl ?_
  refine V.iload_n C dX10_open_21 rfl ?_
  refine V.iload C dX10_open_22 rfl ?_
  refine V.zVin C ZE (cz_X10_isOpen_01 (k := 9) rfl rfl rfl rfl rfl) gz_X10_152 (n := 3) ⟨rfl, by decide, by decide, by decide +kernel⟩ rfl (q0 := 0) rfl rfl rfl ⟨Nat.le_of_ble_eq_true rfl, Nat.le_of_ble_eq_true rfl⟩ ⟨Nat.le_of_ble_eq_true rfl, Nat.le_of_ble_eq_true rfl⟩ (Nat.le_of_ble_eq_true rfl) rfl dX10_open_24 ?_
  refine V.if_eq C (tgt := 34) dX10_open_27 (by decide) (fun c27 => ?_) (fun c27 => ?_)
  rotate_left
  · exfalso; exact absurd c27 (by decide +kernel)
  refine V.iconst C (v := nI 0) dX10_open_34 (by decide) ?_
  refine V.iadd C dX10_open_35 ?_
  refine V.topi (y := nI 0) (by decide +kernel) ?_
  refine V.istore_n C dX10_open_36 (by decide) rfl ?_
  dsimp only [List.set, Fin.val]
  refine V.iinc C (v := nI 2) dX10_open_37 rfl (by decide +kernel) (by decide) rfl ?_
  dsimp only [List.set]
  refine V.goto C (tgt := 12) dX10_open_40 (by decide) ?_
  refine V.iload C dX10_open_12 rfl ?_
  refine V.iconst C (v := nI 2) dX10_open_14 (by decide) ?_
  refine V.icmp_ge C (tgt := 43) dX10_open_15 (by decide) (fun c15 => ?_) (fun c15 => ?_)
  rotate_left
  · exfalso; exact absurd c15 (by decide +kernel)
  refine V.iinc C (v := nI 1) dX10_open_43 rfl (by decide +kernel) (by decide) rfl ?_
  dsimp only [List.set]
  refine V.goto C (tgt := 4) dX10_open_46 (by decide) ?_
  refine V.iload_n C dX10_open_4 rfl ?_
  refine V.iconst C (v := nI 3) dX10_open_5 (by decide) ?_
  refine V.icmp_ge C (tgt := 49) dX10_open_6 (by decide) (fun c6 => ?_) (fun c6 => ?_)
  · exfalso; exact absurd c6 (by decide +kernel)
  refine V.iconst C (v := nI 0) dX10_open_9 (by decide) ?_
  refine V.istore C dX10_open_10 (by decide) rfl ?_
  dsimp only [List.set]
  refine V.iload C dX10_open_12 rfl ?_
  refine V.iconst C (v := nI 2) dX10_open_14 (by decide) ?_
  refine V.icmp_ge C (tgt := 43) dX10_open_15 (by decide) (fun c15 => ?_) (fun c15 => ?_)
  · exfalso; exact absurd c15 (by decide +kernel)
  refine V.iload_n C dX10_open_18 rfl ?_
  refine V.aload_n C dX10_open_19 rfl ?_
  refine V.aload_n C dX10_open_20 rfl ?_
  refine V.iload_n C dX10_open_21 rfl ?_
  refine V.iload C dX10_open_22 rfl ?_
  refine V.zVin C ZE (cz_X10_isOpen_10 (k := 9) rfl rfl rfl rfl rfl) gz_X10_152 (n := 3) ⟨rfl, by decide, by decide, by decide +kernel⟩ rfl (q0 := 0) rfl rfl rfl ⟨Nat.le_of_ble_eq_true rfl, Nat.le_of_ble_eq_true rfl⟩ ⟨Nat.le_of_ble_eq_true rfl, Nat.le_of_ble_eq_true rfl⟩ (Nat.le_of_ble_eq_true rfl) rfl dX10_open_24 ?_
  refine V.if_eq C (tgt := 34) dX10_open_27 (by decide) (fun c27 => ?_) (fun c27 => ?_)
  rotate_left
  · exfalso; exact absurd c27 (by decide +kernel)
  refine V.iconst C (v := nI 0) dX10_open_34 (by decide) ?_
  refine V.iadd C dX10_open_35 ?_
  refine V.topi (y := nI 0) (by decide +kernel) ?_
  refine V.istore_n C dX10_open_36 (by decide) rfl ?_
  dsimp only [List.set, Fin.val]
  refine V.iinc C (v := nI 1) dX10_open_37 rfl (by decide +kernel) (by decide) rfl ?_
  dsimp only [List.set]
  refine V.goto C (tgt := 12) dX10_open_40 (by decide) ?_
  refine V.iload C dX10_open_12 rfl ?_
  refine V.iconst C (v := nI 2) dX10_open_14 (by decide) ?_
  refine V.icmp_ge C (tgt := 43) dX10_open_15 (by decide) (fun c15 => ?_) (fun c15 => ?_)
  · exfalso; exact absurd c15 (by decide +kernel)
  refine V.iload_n C dX10_open_18 rfl ?_
  refine V.aload_n C dX10_open_19 rfl ?_
  refine V.aload_n C dX10_open_20 rfl ?_
  refine V.iload_n C dX10_open_21 rfl ?_
  refine V.iload C dX10_open_22 rfl ?_
  refine V.zVin C ZE (cz_X10_isOpen_11 (k := 9) rfl rfl rfl rfl rfl) gz_X10_152 (n := 3) ⟨rfl, by decide, by decide, by decide +kernel⟩ rfl (q0 := 0) rfl rfl rfl ⟨Nat.le_of_ble_eq_true rfl, Nat.le_of_ble_eq_true rfl⟩ ⟨Nat.le_of_ble_eq_true rfl, Nat.le_of_ble_eq_true rfl⟩ (Nat.le_of_ble_eq_true rfl) rfl dX10_open_24 ?_
  refine V.if_eq C (tgt := 34) dX10_open_27 (by decide) (fun c27 => ?_) (fun c27 => ?_)
  rotate_left
  · exfalso; exact absurd c27 (by decide +kernel)
  refine V.iconst C (v := nI 0) dX10_open_34 (by decide) ?_
  refine V.iadd C dX10_open_35 ?_
  refine V.topi (y := nI 0) (by decide +kernel) ?_
  refine V.istore_n C dX10_open_36 (by decide) rfl ?_
  dsimp only [List.set, Fin.val]
  refine V.iinc C (v := nI 2) dX10_open_37 rfl (by decide +kernel) (by decide) rfl ?_
  dsimp only [List.set]
  refine V.goto C (tgt := 12) dX10_open_40 (by decide) ?_
  refine V.iload C dX10_open_12 rfl ?_
  refine V.iconst C (v := nI 2) dX10_open_14 (by decide) ?_
  refine V.icmp_ge C (tgt := 43) dX10_open_15 (by decide) (fun c15 => ?_) (fun c15 => ?_)
  rotate_left
  · exfalso; exact absurd c15 (by decide +kernel)
  refine V.iinc C (v := nI 2) dX10_open_43 rfl (by decide +kernel) (by decide) rfl ?_
  dsimp only [List.set]
  refine V.goto C (tgt := 4) dX10_open_46 (by decide) ?_
  refine V.iload_n C dX10_open_4 rfl ?_
  refine V.iconst C (v := nI 3) dX10_open_5 (by decide) ?_
  refine V.icmp_ge C (tgt := 49) dX10_open_6 (by decide) (fun c6 => ?_) (fun c6 => ?_)
  · exfalso; exact absurd c6 (by decide +kernel)
  refine V.iconst C (v := nI 0) dX10_open_9 (by decide) ?_
  refine V.istore C dX10_open_10 (by decide) rfl ?_
  dsimp only [List.set]
  refine V.iload C dX10_open_12 rfl ?_
  refine V.iconst C (v := nI 2) dX10_open_14 (by decide) ?_
  refine V.icmp_ge C (tgt := 43) dX10_open_15 (by decide) (fun c15 => ?_) (fun c15 => ?_)
  · exfalso; exact absurd c15 (by decide +kernel)
  refine V.iload_n C dX10_open_18 rfl ?_
  refine V.aload_n C dX10_open_19 rfl ?_
  refine V.aload_n C dX10_open_20 rfl ?_
  refine V.iload_n C dX10_open_21 rfl ?_
  refine V.iload C dX10_open_22 rfl ?_
  refine V.zVin C ZE (cz_X10_isOpen_20 (k := 9) rfl rfl rfl rfl rfl) gz_X10_152 (n := 3) ⟨rfl, by decide, by decide, by decide +kernel⟩ rfl (q0 := 0) rfl rfl rfl ⟨Nat.le_of_ble_eq_true rfl, Nat.le_of_ble_eq_true rfl⟩ ⟨Nat.le_of_ble_eq_true rfl, Nat.le_of_ble_eq_true rfl⟩ (Nat.le_of_ble_eq_true rfl) rfl dX10_open_24 ?_
  refine V.if_eq C (tgt := 34) dX10_open_27 (by decide) (fun c27 => ?_) (fun c27 => ?_)
  rotate_left
  · exfalso; exact absurd c27 (by decide +kernel)
  refine V.iconst C (v := nI 0) dX10_open_34 (by decide) ?_
  refine V.iadd C dX10_open_35 ?_
  refine V.topi (y := nI 0) (by decide +kernel) ?_
  refine V.istore_n C dX10_open_36 (by decide) rfl ?_
  dsimp only [List.set, Fin.val]
  refine V.iinc C (v := nI 1) dX10_open_37 rfl (by decide +kernel) (by decide) rfl ?_
  dsimp only [List.set]
  refine V.goto C (tgt := 12) dX10_open_40 (by decide) ?_
  refine V.iload C dX10_open_12 rfl ?_
  refine V.iconst C (v := nI 2) dX10_open_14 (by decide) ?_
  refine V.icmp_ge C (tgt := 43) dX10_open_15 (by decide) (fun c15 => ?_) (fun c15 => ?_)
  · exfalso; exact absurd c15 (by decide +kernel)
  refine V.iload_n C dX10_open_18 rfl ?_
  refine V.aload_n C dX10_open_19 rfl ?_
  refine V.aload_n C dX10_open_20 rfl ?_
  refine V.iload_n C dX10_open_21 rfl ?_
  refine V.iload C dX10_open_22 rfl ?_
  refine V.zVin C ZE (cz_X10_isOpen_21 (k := 9) rfl rfl rfl rfl rfl) gz_X10_152 (n := 3) ⟨rfl, by decide, by decide, by decide +kernel⟩ rfl (q0 := 0) rfl rfl rfl ⟨Nat.le_of_ble_eq_true rfl, Nat.le_of_ble_eq_true rfl⟩ ⟨Nat.le_of_ble_eq_true rfl, Nat.le_of_ble_eq_true rfl⟩ (Nat.le_of_ble_eq_true rfl) rfl dX10_open_24 ?_
  refine V.if_eq C (tgt := 34) dX10_open_27 (by decide) (fun c27 => ?_) (fun c27 => ?_)
  rotate_left
  · exfalso; exact absurd c27 (by decide +kernel)
  refine V.iconst C (v := nI 0) dX10_open_34 (by decide) ?_
  refine V.iadd C dX10_open_35 ?_
  refine V.topi (y := nI 0) (by decide +kernel) ?_
  refine V.istore_n C dX10_open_36 (by decide) rfl ?_
  dsimp only [List.set, Fin.val]
  refine V.iinc C (v := nI 2) dX10_open_37 rfl (by decide +kernel) (by decide) rfl ?_
  dsimp only [List.set]
  refine V.goto C (tgt := 12) dX10_open_40 (by decide) ?_
  refine V.iload C dX10_open_12 rfl ?_
  refine V.iconst C (v := nI 2) dX10_open_14 (by decide) ?_
  refine V.icmp_ge C (tgt := 43) dX10_open_15 (by decide) (fun c15 => ?_) (fun c15 => ?_)
  rotate_left
  · exfalso; exact absurd c15 (by decide +kernel)
  refine V.iinc C (v := nI 3) dX10_open_43 rfl (by decide +kernel) (by decide) rfl ?_
  dsimp only [List.set]
  refine V.goto C (tgt := 4) dX10_open_46 (by decide) ?_
  refine V.iload_n C dX10_open_4 rfl ?_
  refine V.iconst C (v := nI 3) dX10_open_5 (by decide) ?_
  refine V.icmp_ge C (tgt := 49) dX10_open_6 (by decide) (fun c6 => ?_) (fun c6 => ?_)
  rotate_left
  · exfalso; exact absurd c6 (by decide +kernel)
  refine V.iload_n C dX10_open_49 rfl ?_
  refine V.widen (k := 0) (n := 0) (Nat.le_of_ble_eq_true rfl) (Nat.le_of_ble_eq_true rfl) ?_
  exact hQ _ _ _ _ _ (Or.inr (Or.inl ⟨_, _, dX10_open_50, rfl, by first | rfl | exact nar_bI _, rfl, rfl⟩)) ⟨rfl, rfl⟩
