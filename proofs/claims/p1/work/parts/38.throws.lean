def TL : List (String × Nat × String) := [(RX6, 60, "a QUESTION has 2 to 5 ANSWERS"), (RX6, 71, "there are 10 QUESTIONS"), (RX6, 89, "a ROUTE goes to a greater number"), (RX6, 99, "no such ROTATION"), (RX6, 114, "no such A, or B"), (RX6, 117, "there are 24 PEOPLE"), (RX6, 126, "a TARGET is 0 to 9"), (RX6, 137, "a SOFT edge is 0 to 3"), (RX6, 157, "what is 0 to 4"), (RX6, 184, "what is 0 to 5"), (RX6, 192, "the PERSON cannot be ASKED"), (RX6, 194, "there are no QUESTIONS"), (RX6, 197, "there were 40 INTERVIEWS"), (RX6, 216, "the INTERVIEW is not RUNNING"), (RX6, 224, "the QUESTION has no such ANSWER"), (RX6, 226, "SECONDS are 1 to 99"), (RX6, 252, "what is 0 to 6"), (RX6, 286, "what is 0 to 11"), (RX6, 302, "a is other"), (RX6, 312, "there are 5 reports"), (RX6, 324, "no such report"), (RX6, 341, "days are 0 to 9"), (RX6, 400, "there was an INTERVIEW"), (RX6, 405, "no such QUESTION"), (RX6, 407, "no such QUESTION, or ANSWER"), (RX6, 409, "no such PERSON"), (RX6, 411, "no such INTERVIEW"), (RX6, 413, "no such A"), (RX6, 415, "ROUNDS are 0 to 9")]
theorem ng_62 : ∀ z ∈ (vx_atS RX6 62 "java/lang/IllegalArgumentException" ["java/lang/RuntimeException", "java/lang/Exception"]).filter (fun z => !goodWord z), z ∈ BL "java/lang/IllegalArgumentException" := by decide +kernel
theorem ng_73 : ∀ z ∈ (vx_atS RX6 73 "java/lang/IllegalStateException" ["java/lang/RuntimeException", "java/lang/Exception"]).filter (fun z => !goodWord z), z ∈ BL "java/lang/IllegalStateException" := by decide +kernel
theorem ng_326 : ∀ z ∈ (vx_atS RX6 326 "java/lang/IndexOutOfBoundsException" ["java/lang/RuntimeException", "java/lang/Exception"]).filter (fun z => !goodWord z), z ∈ BL "java/lang/IndexOutOfBoundsException" := by decide +kernel
theorem ot_58_62 : (Cond.classLink RX6 58 "java/lang/IllegalArgumentException" :: Cond.initialized "java/lang/IllegalArgumentException" :: vx_atS RX6 62 "java/lang/IllegalArgumentException" ["java/lang/RuntimeException", "java/lang/Exception"]).all vx_ot = true := by decide +kernel
theorem ot_69_73 : (Cond.classLink RX6 69 "java/lang/IllegalStateException" :: Cond.initialized "java/lang/IllegalStateException" :: vx_atS RX6 73 "java/lang/IllegalStateException" ["java/lang/RuntimeException", "java/lang/Exception"]).all vx_ot = true := by decide +kernel
theorem ot_322_326 : (Cond.classLink RX6 322 "java/lang/IndexOutOfBoundsException" :: Cond.initialized "java/lang/IndexOutOfBoundsException" :: vx_atS RX6 326 "java/lang/IndexOutOfBoundsException" ["java/lang/RuntimeException", "java/lang/Exception"]).all vx_ot = true := by decide +kernel
theorem jHas_0 (q : Int32) : jHas jInit q = false := by
  unfold jHas
  rw [show jInit 1 0 = 0 from rfl]
  by_cases h : q < 0
  · simp [h]
  · simp [h]
set_option maxRecDepth 100000 in
set_option maxHeartbeats 4000000 in
theorem ct_X6_needQuestion_x {l : Launch} {D : va_G} {tys : List (ClassId × FieldType)} (hfl : l.stackTraces = false) {cI : ClassId} {h : Nat → Nat} (hT : tys[0]? = some (cI, .int)) {q : Int32} : CtX l D tys TL yX6_needQuestion wsX6_needQuestion ({ frames := 6, cells := 1, slots := 6, locals := 82 } : Room) (SW cI h jInit) [.ref (h 0), .int q] "java/lang/IndexOutOfBoundsException" := by
  refine CtX.of hfl [some (.ref (h 0)), some (.int q)] (by decide) rfl rfl (Nat.le_of_ble_eq_true rfl) rfl (fun κ C EE => ?_)
  have iX6 : ∀ z ∈ u_ws RX6 TX6 8, z ∈ wsX6_needQuestion := by decide +kernel
  refine V.aload_n C dX6_needQuestion_0 rfl ?_
  refine V.get C (q0 := 0) (k := 0) rfl rfl (by decide) iX6 (by decide +kernel) rfl rfl dX6_needQuestion_1 ?_
  refine V.iload_n C dX6_needQuestion_4 rfl ?_
  refine V.callVi C (ct_X2_has) gX6_needQuestion_X2_has (n := 1) ⟨rfl, by decide, by decide, by decide +kernel⟩ rfl (q0 := 1) rfl rfl rfl rfl ⟨Nat.le_of_ble_eq_true rfl, Nat.le_of_ble_eq_true rfl⟩ ⟨rfl, rfl, Nat.zero_le _, Nat.zero_le _⟩ (Nat.le_of_ble_eq_true rfl) dX6_needQuestion_5 ?_
  refine V.topi (y := bI false) (by rw [jHas_0]) ?_
  refine V.if_ne C (tgt := 22) dX6_needQuestion_8 (by decide) (fun c_1 => ?_) (fun c_1 => ?_)
  · exfalso
    exact c_1 rfl
  · exact V.throwSW C (ik := 322) (ix := 405) (ic := 326) (text := "no such QUESTION") EE (by decide) (by decide) (by decide +kernel) (by decide +kernel) (by decide +kernel) (by decide +kernel) ng_326 ot_322_326 dX6_needQuestion_11 dX6_needQuestion_14 dX6_needQuestion_15 dX6_needQuestion_18 dX6_needQuestion_21 (Nat.le_of_ble_eq_true rfl) (Nat.le_of_ble_eq_true rfl) (Nat.le_of_ble_eq_true rfl) (Nat.le_of_ble_eq_true rfl)
set_option maxRecDepth 100000 in
set_option maxHeartbeats 4000000 in
theorem ct_X6_needAnswer_x {l : Launch} {D : va_G} {tys : List (ClassId × FieldType)} (hfl : l.stackTraces = false) {cI : ClassId} {h : Nat → Nat} (hT : tys[0]? = some (cI, .int)) {q a : Int32} : CtX l D tys TL yX6_needAnswer wsX6_needAnswer ({ frames := 6, cells := 1, slots := 6, locals := 82 } : Room) (SW cI h jInit) [.ref (h 0), .int q, .int a] "java/lang/IndexOutOfBoundsException" := by
  refine CtX.of hfl [some (.ref (h 0)), some (.int q), some (.int a)] (by decide) rfl rfl (Nat.le_of_ble_eq_true rfl) rfl (fun κ C EE => ?_)
  have iX6 : ∀ z ∈ u_ws RX6 TX6 8, z ∈ wsX6_needAnswer := by decide +kernel
  refine V.aload_n C dX6_needAnswer_0 rfl ?_
  refine V.get C (q0 := 0) (k := 0) rfl rfl (by decide) iX6 (by decide +kernel) rfl rfl dX6_needAnswer_1 ?_
  refine V.iload_n C dX6_needAnswer_4 rfl ?_
  refine V.iload_n C dX6_needAnswer_5 rfl ?_
  refine V.callVi C (ct_X2_offers (j := 0) hT (fun z => by rw [jHas_0] at z; cases z)) gX6_needAnswer_X2_offers (n := 2) ⟨rfl, by decide, by decide, by decide +kernel⟩ rfl (q0 := 1) rfl rfl rfl rfl ⟨Nat.le_of_ble_eq_true rfl, Nat.le_of_ble_eq_true rfl⟩ ⟨rfl, rfl, Nat.zero_le _, Nat.zero_le _⟩ (Nat.le_of_ble_eq_true rfl) dX6_needAnswer_6 ?_
  refine V.topi (y := bI false) (by rw [jHas_0]; rfl) ?_
  refine V.if_ne C (tgt := 23) dX6_needAnswer_9 (by decide) (fun c_1 => ?_) (fun c_1 => ?_)
  · exfalso
    exact c_1 rfl
  · exact V.throwSW C (ik := 322) (ix := 407) (ic := 326) (text := "no such QUESTION, or ANSWER") EE (by decide) (by decide) (by decide +kernel) (by decide +kernel) (by decide +kernel) (by decide +kernel) ng_326 ot_322_326 dX6_needAnswer_12 dX6_needAnswer_15 dX6_needAnswer_16 dX6_needAnswer_19 dX6_needAnswer_22 (Nat.le_of_ble_eq_true rfl) (Nat.le_of_ble_eq_true rfl) (Nat.le_of_ble_eq_true rfl) (Nat.le_of_ble_eq_true rfl)
set_option maxRecDepth 100000 in
set_option maxHeartbeats 4000000 in
theorem ct_X6_needPerson_x {l : Launch} {D : va_G} {tys : List (ClassId × FieldType)} (hfl : l.stackTraces = false) {cI : ClassId} {h : Nat → Nat} (hT : tys[0]? = some (cI, .int)) {x : Int32} : CtX l D tys TL yX6_needPerson wsX6_needPerson ({ frames := 6, cells := 1, slots := 6, locals := 82 } : Room) (SW cI h jInit) [.ref (h 0), .int x] "java/lang/IndexOutOfBoundsException" := by
  refine CtX.of hfl [some (.ref (h 0)), some (.int x)] (by decide) rfl rfl (Nat.le_of_ble_eq_true rfl) rfl (fun κ C EE => ?_)
  have iX6 : ∀ z ∈ u_ws RX6 TX6 8, z ∈ wsX6_needPerson := by decide +kernel
  refine V.iload_n C dX6_needPerson_0 rfl ?_
  refine V.if_lt C (tgt := 15) dX6_needPerson_1 (by decide) (fun c_1 => ?_) (fun c_1 => ?_)
  · exact V.throwSW C (ik := 322) (ix := 409) (ic := 326) (text := "no such PERSON") EE (by decide) (by decide) (by decide +kernel) (by decide +kernel) (by decide +kernel) (by decide +kernel) ng_326 ot_322_326 dX6_needPerson_15 dX6_needPerson_18 dX6_needPerson_19 dX6_needPerson_22 dX6_needPerson_25 (Nat.le_of_ble_eq_true rfl) (Nat.le_of_ble_eq_true rfl) (Nat.le_of_ble_eq_true rfl) (Nat.le_of_ble_eq_true rfl)
  · refine V.iload_n C dX6_needPerson_4 rfl ?_
    refine V.aload_n C dX6_needPerson_5 rfl ?_
    refine V.get C (q0 := 0) (k := 2) rfl rfl (by decide) iX6 (by decide +kernel) rfl rfl dX6_needPerson_6 ?_
    refine V.callVi C (ct_X1_size) gX6_needPerson_X1_size (n := 0) ⟨rfl, by decide, by decide, by decide +kernel⟩ rfl (q0 := 3) rfl rfl rfl rfl ⟨Nat.le_of_ble_eq_true rfl, Nat.le_of_ble_eq_true rfl⟩ ⟨rfl, rfl, Nat.zero_le _, Nat.zero_le _⟩ (Nat.le_of_ble_eq_true rfl) dX6_needPerson_9 ?_
    refine V.topi (y := nI 0) (rfl) ?_
    refine V.icmp_lt C (tgt := 26) dX6_needPerson_12 (by decide) (fun c_2 => ?_) (fun c_2 => ?_)
    · exfalso
      exact absurd c_2 (by assumption)
    · exact V.throwSW C (ik := 322) (ix := 409) (ic := 326) (text := "no such PERSON") EE (by decide) (by decide) (by decide +kernel) (by decide +kernel) (by decide +kernel) (by decide +kernel) ng_326 ot_322_326 dX6_needPerson_15 dX6_needPerson_18 dX6_needPerson_19 dX6_needPerson_22 dX6_needPerson_25 (Nat.le_of_ble_eq_true rfl) (Nat.le_of_ble_eq_true rfl) (Nat.le_of_ble_eq_true rfl) (Nat.le_of_ble_eq_true rfl)
set_option maxRecDepth 100000 in
set_option maxHeartbeats 4000000 in
theorem ct_X6_needInterview_x {l : Launch} {D : va_G} {tys : List (ClassId × FieldType)} (hfl : l.stackTraces = false) {cI : ClassId} {h : Nat → Nat} (hT : tys[0]? = some (cI, .int)) {x : Int32} : CtX l D tys TL yX6_needInterview wsX6_needInterview ({ frames := 6, cells := 1, slots := 6, locals := 82 } : Room) (SW cI h jInit) [.ref (h 0), .int x] "java/lang/IndexOutOfBoundsException" := by
  refine CtX.of hfl [some (.ref (h 0)), some (.int x)] (by decide) rfl rfl (Nat.le_of_ble_eq_true rfl) rfl (fun κ C EE => ?_)
  have iX6 : ∀ z ∈ u_ws RX6 TX6 8, z ∈ wsX6_needInterview := by decide +kernel
  refine V.iload_n C dX6_needInterview_0 rfl ?_
  refine V.if_lt C (tgt := 15) dX6_needInterview_1 (by decide) (fun c_1 => ?_) (fun c_1 => ?_)
  · exact V.throwSW C (ik := 322) (ix := 411) (ic := 326) (text := "no such INTERVIEW") EE (by decide) (by decide) (by decide +kernel) (by decide +kernel) (by decide +kernel) (by decide +kernel) ng_326 ot_322_326 dX6_needInterview_15 dX6_needInterview_18 dX6_needInterview_19 dX6_needInterview_22 dX6_needInterview_25 (Nat.le_of_ble_eq_true rfl) (Nat.le_of_ble_eq_true rfl) (Nat.le_of_ble_eq_true rfl) (Nat.le_of_ble_eq_true rfl)
  · refine V.iload_n C dX6_needInterview_4 rfl ?_
    refine V.aload_n C dX6_needInterview_5 rfl ?_
    refine V.get C (q0 := 0) (k := 3) rfl rfl (by decide) iX6 (by decide +kernel) rfl rfl dX6_needInterview_6 ?_
    refine V.callVi C (ct_X0_size) gX6_needInterview_X0_size (n := 0) ⟨rfl, by decide, by decide, by decide +kernel⟩ rfl (q0 := 4) rfl rfl rfl rfl ⟨Nat.le_of_ble_eq_true rfl, Nat.le_of_ble_eq_true rfl⟩ ⟨rfl, rfl, Nat.zero_le _, Nat.zero_le _⟩ (Nat.le_of_ble_eq_true rfl) dX6_needInterview_9 ?_
    refine V.topi (y := nI 0) (rfl) ?_
    refine V.icmp_lt C (tgt := 26) dX6_needInterview_12 (by decide) (fun c_2 => ?_) (fun c_2 => ?_)
    · exfalso
      exact absurd c_2 (by assumption)
    · exact V.throwSW C (ik := 322) (ix := 411) (ic := 326) (text := "no such INTERVIEW") EE (by decide) (by decide) (by decide +kernel) (by decide +kernel) (by decide +kernel) (by decide +kernel) ng_326 ot_322_326 dX6_needInterview_15 dX6_needInterview_18 dX6_needInterview_19 dX6_needInterview_22 dX6_needInterview_25 (Nat.le_of_ble_eq_true rfl) (Nat.le_of_ble_eq_true rfl) (Nat.le_of_ble_eq_true rfl) (Nat.le_of_ble_eq_true rfl)
set_option maxRecDepth 100000 in
set_option maxHeartbeats 4000000 in
theorem ct_X6_needCell_x {l : Launch} {D : va_G} {tys : List (ClassId × FieldType)} (hfl : l.stackTraces = false) {w : va_W} {a b : Int32} (hx : (!decide (a < 0) && decide (a < nI 3)) = false ∨ (!decide (b < 0) && decide (b < nI 2)) = false) : CtX l D tys TL yX6_needCell wsX6_needCell ({ frames := 6, cells := 1, slots := 6, locals := 82 } : Room) (w) [.int a, .int b] "java/lang/IndexOutOfBoundsException" := by
  refine CtX.of hfl [some (.int a), some (.int b)] (by decide) rfl rfl (Nat.le_of_ble_eq_true rfl) rfl (fun κ C EE => ?_)
  refine V.iload_n C dX6_needCell_0 rfl ?_
  refine V.callSi C (ct_X6_isA) gX6_needCell_X6_isA (n := 1) ⟨rfl, by decide, by decide, by decide +kernel⟩ rfl rfl rfl ⟨Nat.le_of_ble_eq_true rfl, Nat.le_of_ble_eq_true rfl⟩ ⟨rfl, rfl, Nat.zero_le _, Nat.zero_le _⟩ (Nat.le_of_ble_eq_true rfl) dX6_needCell_1 ?_
  refine V.if_eq C (tgt := 14) dX6_needCell_4 (by decide) (fun c_1 => ?_) (fun c_1 => ?_)
  · exact V.throwS C (ik := 322) (ix := 114) (ic := 326) (text := "no such A, or B") EE (by decide) (by decide) (by decide +kernel) (by decide +kernel) (by decide +kernel) (by decide +kernel) ng_326 ot_322_326 dX6_needCell_14 dX6_needCell_17 dX6_needCell_18 dX6_needCell_20 dX6_needCell_23 (Nat.le_of_ble_eq_true rfl) (Nat.le_of_ble_eq_true rfl) (Nat.le_of_ble_eq_true rfl) (Nat.le_of_ble_eq_true rfl)
  · refine V.iload_n C dX6_needCell_7 rfl ?_
    refine V.callSi C (ct_X6_isB) gX6_needCell_X6_isB (n := 1) ⟨rfl, by decide, by decide, by decide +kernel⟩ rfl rfl rfl ⟨Nat.le_of_ble_eq_true rfl, Nat.le_of_ble_eq_true rfl⟩ ⟨rfl, rfl, Nat.zero_le _, Nat.zero_le _⟩ (Nat.le_of_ble_eq_true rfl) dX6_needCell_8 ?_
    refine V.if_ne C (tgt := 24) dX6_needCell_11 (by decide) (fun c_2 => ?_) (fun c_2 => ?_)
    · exfalso
      exact hx.elim (fun z => c_1 (by rw [z]; rfl)) (fun z => c_2 (by rw [z]; rfl))
    · exact V.throwS C (ik := 322) (ix := 114) (ic := 326) (text := "no such A, or B") EE (by decide) (by decide) (by decide +kernel) (by decide +kernel) (by decide +kernel) (by decide +kernel) ng_326 ot_322_326 dX6_needCell_14 dX6_needCell_17 dX6_needCell_18 dX6_needCell_20 dX6_needCell_23 (Nat.le_of_ble_eq_true rfl) (Nat.le_of_ble_eq_true rfl) (Nat.le_of_ble_eq_true rfl) (Nat.le_of_ble_eq_true rfl)
set_option maxRecDepth 100000 in
set_option maxHeartbeats 4000000 in
theorem ct_X6_needRounds_x {l : Launch} {D : va_G} {tys : List (ClassId × FieldType)} (hfl : l.stackTraces = false) {w : va_W} {x : Int32} (hx : x < 0 ∨ nI 9 < x) : CtX l D tys TL yX6_needRounds wsX6_needRounds ({ frames := 6, cells := 1, slots := 6, locals := 82 } : Room) (w) [.int x] "java/lang/IllegalArgumentException" := by
  refine CtX.of hfl [some (.int x)] (by decide) rfl rfl (Nat.le_of_ble_eq_true rfl) rfl (fun κ C EE => ?_)
  refine V.iload_n C dX6_needRounds_0 rfl ?_
  refine V.if_lt C (tgt := 10) dX6_needRounds_1 (by decide) (fun c_1 => ?_) (fun c_1 => ?_)
  · exact V.throwSW C (ik := 58) (ix := 415) (ic := 62) (text := "ROUNDS are 0 to 9") EE (by decide) (by decide) (by decide +kernel) (by decide +kernel) (by decide +kernel) (by decide +kernel) ng_62 ot_58_62 dX6_needRounds_10 dX6_needRounds_13 dX6_needRounds_14 dX6_needRounds_17 dX6_needRounds_20 (Nat.le_of_ble_eq_true rfl) (Nat.le_of_ble_eq_true rfl) (Nat.le_of_ble_eq_true rfl) (Nat.le_of_ble_eq_true rfl)
  · refine V.iload_n C dX6_needRounds_4 rfl ?_
    refine V.bipush C (v := nI 9) dX6_needRounds_5 (by decide) ?_
    refine V.icmp_le C (tgt := 21) dX6_needRounds_7 (by decide) (fun c_2 => ?_) (fun c_2 => ?_)
    · exfalso
      exact hx.elim (fun z => absurd z (by assumption)) (fun z => absurd z c_2)
    · exact V.throwSW C (ik := 58) (ix := 415) (ic := 62) (text := "ROUNDS are 0 to 9") EE (by decide) (by decide) (by decide +kernel) (by decide +kernel) (by decide +kernel) (by decide +kernel) ng_62 ot_58_62 dX6_needRounds_10 dX6_needRounds_13 dX6_needRounds_14 dX6_needRounds_17 dX6_needRounds_20 (Nat.le_of_ble_eq_true rfl) (Nat.le_of_ble_eq_true rfl) (Nat.le_of_ble_eq_true rfl) (Nat.le_of_ble_eq_true rfl)
set_option maxRecDepth 100000 in
set_option maxHeartbeats 4000000 in
theorem ct_X6_question_x {l : Launch} {D : va_G} {tys : List (ClassId × FieldType)} (hfl : l.stackTraces = false) {cI : ClassId} {h : Nat → Nat} (hT : tys[0]? = some (cI, .int)) {x : Int32} (hx : x < nI 2 ∨ nI 5 < x) : CtX l D tys TL yX6_question wsX6_question ({ frames := 6, cells := 1, slots := 6, locals := 82 } : Room) (SW cI h jInit) [.ref (h 0), .int x] "java/lang/IllegalArgumentException" := by
  refine CtX.of hfl [some (.ref (h 0)), some (.int x)] (by decide) rfl rfl (Nat.le_of_ble_eq_true rfl) rfl (fun κ C EE => ?_)
  refine V.iload_n C dX6_question_0 rfl ?_
  refine V.iconst C (v := nI 2) dX6_question_1 (by decide) ?_
  refine V.icmp_lt C (tgt := 10) dX6_question_2 (by decide) (fun c_1 => ?_) (fun c_1 => ?_)
  · exact V.throwS C (ik := 58) (ix := 60) (ic := 62) (text := "a QUESTION has 2 to 5 ANSWERS") EE (by decide) (by decide) (by decide +kernel) (by decide +kernel) (by decide +kernel) (by decide +kernel) ng_62 ot_58_62 dX6_question_10 dX6_question_13 dX6_question_14 dX6_question_16 dX6_question_19 (Nat.le_of_ble_eq_true rfl) (Nat.le_of_ble_eq_true rfl) (Nat.le_of_ble_eq_true rfl) (Nat.le_of_ble_eq_true rfl)
  · refine V.iload_n C dX6_question_5 rfl ?_
    refine V.iconst C (v := nI 5) dX6_question_6 (by decide) ?_
    refine V.icmp_le C (tgt := 20) dX6_question_7 (by decide) (fun c_2 => ?_) (fun c_2 => ?_)
    · exfalso
      exact hx.elim (fun z => absurd z (by assumption)) (fun z => absurd z c_2)
    · exact V.throwS C (ik := 58) (ix := 60) (ic := 62) (text := "a QUESTION has 2 to 5 ANSWERS") EE (by decide) (by decide) (by decide +kernel) (by decide +kernel) (by decide +kernel) (by decide +kernel) ng_62 ot_58_62 dX6_question_10 dX6_question_13 dX6_question_14 dX6_question_16 dX6_question_19 (Nat.le_of_ble_eq_true rfl) (Nat.le_of_ble_eq_true rfl) (Nat.le_of_ble_eq_true rfl) (Nat.le_of_ble_eq_true rfl)
set_option maxRecDepth 100000 in
set_option maxHeartbeats 4000000 in
theorem ct_X6_route_x {l : Launch} {D : va_G} {tys : List (ClassId × FieldType)} (hfl : l.stackTraces = false) {cI : ClassId} {h : Nat → Nat} (hT : tys[0]? = some (cI, .int)) {q a t : Int32} : CtX l D tys TL yX6_route wsX6_route ({ frames := 7, cells := 1, slots := 6, locals := 104 } : Room) (SW cI h jInit) [.ref (h 0), .int q, .int a, .int t] "java/lang/IndexOutOfBoundsException" := by
  refine CtX.of hfl [some (.ref (h 0)), some (.int q), some (.int a), some (.int t), none] (by decide) rfl rfl (Nat.le_of_ble_eq_true rfl) rfl (fun κ C EE => ?_)
  refine V.aload_n C dX6_route_0 rfl ?_
  refine V.iload_n C dX6_route_1 rfl ?_
  refine V.iload_n C dX6_route_2 rfl ?_
  exact V.outV C EE (ct_X6_needAnswer_x hfl hT) gX6_route_X6_needAnswer (n := 2) ⟨rfl, by decide, by decide, by decide +kernel⟩ rfl (q0 := 0) rfl rfl rfl ⟨Nat.le_of_ble_eq_true rfl, Nat.le_of_ble_eq_true rfl⟩ ⟨Nat.le_of_ble_eq_true rfl, Nat.le_of_ble_eq_true rfl⟩ (Nat.le_of_ble_eq_true rfl) rfl dX6_route_3
set_option maxRecDepth 100000 in
set_option maxHeartbeats 4000000 in
theorem ct_X6_rotate_x {l : Launch} {D : va_G} {tys : List (ClassId × FieldType)} (hfl : l.stackTraces = false) {cI : ClassId} {h : Nat → Nat} (hT : tys[0]? = some (cI, .int)) {x : Int32} (hx : x < 0 ∨ nI 0 < x) : CtX l D tys TL yX6_rotate wsX6_rotate ({ frames := 6, cells := 1, slots := 6, locals := 82 } : Room) (SW cI h jInit) [.ref (h 0), .int x] "java/lang/IllegalArgumentException" := by
  refine CtX.of hfl [some (.ref (h 0)), some (.int x), none] (by decide) rfl rfl (Nat.le_of_ble_eq_true rfl) rfl (fun κ C EE => ?_)
  have iX6 : ∀ z ∈ u_ws RX6 TX6 8, z ∈ wsX6_rotate := by decide +kernel
  refine V.iload_n C dX6_rotate_0 rfl ?_
  refine V.if_lt C (tgt := 20) dX6_rotate_1 (by decide) (fun c_1 => ?_) (fun c_1 => ?_)
  · exact V.throwS C (ik := 58) (ix := 99) (ic := 62) (text := "no such ROTATION") EE (by decide) (by decide) (by decide +kernel) (by decide +kernel) (by decide +kernel) (by decide +kernel) ng_62 ot_58_62 dX6_rotate_20 dX6_rotate_23 dX6_rotate_24 dX6_rotate_26 dX6_rotate_29 (Nat.le_of_ble_eq_true rfl) (Nat.le_of_ble_eq_true rfl) (Nat.le_of_ble_eq_true rfl) (Nat.le_of_ble_eq_true rfl)
  · refine V.iload_n C dX6_rotate_4 rfl ?_
    refine V.iconst C (v := nI 3) dX6_rotate_5 (by decide) ?_
    refine V.icmp_gt C (tgt := 20) dX6_rotate_6 (by decide) (fun c_2 => ?_) (fun c_2 => ?_)
    · exact V.throwS C (ik := 58) (ix := 99) (ic := 62) (text := "no such ROTATION") EE (by decide) (by decide) (by decide +kernel) (by decide +kernel) (by decide +kernel) (by decide +kernel) ng_62 ot_58_62 dX6_rotate_20 dX6_rotate_23 dX6_rotate_24 dX6_rotate_26 dX6_rotate_29 (Nat.le_of_ble_eq_true rfl) (Nat.le_of_ble_eq_true rfl) (Nat.le_of_ble_eq_true rfl) (Nat.le_of_ble_eq_true rfl)
    · refine V.iload_n C dX6_rotate_9 rfl ?_
      refine V.aload_n C dX6_rotate_10 rfl ?_
      refine V.get C (q0 := 0) (k := 0) rfl rfl (by decide) iX6 (by decide +kernel) rfl rfl dX6_rotate_11 ?_
      refine V.callVi C (ct_X2_size) gX6_rotate_X2_size (n := 0) ⟨rfl, by decide, by decide, by decide +kernel⟩ rfl (q0 := 1) rfl rfl rfl rfl ⟨Nat.le_of_ble_eq_true rfl, Nat.le_of_ble_eq_true rfl⟩ ⟨rfl, rfl, Nat.zero_le _, Nat.zero_le _⟩ (Nat.le_of_ble_eq_true rfl) dX6_rotate_14 ?_
      refine V.topi (y := nI 0) (rfl) ?_
      refine V.icmp_le C (tgt := 30) dX6_rotate_17 (by decide) (fun c_3 => ?_) (fun c_3 => ?_)
      · exfalso
        exact hx.elim (fun z => absurd z (by assumption)) (fun z => absurd z c_3)
      · exact V.throwS C (ik := 58) (ix := 99) (ic := 62) (text := "no such ROTATION") EE (by decide) (by decide) (by decide +kernel) (by decide +kernel) (by decide +kernel) (by decide +kernel) ng_62 ot_58_62 dX6_rotate_20 dX6_rotate_23 dX6_rotate_24 dX6_rotate_26 dX6_rotate_29 (Nat.le_of_ble_eq_true rfl) (Nat.le_of_ble_eq_true rfl) (Nat.le_of_ble_eq_true rfl) (Nat.le_of_ble_eq_true rfl)
set_option maxRecDepth 100000 in
set_option maxHeartbeats 4000000 in
theorem ct_X6_behind_x {l : Launch} {D : va_G} {tys : List (ClassId × FieldType)} (hfl : l.stackTraces = false) {cI : ClassId} {h : Nat → Nat} (hT : tys[0]? = some (cI, .int)) {q a : Int32} : CtX l D tys TL yX6_behind wsX6_behind ({ frames := 7, cells := 1, slots := 6, locals := 104 } : Room) (SW cI h jInit) [.ref (h 0), .int q, .int a] "java/lang/IndexOutOfBoundsException" := by
  refine CtX.of hfl [some (.ref (h 0)), some (.int q), some (.int a)] (by decide) rfl rfl (Nat.le_of_ble_eq_true rfl) rfl (fun κ C EE => ?_)
  refine V.aload_n C dX6_behind_0 rfl ?_
  refine V.iload_n C dX6_behind_1 rfl ?_
  refine V.iload_n C dX6_behind_2 rfl ?_
  exact V.outV C EE (ct_X6_needAnswer_x hfl hT) gX6_behind_X6_needAnswer (n := 2) ⟨rfl, by decide, by decide, by decide +kernel⟩ rfl (q0 := 0) rfl rfl rfl ⟨Nat.le_of_ble_eq_true rfl, Nat.le_of_ble_eq_true rfl⟩ ⟨Nat.le_of_ble_eq_true rfl, Nat.le_of_ble_eq_true rfl⟩ (Nat.le_of_ble_eq_true rfl) rfl dX6_behind_3
set_option maxRecDepth 100000 in
set_option maxHeartbeats 4000000 in
theorem ct_X6_person_x {l : Launch} {D : va_G} {tys : List (ClassId × FieldType)} (hfl : l.stackTraces = false) {cI : ClassId} {h : Nat → Nat} (hT : tys[0]? = some (cI, .int)) {a b : Int32} (hx : (!decide (a < 0) && decide (a < nI 3)) = false ∨ (!decide (b < 0) && decide (b < nI 2)) = false) : CtX l D tys TL yX6_person wsX6_person ({ frames := 6, cells := 1, slots := 6, locals := 82 } : Room) (SW cI h jInit) [.ref (h 0), .int a, .int b] "java/lang/IllegalArgumentException" := by
  refine CtX.of hfl [some (.ref (h 0)), some (.int a), some (.int b)] (by decide) rfl rfl (Nat.le_of_ble_eq_true rfl) rfl (fun κ C EE => ?_)
  refine V.iload_n C dX6_person_0 rfl ?_
  refine V.callSi C (ct_X6_isA) gX6_person_X6_isA (n := 1) ⟨rfl, by decide, by decide, by decide +kernel⟩ rfl rfl rfl ⟨Nat.le_of_ble_eq_true rfl, Nat.le_of_ble_eq_true rfl⟩ ⟨rfl, rfl, Nat.zero_le _, Nat.zero_le _⟩ (Nat.le_of_ble_eq_true rfl) dX6_person_1 ?_
  refine V.if_eq C (tgt := 14) dX6_person_4 (by decide) (fun c_1 => ?_) (fun c_1 => ?_)
  · exact V.throwS C (ik := 58) (ix := 114) (ic := 62) (text := "no such A, or B") EE (by decide) (by decide) (by decide +kernel) (by decide +kernel) (by decide +kernel) (by decide +kernel) ng_62 ot_58_62 dX6_person_14 dX6_person_17 dX6_person_18 dX6_person_20 dX6_person_23 (Nat.le_of_ble_eq_true rfl) (Nat.le_of_ble_eq_true rfl) (Nat.le_of_ble_eq_true rfl) (Nat.le_of_ble_eq_true rfl)
  · refine V.iload_n C dX6_person_7 rfl ?_
    refine V.callSi C (ct_X6_isB) gX6_person_X6_isB (n := 1) ⟨rfl, by decide, by decide, by decide +kernel⟩ rfl rfl rfl ⟨Nat.le_of_ble_eq_true rfl, Nat.le_of_ble_eq_true rfl⟩ ⟨rfl, rfl, Nat.zero_le _, Nat.zero_le _⟩ (Nat.le_of_ble_eq_true rfl) dX6_person_8 ?_
    refine V.if_ne C (tgt := 24) dX6_person_11 (by decide) (fun c_2 => ?_) (fun c_2 => ?_)
    · exfalso
      exact hx.elim (fun z => c_1 (by rw [z]; rfl)) (fun z => c_2 (by rw [z]; rfl))
    · exact V.throwS C (ik := 58) (ix := 114) (ic := 62) (text := "no such A, or B") EE (by decide) (by decide) (by decide +kernel) (by decide +kernel) (by decide +kernel) (by decide +kernel) ng_62 ot_58_62 dX6_person_14 dX6_person_17 dX6_person_18 dX6_person_20 dX6_person_23 (Nat.le_of_ble_eq_true rfl) (Nat.le_of_ble_eq_true rfl) (Nat.le_of_ble_eq_true rfl) (Nat.le_of_ble_eq_true rfl)
set_option maxRecDepth 100000 in
set_option maxHeartbeats 4000000 in
theorem ct_X6_target_x {l : Launch} {D : va_G} {tys : List (ClassId × FieldType)} (hfl : l.stackTraces = false) {cI : ClassId} {h : Nat → Nat} (hT : tys[0]? = some (cI, .int)) {a b t : Int32} (hx : (!decide (a < 0) && decide (a < nI 3)) = false ∨ (!decide (b < 0) && decide (b < nI 2)) = false) : CtX l D tys TL yX6_target wsX6_target ({ frames := 7, cells := 1, slots := 6, locals := 103 } : Room) (SW cI h jInit) [.ref (h 0), .int a, .int b, .int t] "java/lang/IndexOutOfBoundsException" := by
  refine CtX.of hfl [some (.ref (h 0)), some (.int a), some (.int b), some (.int t), none, none] (by decide) rfl rfl (Nat.le_of_ble_eq_true rfl) rfl (fun κ C EE => ?_)
  refine V.iload_n C dX6_target_0 rfl ?_
  refine V.iload_n C dX6_target_1 rfl ?_
  exact V.outS C EE (ct_X6_needCell_x (w := SW cI h jInit) hfl hx) gX6_target_X6_needCell (n := 2) ⟨rfl, by decide, by decide, by decide +kernel⟩ rfl rfl ⟨Nat.le_of_ble_eq_true rfl, Nat.le_of_ble_eq_true rfl⟩ ⟨Nat.le_of_ble_eq_true rfl, Nat.le_of_ble_eq_true rfl⟩ (Nat.le_of_ble_eq_true rfl) rfl dX6_target_2
set_option maxRecDepth 100000 in
set_option maxHeartbeats 4000000 in
theorem ct_X6_target_x2 {l : Launch} {D : va_G} {tys : List (ClassId × FieldType)} (hfl : l.stackTraces = false) {cI : ClassId} {h : Nat → Nat} (hT : tys[0]? = some (cI, .int)) {a b : Nat} {t : Int32} (ha : a < 3) (hb : b < 2) (hx : t < 0 ∨ nI 9 < t) : CtX l D tys TL yX6_target wsX6_target ({ frames := 6, cells := 1, slots := 6, locals := 82 } : Room) (SW cI h jInit) [.ref (h 0), .int (nI a), .int (nI b), .int t] "java/lang/IllegalArgumentException" := by
  refine CtX.of hfl [some (.ref (h 0)), some (.int (nI a)), some (.int (nI b)), some (.int t), none, none] (by decide) rfl rfl (Nat.le_of_ble_eq_true rfl) rfl (fun κ C EE => ?_)
  refine V.iload_n C dX6_target_0 rfl ?_
  refine V.iload_n C dX6_target_1 rfl ?_
  refine V.callSv C (ct_X6_needCell ha hb) gX6_target_X6_needCell (n := 2) ⟨rfl, by decide, by decide, by decide +kernel⟩ rfl rfl rfl ⟨Nat.le_of_ble_eq_true rfl, Nat.le_of_ble_eq_true rfl⟩ ⟨rfl, rfl, Nat.zero_le _, Nat.zero_le _⟩ (Nat.le_of_ble_eq_true rfl) dX6_target_2 ?_
  refine V.iload_n C dX6_target_5 rfl ?_
  refine V.if_lt C (tgt := 15) dX6_target_6 (by decide) (fun c_1 => ?_) (fun c_1 => ?_)
  · exact V.throwS C (ik := 58) (ix := 126) (ic := 62) (text := "a TARGET is 0 to 9") EE (by decide) (by decide) (by decide +kernel) (by decide +kernel) (by decide +kernel) (by decide +kernel) ng_62 ot_58_62 dX6_target_15 dX6_target_18 dX6_target_19 dX6_target_21 dX6_target_24 (Nat.le_of_ble_eq_true rfl) (Nat.le_of_ble_eq_true rfl) (Nat.le_of_ble_eq_true rfl) (Nat.le_of_ble_eq_true rfl)
  · refine V.iload_n C dX6_target_9 rfl ?_
    refine V.bipush C (v := nI 9) dX6_target_10 (by decide) ?_
    refine V.icmp_le C (tgt := 25) dX6_target_12 (by decide) (fun c_2 => ?_) (fun c_2 => ?_)
    · exfalso
      exact hx.elim (fun z => absurd z (by assumption)) (fun z => absurd z c_2)
    · exact V.throwS C (ik := 58) (ix := 126) (ic := 62) (text := "a TARGET is 0 to 9") EE (by decide) (by decide) (by decide +kernel) (by decide +kernel) (by decide +kernel) (by decide +kernel) ng_62 ot_58_62 dX6_target_15 dX6_target_18 dX6_target_19 dX6_target_21 dX6_target_24 (Nat.le_of_ble_eq_true rfl) (Nat.le_of_ble_eq_true rfl) (Nat.le_of_ble_eq_true rfl) (Nat.le_of_ble_eq_true rfl)
set_option maxRecDepth 100000 in
set_option maxHeartbeats 4000000 in
theorem ct_X6_soft_x {l : Launch} {D : va_G} {tys : List (ClassId × FieldType)} (hfl : l.stackTraces = false) {cI : ClassId} {h : Nat → Nat} (hT : tys[0]? = some (cI, .int)) {x : Int32} (hx : x < 0 ∨ nI 3 < x) : CtX l D tys TL yX6_soft wsX6_soft ({ frames := 6, cells := 1, slots := 6, locals := 82 } : Room) (SW cI h jInit) [.ref (h 0), .int x] "java/lang/IllegalArgumentException" := by
  refine CtX.of hfl [some (.ref (h 0)), some (.int x), none] (by decide) rfl rfl (Nat.le_of_ble_eq_true rfl) rfl (fun κ C EE => ?_)
  refine V.iload_n C dX6_soft_0 rfl ?_
  refine V.if_lt C (tgt := 9) dX6_soft_1 (by decide) (fun c_1 => ?_) (fun c_1 => ?_)
  · exact V.throwS C (ik := 58) (ix := 137) (ic := 62) (text := "a SOFT edge is 0 to 3") EE (by decide) (by decide) (by decide +kernel) (by decide +kernel) (by decide +kernel) (by decide +kernel) ng_62 ot_58_62 dX6_soft_9 dX6_soft_12 dX6_soft_13 dX6_soft_15 dX6_soft_18 (Nat.le_of_ble_eq_true rfl) (Nat.le_of_ble_eq_true rfl) (Nat.le_of_ble_eq_true rfl) (Nat.le_of_ble_eq_true rfl)
  · refine V.iload_n C dX6_soft_4 rfl ?_
    refine V.iconst C (v := nI 3) dX6_soft_5 (by decide) ?_
    refine V.icmp_le C (tgt := 19) dX6_soft_6 (by decide) (fun c_2 => ?_) (fun c_2 => ?_)
    · exfalso
      exact hx.elim (fun z => absurd z (by assumption)) (fun z => absurd z c_2)
    · exact V.throwS C (ik := 58) (ix := 137) (ic := 62) (text := "a SOFT edge is 0 to 3") EE (by decide) (by decide) (by decide +kernel) (by decide +kernel) (by decide +kernel) (by decide +kernel) ng_62 ot_58_62 dX6_soft_9 dX6_soft_12 dX6_soft_13 dX6_soft_15 dX6_soft_18 (Nat.le_of_ble_eq_true rfl) (Nat.le_of_ble_eq_true rfl) (Nat.le_of_ble_eq_true rfl) (Nat.le_of_ble_eq_true rfl)
set_option maxRecDepth 100000 in
set_option maxHeartbeats 4000000 in
theorem ct_X6_ofCell_x {l : Launch} {D : va_G} {tys : List (ClassId × FieldType)} (hfl : l.stackTraces = false) {cI : ClassId} {h : Nat → Nat} (hT : tys[0]? = some (cI, .int)) {a b t : Int32} (hx : (!decide (a < 0) && decide (a < nI 3)) = false ∨ (!decide (b < 0) && decide (b < nI 2)) = false) : CtX l D tys TL yX6_ofCell wsX6_ofCell ({ frames := 7, cells := 1, slots := 6, locals := 103 } : Room) (SW cI h jInit) [.ref (h 0), .int a, .int b, .int t] "java/lang/IndexOutOfBoundsException" := by
  refine CtX.of hfl [some (.ref (h 0)), some (.int a), some (.int b), some (.int t), none] (by decide) rfl rfl (Nat.le_of_ble_eq_true rfl) rfl (fun κ C EE => ?_)
  refine V.iload_n C dX6_ofCell_0 rfl ?_
  refine V.iload_n C dX6_ofCell_1 rfl ?_
  exact V.outS C EE (ct_X6_needCell_x (w := SW cI h jInit) hfl hx) gX6_ofCell_X6_needCell (n := 2) ⟨rfl, by decide, by decide, by decide +kernel⟩ rfl rfl ⟨Nat.le_of_ble_eq_true rfl, Nat.le_of_ble_eq_true rfl⟩ ⟨Nat.le_of_ble_eq_true rfl, Nat.le_of_ble_eq_true rfl⟩ (Nat.le_of_ble_eq_true rfl) rfl dX6_ofCell_2
set_option maxRecDepth 100000 in
set_option maxHeartbeats 4000000 in
theorem ct_X6_ofPerson_x {l : Launch} {D : va_G} {tys : List (ClassId × FieldType)} (hfl : l.stackTraces = false) {cI : ClassId} {h : Nat → Nat} (hT : tys[0]? = some (cI, .int)) {x t : Int32} : CtX l D tys TL yX6_ofPerson wsX6_ofPerson ({ frames := 7, cells := 1, slots := 6, locals := 103 } : Room) (SW cI h jInit) [.ref (h 0), .int x, .int t] "java/lang/IndexOutOfBoundsException" := by
  refine CtX.of hfl [some (.ref (h 0)), some (.int x), some (.int t)] (by decide) rfl rfl (Nat.le_of_ble_eq_true rfl) rfl (fun κ C EE => ?_)
  refine V.aload_n C dX6_ofPerson_0 rfl ?_
  refine V.iload_n C dX6_ofPerson_1 rfl ?_
  exact V.outV C EE (ct_X6_needPerson_x hfl hT) gX6_ofPerson_X6_needPerson (n := 1) ⟨rfl, by decide, by decide, by decide +kernel⟩ rfl (q0 := 0) rfl rfl rfl ⟨Nat.le_of_ble_eq_true rfl, Nat.le_of_ble_eq_true rfl⟩ ⟨Nat.le_of_ble_eq_true rfl, Nat.le_of_ble_eq_true rfl⟩ (Nat.le_of_ble_eq_true rfl) rfl dX6_ofPerson_2
set_option maxRecDepth 100000 in
set_option maxHeartbeats 4000000 in
theorem ct_X6_begin_x {l : Launch} {D : va_G} {tys : List (ClassId × FieldType)} (hfl : l.stackTraces = false) {cI : ClassId} {h : Nat → Nat} (hT : tys[0]? = some (cI, .int)) {x : Int32} : CtX l D tys TL yX6_begin wsX6_begin ({ frames := 7, cells := 1, slots := 6, locals := 103 } : Room) (SW cI h jInit) [.ref (h 0), .int x] "java/lang/IndexOutOfBoundsException" := by
  refine CtX.of hfl [some (.ref (h 0)), some (.int x), none] (by decide) rfl rfl (Nat.le_of_ble_eq_true rfl) rfl (fun κ C EE => ?_)
  refine V.aload_n C dX6_begin_0 rfl ?_
  refine V.iload_n C dX6_begin_1 rfl ?_
  exact V.outV C EE (ct_X6_needPerson_x hfl hT) gX6_begin_X6_needPerson (n := 1) ⟨rfl, by decide, by decide, by decide +kernel⟩ rfl (q0 := 0) rfl rfl rfl ⟨Nat.le_of_ble_eq_true rfl, Nat.le_of_ble_eq_true rfl⟩ ⟨Nat.le_of_ble_eq_true rfl, Nat.le_of_ble_eq_true rfl⟩ (Nat.le_of_ble_eq_true rfl) rfl dX6_begin_2
set_option maxRecDepth 100000 in
set_option maxHeartbeats 4000000 in
theorem ct_X6_answer_x {l : Launch} {D : va_G} {tys : List (ClassId × FieldType)} (hfl : l.stackTraces = false) {cI : ClassId} {h : Nat → Nat} (hT : tys[0]? = some (cI, .int)) {x a t : Int32} : CtX l D tys TL yX6_answer wsX6_answer ({ frames := 7, cells := 1, slots := 6, locals := 103 } : Room) (SW cI h jInit) [.ref (h 0), .int x, .int a, .int t] "java/lang/IndexOutOfBoundsException" := by
  refine CtX.of hfl [some (.ref (h 0)), some (.int x), some (.int a), some (.int t), none, none] (by decide) rfl rfl (Nat.le_of_ble_eq_true rfl) rfl (fun κ C EE => ?_)
  refine V.aload_n C dX6_answer_0 rfl ?_
  refine V.iload_n C dX6_answer_1 rfl ?_
  exact V.outV C EE (ct_X6_needInterview_x hfl hT) gX6_answer_X6_needInterview (n := 1) ⟨rfl, by decide, by decide, by decide +kernel⟩ rfl (q0 := 0) rfl rfl rfl ⟨Nat.le_of_ble_eq_true rfl, Nat.le_of_ble_eq_true rfl⟩ ⟨Nat.le_of_ble_eq_true rfl, Nat.le_of_ble_eq_true rfl⟩ (Nat.le_of_ble_eq_true rfl) rfl dX6_answer_2
set_option maxRecDepth 100000 in
set_option maxHeartbeats 4000000 in
theorem ct_X6_ofInterview_x {l : Launch} {D : va_G} {tys : List (ClassId × FieldType)} (hfl : l.stackTraces = false) {cI : ClassId} {h : Nat → Nat} (hT : tys[0]? = some (cI, .int)) {x t : Int32} : CtX l D tys TL yX6_ofInterview wsX6_ofInterview ({ frames := 7, cells := 1, slots := 6, locals := 103 } : Room) (SW cI h jInit) [.ref (h 0), .int x, .int t] "java/lang/IndexOutOfBoundsException" := by
  refine CtX.of hfl [some (.ref (h 0)), some (.int x), some (.int t)] (by decide) rfl rfl (Nat.le_of_ble_eq_true rfl) rfl (fun κ C EE => ?_)
  refine V.aload_n C dX6_ofInterview_0 rfl ?_
  refine V.iload_n C dX6_ofInterview_1 rfl ?_
  exact V.outV C EE (ct_X6_needInterview_x hfl hT) gX6_ofInterview_X6_needInterview (n := 1) ⟨rfl, by decide, by decide, by decide +kernel⟩ rfl (q0 := 0) rfl rfl rfl ⟨Nat.le_of_ble_eq_true rfl, Nat.le_of_ble_eq_true rfl⟩ ⟨Nat.le_of_ble_eq_true rfl, Nat.le_of_ble_eq_true rfl⟩ (Nat.le_of_ble_eq_true rfl) rfl dX6_ofInterview_2
set_option maxRecDepth 100000 in
set_option maxHeartbeats 4000000 in
theorem ct_X6_given_x {l : Launch} {D : va_G} {tys : List (ClassId × FieldType)} (hfl : l.stackTraces = false) {cI : ClassId} {h : Nat → Nat} (hT : tys[0]? = some (cI, .int)) {x t : Int32} : CtX l D tys TL yX6_given wsX6_given ({ frames := 7, cells := 1, slots := 6, locals := 103 } : Room) (SW cI h jInit) [.ref (h 0), .int x, .int t] "java/lang/IndexOutOfBoundsException" := by
  refine CtX.of hfl [some (.ref (h 0)), some (.int x), some (.int t)] (by decide) rfl rfl (Nat.le_of_ble_eq_true rfl) rfl (fun κ C EE => ?_)
  refine V.aload_n C dX6_given_0 rfl ?_
  refine V.iload_n C dX6_given_1 rfl ?_
  exact V.outV C EE (ct_X6_needInterview_x hfl hT) gX6_given_X6_needInterview (n := 1) ⟨rfl, by decide, by decide, by decide +kernel⟩ rfl (q0 := 0) rfl rfl rfl ⟨Nat.le_of_ble_eq_true rfl, Nat.le_of_ble_eq_true rfl⟩ ⟨Nat.le_of_ble_eq_true rfl, Nat.le_of_ble_eq_true rfl⟩ (Nat.le_of_ble_eq_true rfl) rfl dX6_given_2
set_option maxRecDepth 100000 in
set_option maxHeartbeats 4000000 in
theorem ct_X6_rounds_x {l : Launch} {D : va_G} {tys : List (ClassId × FieldType)} (hfl : l.stackTraces = false) {cI : ClassId} {h : Nat → Nat} (hT : tys[0]? = some (cI, .int)) {x : Int32} (hx : x < 0 ∨ nI 9 < x) : CtX l D tys TL yX6_rounds wsX6_rounds ({ frames := 7, cells := 1, slots := 6, locals := 102 } : Room) (SW cI h jInit) [.ref (h 0), .int x] "java/lang/IllegalArgumentException" := by
  refine CtX.of hfl [some (.ref (h 0)), some (.int x), none] (by decide) rfl rfl (Nat.le_of_ble_eq_true rfl) rfl (fun κ C EE => ?_)
  refine V.iload_n C dX6_rounds_0 rfl ?_
  exact V.outS C EE (ct_X6_needRounds_x (w := SW cI h jInit) hfl hx) gX6_rounds_X6_needRounds (n := 1) ⟨rfl, by decide, by decide, by decide +kernel⟩ rfl rfl ⟨Nat.le_of_ble_eq_true rfl, Nat.le_of_ble_eq_true rfl⟩ ⟨Nat.le_of_ble_eq_true rfl, Nat.le_of_ble_eq_true rfl⟩ (Nat.le_of_ble_eq_true rfl) rfl dX6_rounds_1
set_option maxRecDepth 100000 in
set_option maxHeartbeats 4000000 in
theorem ct_X6_share_x {l : Launch} {D : va_G} {tys : List (ClassId × FieldType)} (hfl : l.stackTraces = false) {cI : ClassId} {h : Nat → Nat} (hT : tys[0]? = some (cI, .int)) {q a t : Int32} : CtX l D tys TL yX6_share wsX6_share ({ frames := 7, cells := 1, slots := 6, locals := 104 } : Room) (SW cI h jInit) [.ref (h 0), .int q, .int a, .int t] "java/lang/IndexOutOfBoundsException" := by
  refine CtX.of hfl [some (.ref (h 0)), some (.int q), some (.int a), some (.int t)] (by decide) rfl rfl (Nat.le_of_ble_eq_true rfl) rfl (fun κ C EE => ?_)
  refine V.aload_n C dX6_share_0 rfl ?_
  refine V.iload_n C dX6_share_1 rfl ?_
  refine V.iload_n C dX6_share_2 rfl ?_
  exact V.outV C EE (ct_X6_needAnswer_x hfl hT) gX6_share_X6_needAnswer (n := 2) ⟨rfl, by decide, by decide, by decide +kernel⟩ rfl (q0 := 0) rfl rfl rfl ⟨Nat.le_of_ble_eq_true rfl, Nat.le_of_ble_eq_true rfl⟩ ⟨Nat.le_of_ble_eq_true rfl, Nat.le_of_ble_eq_true rfl⟩ (Nat.le_of_ble_eq_true rfl) rfl dX6_share_3
set_option maxRecDepth 100000 in
set_option maxHeartbeats 4000000 in
theorem ct_X6_isMarked_x {l : Launch} {D : va_G} {tys : List (ClassId × FieldType)} (hfl : l.stackTraces = false) {cI : ClassId} {h : Nat → Nat} (hT : tys[0]? = some (cI, .int)) {q a t u : Int32} : CtX l D tys TL yX6_isMarked wsX6_isMarked ({ frames := 7, cells := 1, slots := 6, locals := 104 } : Room) (SW cI h jInit) [.ref (h 0), .int q, .int a, .int t, .int u] "java/lang/IndexOutOfBoundsException" := by
  refine CtX.of hfl [some (.ref (h 0)), some (.int q), some (.int a), some (.int t), some (.int u), none, none] (by decide) rfl rfl (Nat.le_of_ble_eq_true rfl) rfl (fun κ C EE => ?_)
  refine V.aload_n C dX6_isMarked_0 rfl ?_
  refine V.iload_n C dX6_isMarked_1 rfl ?_
  refine V.iload_n C dX6_isMarked_2 rfl ?_
  exact V.outV C EE (ct_X6_needAnswer_x hfl hT) gX6_isMarked_X6_needAnswer (n := 2) ⟨rfl, by decide, by decide, by decide +kernel⟩ rfl (q0 := 0) rfl rfl rfl ⟨Nat.le_of_ble_eq_true rfl, Nat.le_of_ble_eq_true rfl⟩ ⟨Nat.le_of_ble_eq_true rfl, Nat.le_of_ble_eq_true rfl⟩ (Nat.le_of_ble_eq_true rfl) rfl dX6_isMarked_3
set_option maxRecDepth 100000 in
set_option maxHeartbeats 4000000 in
theorem ct_X6_held_x {l : Launch} {D : va_G} {tys : List (ClassId × FieldType)} (hfl : l.stackTraces = false) {cI : ClassId} {h : Nat → Nat} (hT : tys[0]? = some (cI, .int)) {r q a : Int32} : CtX l D tys TL yX6_held wsX6_held ({ frames := 6, cells := 1, slots := 6, locals := 82 } : Room) (SW cI h jInit) [.ref (h 0), .int r, .int q, .int a] "java/lang/IndexOutOfBoundsException" := by
  refine CtX.of hfl [some (.ref (h 0)), some (.int r), some (.int q), some (.int a)] (by decide) rfl rfl (Nat.le_of_ble_eq_true rfl) rfl (fun κ C EE => ?_)
  have iX6 : ∀ z ∈ u_ws RX6 TX6 8, z ∈ wsX6_held := by decide +kernel
  refine V.iload_n C dX6_held_0 rfl ?_
  refine V.if_lt C (tgt := 15) dX6_held_1 (by decide) (fun c_1 => ?_) (fun c_1 => ?_)
  · exact V.throwSW C (ik := 322) (ix := 324) (ic := 326) (text := "no such report") EE (by decide) (by decide) (by decide +kernel) (by decide +kernel) (by decide +kernel) (by decide +kernel) ng_326 ot_322_326 dX6_held_15 dX6_held_18 dX6_held_19 dX6_held_22 dX6_held_25 (Nat.le_of_ble_eq_true rfl) (Nat.le_of_ble_eq_true rfl) (Nat.le_of_ble_eq_true rfl) (Nat.le_of_ble_eq_true rfl)
  · refine V.iload_n C dX6_held_4 rfl ?_
    refine V.aload_n C dX6_held_5 rfl ?_
    refine V.get C (q0 := 0) (k := 6) rfl rfl (by decide) iX6 (by decide +kernel) rfl rfl dX6_held_6 ?_
    refine V.callVi C (ct_X4_size) gX6_held_X4_size (n := 0) ⟨rfl, by decide, by decide, by decide +kernel⟩ rfl (q0 := 7) rfl rfl rfl rfl ⟨Nat.le_of_ble_eq_true rfl, Nat.le_of_ble_eq_true rfl⟩ ⟨rfl, rfl, Nat.zero_le _, Nat.zero_le _⟩ (Nat.le_of_ble_eq_true rfl) dX6_held_9 ?_
    refine V.topi (y := nI 0) (rfl) ?_
    refine V.icmp_lt C (tgt := 26) dX6_held_12 (by decide) (fun c_2 => ?_) (fun c_2 => ?_)
    · exfalso
      exact absurd c_2 (by assumption)
    · exact V.throwSW C (ik := 322) (ix := 324) (ic := 326) (text := "no such report") EE (by decide) (by decide) (by decide +kernel) (by decide +kernel) (by decide +kernel) (by decide +kernel) ng_326 ot_322_326 dX6_held_15 dX6_held_18 dX6_held_19 dX6_held_22 dX6_held_25 (Nat.le_of_ble_eq_true rfl) (Nat.le_of_ble_eq_true rfl) (Nat.le_of_ble_eq_true rfl) (Nat.le_of_ble_eq_true rfl)
set_option maxRecDepth 100000 in
set_option maxHeartbeats 4000000 in
theorem ct_X6_nextIn_x {l : Launch} {D : va_G} {tys : List (ClassId × FieldType)} (hfl : l.stackTraces = false) {cI : ClassId} {h : Nat → Nat} (hT : tys[0]? = some (cI, .int)) {x : Int32} (hx : x < 0 ∨ nI 9 < x) : CtX l D tys TL yX6_nextIn wsX6_nextIn ({ frames := 6, cells := 1, slots := 6, locals := 82 } : Room) (SW cI h jInit) [.ref (h 0), .int x] "java/lang/IllegalArgumentException" := by
  refine CtX.of hfl [some (.ref (h 0)), some (.int x)] (by decide) rfl rfl (Nat.le_of_ble_eq_true rfl) rfl (fun κ C EE => ?_)
  refine V.iload_n C dX6_nextIn_0 rfl ?_
  refine V.if_lt C (tgt := 10) dX6_nextIn_1 (by decide) (fun c_1 => ?_) (fun c_1 => ?_)
  · exact V.throwSW C (ik := 58) (ix := 341) (ic := 62) (text := "days are 0 to 9") EE (by decide) (by decide) (by decide +kernel) (by decide +kernel) (by decide +kernel) (by decide +kernel) ng_62 ot_58_62 dX6_nextIn_10 dX6_nextIn_13 dX6_nextIn_14 dX6_nextIn_17 dX6_nextIn_20 (Nat.le_of_ble_eq_true rfl) (Nat.le_of_ble_eq_true rfl) (Nat.le_of_ble_eq_true rfl) (Nat.le_of_ble_eq_true rfl)
  · refine V.iload_n C dX6_nextIn_4 rfl ?_
    refine V.bipush C (v := nI 9) dX6_nextIn_5 (by decide) ?_
    refine V.icmp_le C (tgt := 21) dX6_nextIn_7 (by decide) (fun c_2 => ?_) (fun c_2 => ?_)
    · exfalso
      exact hx.elim (fun z => absurd z (by assumption)) (fun z => absurd z c_2)
    · exact V.throwSW C (ik := 58) (ix := 341) (ic := 62) (text := "days are 0 to 9") EE (by decide) (by decide) (by decide +kernel) (by decide +kernel) (by decide +kernel) (by decide +kernel) ng_62 ot_58_62 dX6_nextIn_10 dX6_nextIn_13 dX6_nextIn_14 dX6_nextIn_17 dX6_nextIn_20 (Nat.le_of_ble_eq_true rfl) (Nat.le_of_ble_eq_true rfl) (Nat.le_of_ble_eq_true rfl) (Nat.le_of_ble_eq_true rfl)
set_option maxRecDepth 100000 in
set_option maxHeartbeats 4000000 in
theorem ct_X6_offWith_x {l : Launch} {D : va_G} {tys : List (ClassId × FieldType)} (hfl : l.stackTraces = false) {cI : ClassId} {h : Nat → Nat} (hT : tys[0]? = some (cI, .int)) {x : Int32} (hx : x < 0 ∨ nI 9 < x) : CtX l D tys TL yX6_offWith wsX6_offWith ({ frames := 7, cells := 1, slots := 6, locals := 102 } : Room) (SW cI h jInit) [.ref (h 0), .int x] "java/lang/IllegalArgumentException" := by
  refine CtX.of hfl [some (.ref (h 0)), some (.int x)] (by decide) rfl rfl (Nat.le_of_ble_eq_true rfl) rfl (fun κ C EE => ?_)
  refine V.iload_n C dX6_offWith_0 rfl ?_
  exact V.outS C EE (ct_X6_needRounds_x (w := SW cI h jInit) hfl hx) gX6_offWith_X6_needRounds (n := 1) ⟨rfl, by decide, by decide, by decide +kernel⟩ rfl rfl ⟨Nat.le_of_ble_eq_true rfl, Nat.le_of_ble_eq_true rfl⟩ ⟨Nat.le_of_ble_eq_true rfl, Nat.le_of_ble_eq_true rfl⟩ (Nat.le_of_ble_eq_true rfl) rfl dX6_offWith_1
set_option maxRecDepth 100000 in
set_option maxHeartbeats 4000000 in
theorem ct_X6_shortest_x {l : Launch} {D : va_G} {tys : List (ClassId × FieldType)} (hfl : l.stackTraces = false) {cI : ClassId} {h : Nat → Nat} (hT : tys[0]? = some (cI, .int)) {q : Int32} : CtX l D tys TL yX6_shortest wsX6_shortest ({ frames := 7, cells := 1, slots := 6, locals := 103 } : Room) (SW cI h jInit) [.ref (h 0), .int q] "java/lang/IndexOutOfBoundsException" := by
  refine CtX.of hfl [some (.ref (h 0)), some (.int q)] (by decide) rfl rfl (Nat.le_of_ble_eq_true rfl) rfl (fun κ C EE => ?_)
  refine V.aload_n C dX6_shortest_0 rfl ?_
  refine V.iload_n C dX6_shortest_1 rfl ?_
  exact V.outV C EE (ct_X6_needQuestion_x hfl hT) gX6_shortest_X6_needQuestion (n := 1) ⟨rfl, by decide, by decide, by decide +kernel⟩ rfl (q0 := 0) rfl rfl rfl ⟨Nat.le_of_ble_eq_true rfl, Nat.le_of_ble_eq_true rfl⟩ ⟨Nat.le_of_ble_eq_true rfl, Nat.le_of_ble_eq_true rfl⟩ (Nat.le_of_ble_eq_true rfl) rfl dX6_shortest_2
