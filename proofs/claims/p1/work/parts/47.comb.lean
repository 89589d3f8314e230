theorem cz_X10_question_ok {l : Launch} {D : va_G} {cI cL cII cO : ClassId} {e0 : Nat} {g : Nat → Nat} {a : Nat} (h2 : 2 ≤ a) (h5 : a ≤ 5) : CtZ l D (TY cI cL cII cO) e0 yX10_question (Cond.code yX10_question cX10_question 2 (some .int) :: TBL) ({ frames := 5, cells := 3, slots := 16, locals := 116 } : Room) (MF cI cII e0 g ((nI 0))) [.ref (g 0), .int (nI a)] (fun r z => ∃ fs, r = some (.int (nI 0)) ∧ z = [(g 0, .inr (12, .int (nI 0) :: fs))]) := by
  rcases (show a = 2 ∨ a = 3 ∨ a = 4 ∨ a = 5 by omega) with rfl | rfl | rfl | rfl
  · exact cz_X10_question_2
  · exact cz_X10_question_3
  · exact cz_X10_question_4
  · exact cz_X10_question_5
theorem cz_X10_ofCell_ok {l : Launch} {D : va_G} {cI cL cII cO : ClassId} {e0 : Nat} {g : Nat → Nat} {a b : Nat} (ha : a < 3) (hb : b < 2) {t : Nat} (hk : t < 5) : CtZ l D (TY cI cL cII cO) e0 yX10_ofCell (Cond.code yX10_ofCell cX10_ofCell 4 (some .int) :: TBL) ({ frames := 5, cells := 5, slots := 13, locals := 119 } : Room) (MF cI cII e0 g ((nI 0))) [.ref (g 0), .int (nI a), .int (nI b), .int (nI t)] (fun r z => ∃ fs, r = some (.int (nI 0)) ∧ z = [(g 0, .inr (12, .int (nI 0) :: fs))]) := by
  rcases (show a = 0 ∨ a = 1 ∨ a = 2 by omega) with rfl | rfl | rfl <;> rcases (show b = 0 ∨ b = 1 by omega) with rfl | rfl
  · exact cz_X10_ofCell_00 hk
  · exact cz_X10_ofCell_01 hk
  · exact cz_X10_ofCell_10 hk
  · exact cz_X10_ofCell_11 hk
  · exact cz_X10_ofCell_20 hk
  · exact cz_X10_ofCell_21 hk
theorem cz_X10_ofCell_x2 {l : Launch} {D : va_G} {cI cL cII cO : ClassId} {e0 : Nat} {g : Nat → Nat} {a b : Nat} (ha : a < 3) (hb : b < 2) {x : Int32} (hx : x < nI 0 ∨ nI 4 < x) : CtZ l D (TY cI cL cII cO) e0 yX10_ofCell (Cond.code yX10_ofCell cX10_ofCell 4 (some .int) :: TBL) ({ frames := 2, cells := 0, slots := 0, locals := 44 } : Room) (MF cI cII e0 g ((nI 0))) [.ref (g 0), .int (nI a), .int (nI b), .int (x)] (fun r z => ∃ fs, r = some (.int (nI 0)) ∧ z = [(g 0, .inr (12, .int (nI 2) :: fs))]) := by
  rcases (show a = 0 ∨ a = 1 ∨ a = 2 by omega) with rfl | rfl | rfl <;> rcases (show b = 0 ∨ b = 1 by omega) with rfl | rfl
  · exact cz_X10_ofCell_x00 hx
  · exact cz_X10_ofCell_x01 hx
  · exact cz_X10_ofCell_x10 hx
  · exact cz_X10_ofCell_x11 hx
  · exact cz_X10_ofCell_x20 hx
  · exact cz_X10_ofCell_x21 hx
theorem cz_X10_target_ok {l : Launch} {D : va_G} {cI cL cII cO : ClassId} {e0 : Nat} {g : Nat → Nat} {a b : Nat} (ha : a < 3) (hb : b < 2) {t : Nat} (ht : t ≤ 9) : CtZ l D (TY cI cL cII cO) e0 yX10_target (Cond.code yX10_target cX10_target 5 (some .int) :: TBL) ({ frames := 2, cells := 0, slots := 0, locals := 44 } : Room) (MF cI cII e0 g ((nI 0))) [.ref (g 0), .int (nI a), .int (nI b), .int (nI t)] (fun r z => ∃ fs, r = some (.int (nI 0)) ∧ z = [(g 0, .inr (12, .int (nI 0) :: fs))]) := by
  rcases (show a = 0 ∨ a = 1 ∨ a = 2 by omega) with rfl | rfl | rfl <;> rcases (show b = 0 ∨ b = 1 by omega) with rfl | rfl
  · exact cz_X10_target_00 ht
  · exact cz_X10_target_01 ht
  · exact cz_X10_target_10 ht
  · exact cz_X10_target_11 ht
  · exact cz_X10_target_20 ht
  · exact cz_X10_target_21 ht
theorem cz_X10_target_x2 {l : Launch} {D : va_G} {cI cL cII cO : ClassId} {e0 : Nat} {g : Nat → Nat} {a b : Nat} (ha : a < 3) (hb : b < 2) {x : Int32} (hx : x < nI 0 ∨ nI 9 < x) : CtZ l D (TY cI cL cII cO) e0 yX10_target (Cond.code yX10_target cX10_target 5 (some .int) :: TBL) ({ frames := 2, cells := 0, slots := 0, locals := 44 } : Room) (MF cI cII e0 g ((nI 0))) [.ref (g 0), .int (nI a), .int (nI b), .int (x)] (fun r z => ∃ fs, r = some (.int (nI 0)) ∧ z = [(g 0, .inr (12, .int (nI 2) :: fs))]) := by
  rcases (show a = 0 ∨ a = 1 ∨ a = 2 by omega) with rfl | rfl | rfl <;> rcases (show b = 0 ∨ b = 1 by omega) with rfl | rfl
  · exact cz_X10_target_x00 hx
  · exact cz_X10_target_x01 hx
  · exact cz_X10_target_x10 hx
  · exact cz_X10_target_x11 hx
  · exact cz_X10_target_x20 hx
  · exact cz_X10_target_x21 hx
