theorem sw_out {t : Int32} {n : Nat} (hn : n < 2 ^ 31) (h : t < nI 0 ∨ nI n < t) : t.toInt < 0 ∨ (n : Int) < t.toInt := by
  rcases h with h | h
  · exact Or.inl (by have := Int32.lt_iff_toInt_lt.mp h; rw [nI_toInt (by decide)] at this; exact this)
  · exact Or.inr (by have := Int32.lt_iff_toInt_lt.mp h; rw [nI_toInt hn] at this; exact this)
theorem nc_a {x : Int32} (h : x < nI 0 ∨ nI 2 < x) : (!decide (x < 0) && decide (x < nI 3)) = false := by
  rcases h with h | h
  · have h0 : x < 0 := h
    simp [h0]
  · have h3 : ¬ x < nI 3 := fun z => by
      have a1 := Int32.lt_iff_toInt_lt.mp z
      have a2 := Int32.lt_iff_toInt_lt.mp h
      rw [nI_toInt (by decide)] at a1 a2
      omega
    simp [h3]
theorem nc_b {x : Int32} (h : x < nI 0 ∨ nI 1 < x) : (!decide (x < 0) && decide (x < nI 2)) = false := by
  rcases h with h | h
  · have h0 : x < 0 := h
    simp [h0]
  · have h3 : ¬ x < nI 2 := fun z => by
      have a1 := Int32.lt_iff_toInt_lt.mp z
      have a2 := Int32.lt_iff_toInt_lt.mp h
      rw [nI_toInt (by decide)] at a1 a2
      omega
    simp [h3]
theorem rng {x : Int32} {lo hi : Nat} (hl : lo < 2 ^ 31) (hh : hi < 2 ^ 31) (h : ¬ (x < nI lo ∨ nI hi < x)) : ∃ a : Nat, lo ≤ a ∧ a ≤ hi ∧ x = nI a := by
  have h1 : ¬ x < nI lo := fun z => h (Or.inl z)
  have h2 : ¬ nI hi < x := fun z => h (Or.inr z)
  have h0 : ¬ x < 0 := fun z => h1 (by
    have a1 := Int32.lt_iff_toInt_lt.mp z
    refine Int32.lt_iff_toInt_lt.mpr ?_
    rw [nI_toInt hl]
    have e0 : (0 : Int32).toInt = 0 := by decide
    omega)
  obtain ⟨j, hj, rfl⟩ := nI_of h0
  refine ⟨j, ?_, ?_, rfl⟩
  · exact Nat.not_lt.mp (fun z => h1 (nI_lt z hl))
  · exact Nat.not_lt.mp (fun z => h2 (nI_lt z hj))
theorem jJ_cell : ∀ c, c < 6 → ∀ k, k < 5 → jOfCell jInit 0 c k = nI 0 := by decide +kernel
theorem jJ_many : ∀ k, k < 12 → jMany jInit 0 0 k = nI 0 := by decide +kernel
theorem jJ_offw : ∀ a, a < 10 → jFar (jWeigh jInit 25 0 a) 25 0 5 = nI 0 := by decide +kernel
theorem jJ_tgt : ∀ c, c < 6 → jInit 11 c = nI 0 := by decide +kernel
set_option maxRecDepth 100000 in
set_option maxHeartbeats 4000000 in
theorem ct_X6_ofCell_x2 {l : Launch} {D : va_G} {tys : List (ClassId × FieldType)} (hfl : l.stackTraces = false) {cI : ClassId} {h : Nat → Nat} (hT : tys[0]? = some (cI, .int)) {a b : Nat} {x : Int32} (ha : a < 3) (hb : b < 2) (hx : x < nI 0 ∨ nI 4 < x) : CtX l D tys TL yX6_ofCell wsX6_ofCell ({ frames := 6, cells := 1, slots := 6, locals := 82 } : Room) (SW cI h jInit) [.ref (h 0), .int (nI a), .int (nI b), .int x] "java/lang/IllegalArgumentException" := by
  refine CtX.of hfl [some (.ref (h 0)), some (.int (nI a)), some (.int (nI b)), some (.int x), none] (by decide) rfl rfl (Nat.le_of_ble_eq_true rfl) rfl (fun κ C EE => ?_)
  refine V.iload_n C dX6_ofCell_0 rfl ?_
  refine V.iload_n C dX6_ofCell_1 rfl ?_
  refine V.callSv C (ct_X6_needCell ha hb) gX6_ofCell_X6_needCell (n := 2) ⟨rfl, by decide, by decide, by decide +kernel⟩ rfl rfl rfl ⟨Nat.le_of_ble_eq_true rfl, Nat.le_of_ble_eq_true rfl⟩ ⟨rfl, rfl, Nat.zero_le _, Nat.zero_le _⟩ (Nat.le_of_ble_eq_true rfl) dX6_ofCell_2 ?_
  refine V.iload_n C dX6_ofCell_5 rfl ?_
  refine V.iload_n C dX6_ofCell_6 rfl ?_
  refine V.callSi C (ct_X6_cellAt) gX6_ofCell_X6_cellAt (n := 2) ⟨rfl, by decide, by decide, by decide +kernel⟩ rfl rfl rfl ⟨Nat.le_of_ble_eq_true rfl, Nat.le_of_ble_eq_true rfl⟩ ⟨rfl, rfl, Nat.zero_le _, Nat.zero_le _⟩ (Nat.le_of_ble_eq_true rfl) dX6_ofCell_7 ?_
  refine V.istore C dX6_ofCell_10 (by decide) rfl ?_
  dsimp only [List.set]
  refine V.iload_n C dX6_ofCell_12 rfl ?_
  refine V.tableOut C (tgt := 103) dX6_ofCell_13 (sw_out (by decide) hx) (by decide) ?_
  exact V.throwS C (ik := 58) (ix := 157) (ic := 62) (text := "what is 0 to 4") EE (by decide) (by decide) (by decide +kernel) (by decide +kernel) (by decide +kernel) (by decide +kernel) ng_62 ot_58_62 dX6_ofCell_103 dX6_ofCell_106 dX6_ofCell_107 dX6_ofCell_109 dX6_ofCell_112 (Nat.le_of_ble_eq_true rfl) (Nat.le_of_ble_eq_true rfl) (Nat.le_of_ble_eq_true rfl) (Nat.le_of_ble_eq_true rfl)
set_option maxRecDepth 100000 in
set_option maxHeartbeats 4000000 in
theorem ct_X6_many_x {l : Launch} {D : va_G} {tys : List (ClassId × FieldType)} (hfl : l.stackTraces = false) {cI : ClassId} {h : Nat → Nat} (hT : tys[0]? = some (cI, .int)) {x : Int32} (hx : x < nI 0 ∨ nI 11 < x) : CtX l D tys TL yX6_many wsX6_many ({ frames := 6, cells := 1, slots := 6, locals := 82 } : Room) (SW cI h jInit) [.ref (h 0), .int x] "java/lang/IllegalArgumentException" := by
  refine CtX.of hfl [some (.ref (h 0)), some (.int x)] (by decide) rfl rfl (Nat.le_of_ble_eq_true rfl) rfl (fun κ C EE => ?_)
  refine V.iload_n C dX6_many_0 rfl ?_
  refine V.tableOut C (tgt := 161) dX6_many_1 (sw_out (by decide) hx) (by decide) ?_
  exact V.throwSW C (ik := 58) (ix := 286) (ic := 62) (text := "what is 0 to 11") EE (by decide) (by decide) (by decide +kernel) (by decide +kernel) (by decide +kernel) (by decide +kernel) ng_62 ot_58_62 dX6_many_161 dX6_many_164 dX6_many_165 dX6_many_168 dX6_many_171 (Nat.le_of_ble_eq_true rfl) (Nat.le_of_ble_eq_true rfl) (Nat.le_of_ble_eq_true rfl) (Nat.le_of_ble_eq_true rfl)
set_option maxRecDepth 100000 in
set_option maxHeartbeats 4000000 in
theorem cz_X6_meanSeconds {l : Launch} {D : va_G} {tys : List (ClassId × FieldType)} {e0 : Nat} {cI : ClassId} {h : Nat → Nat} : CtZ l D tys e0 yX6_meanSeconds wsX6_meanSeconds ({ frames := 1, cells := 0, slots := 0, locals := 20 } : Room) (SW cI h jInit) [.ref (h 0)] (fun r z => r = some (.double FP.dconst0) ∧ z = SW cI h jInit) := by
  refine CtZ.of [some (.ref (h 0)), none, none, none] (by decide) rfl rfl (Nat.le_of_ble_eq_true rfl) rfl (fun κ C ZE hQ => ?_)
  have iX6 : ∀ z ∈ u_ws RX6 TX6 8, z ∈ wsX6_meanSeconds := by decide +kernel
  refine V.iconst C (v := nI 0) dX6_meanSeconds_0 (by decide) ?_
  refine V.istore_n C dX6_meanSeconds_1 (by decide) rfl ?_
  dsimp only [List.set, Fin.val]
  refine V.iconst C (v := nI 0) dX6_meanSeconds_2 (by decide) ?_
  refine V.istore_n C dX6_meanSeconds_3 (by decide) rfl ?_
  dsimp only [List.set, Fin.val]
  refine V.iconst C (v := nI 0) dX6_meanSeconds_4 (by decide) ?_
  refine V.istore_n C dX6_meanSeconds_5 (by decide) rfl ?_
  dsimp only [List.set, Fin.val]
  refine V.iload_n C dX6_meanSeconds_6 rfl ?_
  refine V.aload_n C dX6_meanSeconds_7 rfl ?_
  refine V.get C (q0 := 0) (k := 3) rfl rfl (by decide) iX6 (by decide +kernel) rfl rfl dX6_meanSeconds_8 ?_
  refine V.callVi C (ct_X0_size) gX6_meanSeconds_X0_size (n := 0) ⟨rfl, by decide, by decide, by decide +kernel⟩ rfl (q0 := 4) rfl rfl rfl rfl ⟨Nat.le_of_ble_eq_true rfl, Nat.le_of_ble_eq_true rfl⟩ ⟨rfl, rfl, Nat.zero_le _, Nat.zero_le _⟩ (Nat.le_of_ble_eq_true rfl) dX6_meanSeconds_11 ?_
  refine V.topi (y := nI 0) (rfl) ?_
  refine V.icmp_ge C (tgt := 56) dX6_meanSeconds_14 (by decide) (fun c_1 => ?_) (fun c_1 => ?_)
  · refine V.iload_n C dX6_meanSeconds_56 rfl ?_
    refine V.if_le C (tgt := 68) dX6_meanSeconds_57 (by decide) (fun c_2 => ?_) (fun c_2 => ?_)
    · refine V.dconst0 C dX6_meanSeconds_68 ?_
      exact hQ _ _ _ _ _ (Or.inr (Or.inr (Or.inr (Or.inr ⟨_, dX6_meanSeconds_69, rfl, rfl, rfl⟩)))) ⟨rfl, rfl⟩
    · exfalso
      exact absurd c_2 (by decide +kernel)
  · exfalso
    exact absurd c_1 (by decide +kernel)
