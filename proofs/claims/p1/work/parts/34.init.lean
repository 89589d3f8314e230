set_option maxRecDepth 100000 in
set_option maxHeartbeats 4000000 in
theorem ct_J7_fill_53178 {l : Launch} {D : va_G} {tys : List (ClassId × FieldType)} {cI : ClassId} {a n : Nat} {f : Nat → Int32} {v : Int32} (hT : tys[0]? = some (cI, .int)) (hn : n < 2 ^ 20) : Cd l D tys yJ7_fill_53178 wsJ7_fill_53178 ({ frames := 0, cells := 0, slots := 0, locals := 0 } : Room) ([(a, .inl (cI, n, .inl f))]) [.ref a, .int v] (none) ([(a, .inl (cI, n, .inl (jFl f v n)))]) := by
  refine Ct.of [some (.ref a), some (.int v), none, none] (by decide) rfl rfl (Nat.le_of_ble_eq_true rfl) rfl (fun κ C hQ => ?_)
  refine V.iconst C (v := nI 0) dJ7_fill_53178_0 (by decide) ?_
  refine V.istore_n C dJ7_fill_53178_1 (by decide) rfl ?_
  dsimp only [List.set, Fin.val]
  refine V.aload_n C dJ7_fill_53178_2 rfl ?_
  refine V.alen C (q0 := 0) (t0 := 0) rfl hT dJ7_fill_53178_3 ?_
  refine V.istore_n C dJ7_fill_53178_4 (by decide) rfl ?_
  dsimp only [List.set, Fin.val]
  refine V.loop (n) (fun k => [(a, .inl (cI, n, .inl (jFl f v k)))]) (fun k => [some (.ref a), some (.int v), some (.int (nI k)), some (.int (nI n))]) (fun k hk ih_k => ?_) ?_ (by rw [← jFl_0]) (lsub_s rfl (lsub_s rfl (lsub_s rfl (lsub_s rfl (lsub_e)))))
  · try dsimp only
    refine V.iload_n C dJ7_fill_53178_5 rfl ?_
    refine V.iload_n C dJ7_fill_53178_6 rfl ?_
    refine V.icmp_ge C (tgt := 20) dJ7_fill_53178_7 (by decide) (fun c_1 => ?_) (fun c_1 => ?_)
    · exfalso
      exact c_1 (nI_lt hk (by omega))
    · refine V.aload_n C dJ7_fill_53178_10 rfl ?_
      refine V.iload_n C dJ7_fill_53178_11 rfl ?_
      refine V.iload_n C dJ7_fill_53178_12 rfl ?_
      refine V.iast C (q0 := 0) (t0 := 0) (w' := _) rfl hT (rfl) (by omega) (by omega) rfl dJ7_fill_53178_13 ?_
      refine V.iinc C (v := nI (k + 1)) dJ7_fill_53178_14 rfl (nI_inc k) (by decide) rfl ?_
      dsimp only [List.set]
      refine V.goto C (tgt := 5) dJ7_fill_53178_17 (by decide) ?_
      refine V.world (w' := [(a, .inl (cI, n, .inl (jFl f v (k + 1))))]) (by rw [← jFl_s]) ?_
      exact V.sub (M := [some (.ref a), some (.int v), some (.int (nI (k + 1))), some (.int (nI n))]) (lsub_s rfl (lsub_s rfl (lsub_s rfl (lsub_s rfl (lsub_e))))) ih_k
  · try dsimp only
    refine V.iload_n C dJ7_fill_53178_5 rfl ?_
    refine V.iload_n C dJ7_fill_53178_6 rfl ?_
    refine V.icmp_ge C (tgt := 20) dJ7_fill_53178_7 (by decide) (fun c_2 => ?_) (fun c_2 => ?_)
    · exact hQ _ _ _ _ _ (Or.inl ⟨dJ7_fill_53178_20, rfl, rfl, rfl⟩) ⟨rfl, rfl⟩
    · exfalso
      exact absurd c_2 (nI_nlt (Nat.le_refl _) (by omega))
set_option maxRecDepth 100000 in
set_option maxHeartbeats 4000000 in
theorem ct_X0_init {l : Launch} {D : va_G} {tys : List (ClassId × FieldType)} {cI : ClassId} {a : Nat} (hT : tys[0]? = some (cI, .int)) : Ct l D tys yX0_init wsX0_init ({ frames := 1, cells := 7, slots := 640, locals := 23 } : Room) [(a, .inr (2, [.int 0, .null, .null, .null, .null, .null, .null, .null]))] [.ref a] (fun rv w => rv = none ∧ ∃ q1 q2 q3 q4 q5 q6 q7, w = [(a, .inr (2, [.int 0, .ref q1, .ref q2, .ref q3, .ref q4, .ref q5, .ref q6, .ref q7])), (q1, .inl (cI, 40, .inl (fun _ => 0))), (q2, .inl (cI, 40, .inl (fun _ => 0))), (q3, .inl (cI, 40, .inl (fun _ => 0))), (q4, .inl (cI, 40, .inl (fun _ => 0))), (q5, .inl (cI, 40, .inl (fun _ => 0))), (q6, .inl (cI, 40, .inl (fun _ => 0))), (q7, .inl (cI, 400, .inl (jFl (fun _ => 0) (-1) 400)))]) := by
  refine Ct.of [some (.ref a)] (by decide) rfl rfl (Nat.le_of_ble_eq_true rfl) rfl (fun κ C hQ => ?_)
  have iX0 : ∀ z ∈ u_ws RX0 TX0 8, z ∈ wsX0_init := by decide +kernel
  refine V.aload_n C dX0_init_0 rfl ?_
  refine V.objInit C (by decide +kernel) (by decide +kernel) (by decide +kernel) (by decide) (Nat.le_of_ble_eq_true rfl) dX0_init_1 ?_
  refine V.aload_n C dX0_init_4 rfl ?_
  refine V.bipush C (v := nI 40) dX0_init_5 (by decide) ?_
  refine V.newarrayI C (N := 40) hT rfl (by decide) (by decide +kernel) (Nat.le_of_ble_eq_true rfl) (Nat.le_of_ble_eq_true rfl) dX0_init_7 (fun q1 => ?_)
  refine V.world (w' := [(a, .inr (2, [.int 0, .null, .null, .null, .null, .null, .null, .null])), (q1, .inl (cI, 40, .inl (fun _ => 0)))]) rfl ?_
  refine V.putF C (q0 := 0) (k := 1) (w' := [(a, .inr (2, [.int 0, .ref q1, .null, .null, .null, .null, .null, .null])), (q1, .inl (cI, 40, .inl (fun _ => 0)))]) rfl rfl (by decide) iX0 (by decide +kernel) rfl tyX0 tyX0_ok nmX0 rfl rfl rfl rfl rfl rfl (Nat.le_of_ble_eq_true rfl) rfl dX0_init_9 ?_
  refine V.aload_n C dX0_init_12 rfl ?_
  refine V.bipush C (v := nI 40) dX0_init_13 (by decide) ?_
  refine V.newarrayI C (N := 40) hT rfl (by decide) (by decide +kernel) (Nat.le_of_ble_eq_true rfl) (Nat.le_of_ble_eq_true rfl) dX0_init_15 (fun q2 => ?_)
  refine V.world (w' := [(a, .inr (2, [.int 0, .ref q1, .null, .null, .null, .null, .null, .null])), (q1, .inl (cI, 40, .inl (fun _ => 0))), (q2, .inl (cI, 40, .inl (fun _ => 0)))]) rfl ?_
  refine V.putF C (q0 := 0) (k := 2) (w' := [(a, .inr (2, [.int 0, .ref q1, .ref q2, .null, .null, .null, .null, .null])), (q1, .inl (cI, 40, .inl (fun _ => 0))), (q2, .inl (cI, 40, .inl (fun _ => 0)))]) rfl rfl (by decide) iX0 (by decide +kernel) rfl tyX0 tyX0_ok nmX0 rfl rfl rfl rfl rfl rfl (Nat.le_of_ble_eq_true rfl) rfl dX0_init_17 ?_
  refine V.aload_n C dX0_init_20 rfl ?_
  refine V.bipush C (v := nI 40) dX0_init_21 (by decide) ?_
  refine V.newarrayI C (N := 40) hT rfl (by decide) (by decide +kernel) (Nat.le_of_ble_eq_true rfl) (Nat.le_of_ble_eq_true rfl) dX0_init_23 (fun q3 => ?_)
  refine V.world (w' := [(a, .inr (2, [.int 0, .ref q1, .ref q2, .null, .null, .null, .null, .null])), (q1, .inl (cI, 40, .inl (fun _ => 0))), (q2, .inl (cI, 40, .inl (fun _ => 0))), (q3, .inl (cI, 40, .inl (fun _ => 0)))]) rfl ?_
  refine V.putF C (q0 := 0) (k := 3) (w' := [(a, .inr (2, [.int 0, .ref q1, .ref q2, .ref q3, .null, .null, .null, .null])), (q1, .inl (cI, 40, .inl (fun _ => 0))), (q2, .inl (cI, 40, .inl (fun _ => 0))), (q3, .inl (cI, 40, .inl (fun _ => 0)))]) rfl rfl (by decide) iX0 (by decide +kernel) rfl tyX0 tyX0_ok nmX0 rfl rfl rfl rfl rfl rfl (Nat.le_of_ble_eq_true rfl) rfl dX0_init_25 ?_
  refine V.aload_n C dX0_init_28 rfl ?_
  refine V.bipush C (v := nI 40) dX0_init_29 (by decide) ?_
  refine V.newarrayI C (N := 40) hT rfl (by decide) (by decide +kernel) (Nat.le_of_ble_eq_true rfl) (Nat.le_of_ble_eq_true rfl) dX0_init_31 (fun q4 => ?_)
  refine V.world (w' := [(a, .inr (2, [.int 0, .ref q1, .ref q2, .ref q3, .null, .null, .null, .null])), (q1, .inl (cI, 40, .inl (fun _ => 0))), (q2, .inl (cI, 40, .inl (fun _ => 0))), (q3, .inl (cI, 40, .inl (fun _ => 0))), (q4, .inl (cI, 40, .inl (fun _ => 0)))]) rfl ?_
  refine V.putF C (q0 := 0) (k := 4) (w' := [(a, .inr (2, [.int 0, .ref q1, .ref q2, .ref q3, .ref q4, .null, .null, .null])), (q1, .inl (cI, 40, .inl (fun _ => 0))), (q2, .inl (cI, 40, .inl (fun _ => 0))), (q3, .inl (cI, 40, .inl (fun _ => 0))), (q4, .inl (cI, 40, .inl (fun _ => 0)))]) rfl rfl (by decide) iX0 (by decide +kernel) rfl tyX0 tyX0_ok nmX0 rfl rfl rfl rfl rfl rfl (Nat.le_of_ble_eq_true rfl) rfl dX0_init_33 ?_
  refine V.aload_n C dX0_init_36 rfl ?_
  refine V.bipush C (v := nI 40) dX0_init_37 (by decide) ?_
  refine V.newarrayI C (N := 40) hT rfl (by decide) (by decide +kernel) (Nat.le_of_ble_eq_true rfl) (Nat.le_of_ble_eq_true rfl) dX0_init_39 (fun q5 => ?_)
  refine V.world (w' := [(a, .inr (2, [.int 0, .ref q1, .ref q2, .ref q3, .ref q4, .null, .null, .null])), (q1, .inl (cI, 40, .inl (fun _ => 0))), (q2, .inl (cI, 40, .inl (fun _ => 0))), (q3, .inl (cI, 40, .inl (fun _ => 0))), (q4, .inl (cI, 40, .inl (fun _ => 0))), (q5, .inl (cI, 40, .inl (fun _ => 0)))]) rfl ?_
  refine V.putF C (q0 := 0) (k := 5) (w' := [(a, .inr (2, [.int 0, .ref q1, .ref q2, .ref q3, .ref q4, .ref q5, .null, .null])), (q1, .inl (cI, 40, .inl (fun _ => 0))), (q2, .inl (cI, 40, .inl (fun _ => 0))), (q3, .inl (cI, 40, .inl (fun _ => 0))), (q4, .inl (cI, 40, .inl (fun _ => 0))), (q5, .inl (cI, 40, .inl (fun _ => 0)))]) rfl rfl (by decide) iX0 (by decide +kernel) rfl tyX0 tyX0_ok nmX0 rfl rfl rfl rfl rfl rfl (Nat.le_of_ble_eq_true rfl) rfl dX0_init_41 ?_
  refine V.aload_n C dX0_init_44 rfl ?_
  refine V.bipush C (v := nI 40) dX0_init_45 (by decide) ?_
  refine V.newarrayI C (N := 40) hT rfl (by decide) (by decide +kernel) (Nat.le_of_ble_eq_true rfl) (Nat.le_of_ble_eq_true rfl) dX0_init_47 (fun q6 => ?_)
  refine V.world (w' := [(a, .inr (2, [.int 0, .ref q1, .ref q2, .ref q3, .ref q4, .ref q5, .null, .null])), (q1, .inl (cI, 40, .inl (fun _ => 0))), (q2, .inl (cI, 40, .inl (fun _ => 0))), (q3, .inl (cI, 40, .inl (fun _ => 0))), (q4, .inl (cI, 40, .inl (fun _ => 0))), (q5, .inl (cI, 40, .inl (fun _ => 0))), (q6, .inl (cI, 40, .inl (fun _ => 0)))]) rfl ?_
  refine V.putF C (q0 := 0) (k := 6) (w' := [(a, .inr (2, [.int 0, .ref q1, .ref q2, .ref q3, .ref q4, .ref q5, .ref q6, .null])), (q1, .inl (cI, 40, .inl (fun _ => 0))), (q2, .inl (cI, 40, .inl (fun _ => 0))), (q3, .inl (cI, 40, .inl (fun _ => 0))), (q4, .inl (cI, 40, .inl (fun _ => 0))), (q5, .inl (cI, 40, .inl (fun _ => 0))), (q6, .inl (cI, 40, .inl (fun _ => 0)))]) rfl rfl (by decide) iX0 (by decide +kernel) rfl tyX0 tyX0_ok nmX0 rfl rfl rfl rfl rfl rfl (Nat.le_of_ble_eq_true rfl) rfl dX0_init_49 ?_
  refine V.aload_n C dX0_init_52 rfl ?_
  refine V.sipush C (v := nI 400) dX0_init_53 (by decide) ?_
  refine V.newarrayI C (N := 400) hT rfl (by decide) (by decide +kernel) (Nat.le_of_ble_eq_true rfl) (Nat.le_of_ble_eq_true rfl) dX0_init_56 (fun q7 => ?_)
  refine V.world (w' := [(a, .inr (2, [.int 0, .ref q1, .ref q2, .ref q3, .ref q4, .ref q5, .ref q6, .null])), (q1, .inl (cI, 40, .inl (fun _ => 0))), (q2, .inl (cI, 40, .inl (fun _ => 0))), (q3, .inl (cI, 40, .inl (fun _ => 0))), (q4, .inl (cI, 40, .inl (fun _ => 0))), (q5, .inl (cI, 40, .inl (fun _ => 0))), (q6, .inl (cI, 40, .inl (fun _ => 0))), (q7, .inl (cI, 400, .inl (fun _ => 0)))]) rfl ?_
  refine V.putF C (q0 := 0) (k := 7) (w' := [(a, .inr (2, [.int 0, .ref q1, .ref q2, .ref q3, .ref q4, .ref q5, .ref q6, .ref q7])), (q1, .inl (cI, 40, .inl (fun _ => 0))), (q2, .inl (cI, 40, .inl (fun _ => 0))), (q3, .inl (cI, 40, .inl (fun _ => 0))), (q4, .inl (cI, 40, .inl (fun _ => 0))), (q5, .inl (cI, 40, .inl (fun _ => 0))), (q6, .inl (cI, 40, .inl (fun _ => 0))), (q7, .inl (cI, 400, .inl (fun _ => 0)))]) rfl rfl (by decide) iX0 (by decide +kernel) rfl tyX0 tyX0_ok nmX0 rfl rfl rfl rfl rfl rfl (Nat.le_of_ble_eq_true rfl) rfl dX0_init_58 ?_
  refine V.aload_n C dX0_init_61 rfl ?_
  refine V.get C (q0 := 0) (k := 7) rfl rfl (by decide) iX0 (by decide +kernel) rfl rfl dX0_init_62 ?_
  refine V.iconst C (v := (-1)) dX0_init_65 (by decide) ?_
  refine V.reord [7, 0, 1, 2, 3, 4, 5, 6] (w' := [(q7, .inl (cI, 400, .inl (fun _ => 0))), (a, .inr (2, [.int 0, .ref q1, .ref q2, .ref q3, .ref q4, .ref q5, .ref q6, .ref q7])), (q1, .inl (cI, 40, .inl (fun _ => 0))), (q2, .inl (cI, 40, .inl (fun _ => 0))), (q3, .inl (cI, 40, .inl (fun _ => 0))), (q4, .inl (cI, 40, .inl (fun _ => 0))), (q5, .inl (cI, 40, .inl (fun _ => 0))), (q6, .inl (cI, 40, .inl (fun _ => 0)))]) rfl rfl rfl ?_
  refine V.callSX (w0 := [(q7, .inl (cI, 400, .inl (fun _ => 0)))]) (X := [(a, .inr (2, [.int 0, .ref q1, .ref q2, .ref q3, .ref q4, .ref q5, .ref q6, .ref q7])), (q1, .inl (cI, 40, .inl (fun _ => 0))), (q2, .inl (cI, 40, .inl (fun _ => 0))), (q3, .inl (cI, 40, .inl (fun _ => 0))), (q4, .inl (cI, 40, .inl (fun _ => 0))), (q5, .inl (cI, 40, .inl (fun _ => 0))), (q6, .inl (cI, 40, .inl (fun _ => 0)))]) C (ct_J7_fill_53178 hT (by decide)) rfl (gX0_init_J7_fill_53178) (n := 2) ⟨by decide, by decide, by decide +kernel⟩ rfl rfl ⟨Nat.le_of_ble_eq_true rfl, Nat.le_of_ble_eq_true rfl⟩ ⟨Nat.le_of_ble_eq_true rfl, Nat.le_of_ble_eq_true rfl⟩ (Nat.le_of_ble_eq_true rfl) rfl dX0_init_66 (fun rv w1 hp => ?_)
  obtain ⟨rfl, rfl⟩ := hp
  refine V.reord [1, 2, 3, 4, 5, 6, 7, 0] (w' := [(a, .inr (2, [.int 0, .ref q1, .ref q2, .ref q3, .ref q4, .ref q5, .ref q6, .ref q7])), (q1, .inl (cI, 40, .inl (fun _ => 0))), (q2, .inl (cI, 40, .inl (fun _ => 0))), (q3, .inl (cI, 40, .inl (fun _ => 0))), (q4, .inl (cI, 40, .inl (fun _ => 0))), (q5, .inl (cI, 40, .inl (fun _ => 0))), (q6, .inl (cI, 40, .inl (fun _ => 0))), (q7, .inl (cI, 400, .inl (jFl (fun _ => 0) (-1) 400)))]) rfl rfl rfl ?_
  exact hQ _ _ _ _ _ (Or.inl ⟨dX0_init_69, rfl, rfl, rfl⟩) ⟨rfl, q1, q2, q3, q4, q5, q6, q7, rfl⟩
set_option maxRecDepth 100000 in
set_option maxHeartbeats 4000000 in
theorem ct_X1_init {l : Launch} {D : va_G} {tys : List (ClassId × FieldType)} {cI : ClassId} {a : Nat} (hT : tys[0]? = some (cI, .int)) : Ct l D tys yX1_init wsX1_init ({ frames := 1, cells := 4, slots := 96, locals := 12 } : Room) [(a, .inr (3, [.int 0, .int 0, .null, .null, .null, .null]))] [.ref a] (fun rv w => rv = none ∧ ∃ q1 q2 q3 q4, w = [(a, .inr (3, [.int 0, .int 0, .ref q1, .ref q2, .ref q3, .ref q4])), (q1, .inl (cI, 24, .inl (fun _ => 0))), (q2, .inl (cI, 24, .inl (fun _ => 0))), (q3, .inl (cI, 24, .inl (fun _ => 0))), (q4, .inl (cI, 24, .inl (fun _ => 0)))]) := by
  refine Ct.of [some (.ref a)] (by decide) rfl rfl (Nat.le_of_ble_eq_true rfl) rfl (fun κ C hQ => ?_)
  have iX1 : ∀ z ∈ u_ws RX1 TX1 6, z ∈ wsX1_init := by decide +kernel
  refine V.aload_n C dX1_init_0 rfl ?_
  refine V.objInit C (by decide +kernel) (by decide +kernel) (by decide +kernel) (by decide) (Nat.le_of_ble_eq_true rfl) dX1_init_1 ?_
  refine V.aload_n C dX1_init_4 rfl ?_
  refine V.bipush C (v := nI 24) dX1_init_5 (by decide) ?_
  refine V.newarrayI C (N := 24) hT rfl (by decide) (by decide +kernel) (Nat.le_of_ble_eq_true rfl) (Nat.le_of_ble_eq_true rfl) dX1_init_7 (fun q1 => ?_)
  refine V.world (w' := [(a, .inr (3, [.int 0, .int 0, .null, .null, .null, .null])), (q1, .inl (cI, 24, .inl (fun _ => 0)))]) rfl ?_
  refine V.putF C (q0 := 0) (k := 2) (w' := [(a, .inr (3, [.int 0, .int 0, .ref q1, .null, .null, .null])), (q1, .inl (cI, 24, .inl (fun _ => 0)))]) rfl rfl (by decide) iX1 (by decide +kernel) rfl tyX1 tyX1_ok nmX1 rfl rfl rfl rfl rfl rfl (Nat.le_of_ble_eq_true rfl) rfl dX1_init_9 ?_
  refine V.aload_n C dX1_init_12 rfl ?_
  refine V.bipush C (v := nI 24) dX1_init_13 (by decide) ?_
  refine V.newarrayI C (N := 24) hT rfl (by decide) (by decide +kernel) (Nat.le_of_ble_eq_true rfl) (Nat.le_of_ble_eq_true rfl) dX1_init_15 (fun q2 => ?_)
  refine V.world (w' := [(a, .inr (3, [.int 0, .int 0, .ref q1, .null, .null, .null])), (q1, .inl (cI, 24, .inl (fun _ => 0))), (q2, .inl (cI, 24, .inl (fun _ => 0)))]) rfl ?_
  refine V.putF C (q0 := 0) (k := 3) (w' := [(a, .inr (3, [.int 0, .int 0, .ref q1, .ref q2, .null, .null])), (q1, .inl (cI, 24, .inl (fun _ => 0))), (q2, .inl (cI, 24, .inl (fun _ => 0)))]) rfl rfl (by decide) iX1 (by decide +kernel) rfl tyX1 tyX1_ok nmX1 rfl rfl rfl rfl rfl rfl (Nat.le_of_ble_eq_true rfl) rfl dX1_init_17 ?_
  refine V.aload_n C dX1_init_20 rfl ?_
  refine V.bipush C (v := nI 24) dX1_init_21 (by decide) ?_
  refine V.newarrayI C (N := 24) hT rfl (by decide) (by decide +kernel) (Nat.le_of_ble_eq_true rfl) (Nat.le_of_ble_eq_true rfl) dX1_init_23 (fun q3 => ?_)
  refine V.world (w' := [(a, .inr (3, [.int 0, .int 0, .ref q1, .ref q2, .null, .null])), (q1, .inl (cI, 24, .inl (fun _ => 0))), (q2, .inl (cI, 24, .inl (fun _ => 0))), (q3, .inl (cI, 24, .inl (fun _ => 0)))]) rfl ?_
  refine V.putF C (q0 := 0) (k := 4) (w' := [(a, .inr (3, [.int 0, .int 0, .ref q1, .ref q2, .ref q3, .null])), (q1, .inl (cI, 24, .inl (fun _ => 0))), (q2, .inl (cI, 24, .inl (fun _ => 0))), (q3, .inl (cI, 24, .inl (fun _ => 0)))]) rfl rfl (by decide) iX1 (by decide +kernel) rfl tyX1 tyX1_ok nmX1 rfl rfl rfl rfl rfl rfl (Nat.le_of_ble_eq_true rfl) rfl dX1_init_25 ?_
  refine V.aload_n C dX1_init_28 rfl ?_
  refine V.bipush C (v := nI 24) dX1_init_29 (by decide) ?_
  refine V.newarrayI C (N := 24) hT rfl (by decide) (by decide +kernel) (Nat.le_of_ble_eq_true rfl) (Nat.le_of_ble_eq_true rfl) dX1_init_31 (fun q4 => ?_)
  refine V.world (w' := [(a, .inr (3, [.int 0, .int 0, .ref q1, .ref q2, .ref q3, .null])), (q1, .inl (cI, 24, .inl (fun _ => 0))), (q2, .inl (cI, 24, .inl (fun _ => 0))), (q3, .inl (cI, 24, .inl (fun _ => 0))), (q4, .inl (cI, 24, .inl (fun _ => 0)))]) rfl ?_
  refine V.putF C (q0 := 0) (k := 5) (w' := [(a, .inr (3, [.int 0, .int 0, .ref q1, .ref q2, .ref q3, .ref q4])), (q1, .inl (cI, 24, .inl (fun _ => 0))), (q2, .inl (cI, 24, .inl (fun _ => 0))), (q3, .inl (cI, 24, .inl (fun _ => 0))), (q4, .inl (cI, 24, .inl (fun _ => 0)))]) rfl rfl (by decide) iX1 (by decide +kernel) rfl tyX1 tyX1_ok nmX1 rfl rfl rfl rfl rfl rfl (Nat.le_of_ble_eq_true rfl) rfl dX1_init_33 ?_
  exact hQ _ _ _ _ _ (Or.inl ⟨dX1_init_36, rfl, rfl, rfl⟩) ⟨rfl, q1, q2, q3, q4, rfl⟩
set_option maxRecDepth 100000 in
set_option maxHeartbeats 4000000 in
theorem ct_X2_init {l : Launch} {D : va_G} {tys : List (ClassId × FieldType)} {cI : ClassId} {a : Nat} (hT : tys[0]? = some (cI, .int)) : Ct l D tys yX2_init wsX2_init ({ frames := 1, cells := 3, slots := 70, locals := 23 } : Room) [(a, .inr (4, [.int 0, .int 0, .null, .null, .null]))] [.ref a] (fun rv w => rv = none ∧ ∃ q1 q2 q3, w = [(a, .inr (4, [.int 0, .int 0, .ref q1, .ref q2, .ref q3])), (q1, .inl (cI, 10, .inl (fun _ => 0))), (q2, .inl (cI, 50, .inl (jFl (fun _ => 0) (-2) 50))), (q3, .inl (cI, 10, .inl (fun _ => 0)))]) := by
  refine Ct.of [some (.ref a)] (by decide) rfl rfl (Nat.le_of_ble_eq_true rfl) rfl (fun κ C hQ => ?_)
  have iX2 : ∀ z ∈ u_ws RX2 TX2 5, z ∈ wsX2_init := by decide +kernel
  refine V.aload_n C dX2_init_0 rfl ?_
  refine V.objInit C (by decide +kernel) (by decide +kernel) (by decide +kernel) (by decide) (Nat.le_of_ble_eq_true rfl) dX2_init_1 ?_
  refine V.aload_n C dX2_init_4 rfl ?_
  refine V.bipush C (v := nI 10) dX2_init_5 (by decide) ?_
  refine V.newarrayI C (N := 10) hT rfl (by decide) (by decide +kernel) (Nat.le_of_ble_eq_true rfl) (Nat.le_of_ble_eq_true rfl) dX2_init_7 (fun q1 => ?_)
  refine V.world (w' := [(a, .inr (4, [.int 0, .int 0, .null, .null, .null])), (q1, .inl (cI, 10, .inl (fun _ => 0)))]) rfl ?_
  refine V.putF C (q0 := 0) (k := 2) (w' := [(a, .inr (4, [.int 0, .int 0, .ref q1, .null, .null])), (q1, .inl (cI, 10, .inl (fun _ => 0)))]) rfl rfl (by decide) iX2 (by decide +kernel) rfl tyX2 tyX2_ok nmX2 rfl rfl rfl rfl rfl rfl (Nat.le_of_ble_eq_true rfl) rfl dX2_init_9 ?_
  refine V.aload_n C dX2_init_12 rfl ?_
  refine V.bipush C (v := nI 50) dX2_init_13 (by decide) ?_
  refine V.newarrayI C (N := 50) hT rfl (by decide) (by decide +kernel) (Nat.le_of_ble_eq_true rfl) (Nat.le_of_ble_eq_true rfl) dX2_init_15 (fun q2 => ?_)
  refine V.world (w' := [(a, .inr (4, [.int 0, .int 0, .ref q1, .null, .null])), (q1, .inl (cI, 10, .inl (fun _ => 0))), (q2, .inl (cI, 50, .inl (fun _ => 0)))]) rfl ?_
  refine V.putF C (q0 := 0) (k := 3) (w' := [(a, .inr (4, [.int 0, .int 0, .ref q1, .ref q2, .null])), (q1, .inl (cI, 10, .inl (fun _ => 0))), (q2, .inl (cI, 50, .inl (fun _ => 0)))]) rfl rfl (by decide) iX2 (by decide +kernel) rfl tyX2 tyX2_ok nmX2 rfl rfl rfl rfl rfl rfl (Nat.le_of_ble_eq_true rfl) rfl dX2_init_17 ?_
  refine V.aload_n C dX2_init_20 rfl ?_
  refine V.bipush C (v := nI 10) dX2_init_21 (by decide) ?_
  refine V.newarrayI C (N := 10) hT rfl (by decide) (by decide +kernel) (Nat.le_of_ble_eq_true rfl) (Nat.le_of_ble_eq_true rfl) dX2_init_23 (fun q3 => ?_)
  refine V.world (w' := [(a, .inr (4, [.int 0, .int 0, .ref q1, .ref q2, .null])), (q1, .inl (cI, 10, .inl (fun _ => 0))), (q2, .inl (cI, 50, .inl (fun _ => 0))), (q3, .inl (cI, 10, .inl (fun _ => 0)))]) rfl ?_
  refine V.putF C (q0 := 0) (k := 4) (w' := [(a, .inr (4, [.int 0, .int 0, .ref q1, .ref q2, .ref q3])), (q1, .inl (cI, 10, .inl (fun _ => 0))), (q2, .inl (cI, 50, .inl (fun _ => 0))), (q3, .inl (cI, 10, .inl (fun _ => 0)))]) rfl rfl (by decide) iX2 (by decide +kernel) rfl tyX2 tyX2_ok nmX2 rfl rfl rfl rfl rfl rfl (Nat.le_of_ble_eq_true rfl) rfl dX2_init_25 ?_
  refine V.aload_n C dX2_init_28 rfl ?_
  refine V.get C (q0 := 0) (k := 3) rfl rfl (by decide) iX2 (by decide +kernel) rfl rfl dX2_init_29 ?_
  refine V.bipush C (v := (-2)) dX2_init_32 (by decide) ?_
  refine V.reord [2, 0, 1, 3] (w' := [(q2, .inl (cI, 50, .inl (fun _ => 0))), (a, .inr (4, [.int 0, .int 0, .ref q1, .ref q2, .ref q3])), (q1, .inl (cI, 10, .inl (fun _ => 0))), (q3, .inl (cI, 10, .inl (fun _ => 0)))]) rfl rfl rfl ?_
  refine V.callSX (w0 := [(q2, .inl (cI, 50, .inl (fun _ => 0)))]) (X := [(a, .inr (4, [.int 0, .int 0, .ref q1, .ref q2, .ref q3])), (q1, .inl (cI, 10, .inl (fun _ => 0))), (q3, .inl (cI, 10, .inl (fun _ => 0)))]) C (ct_J7_fill_53178 hT (by decide)) rfl (gX2_init_J7_fill_53178) (n := 2) ⟨by decide, by decide, by decide +kernel⟩ rfl rfl ⟨Nat.le_of_ble_eq_true rfl, Nat.le_of_ble_eq_true rfl⟩ ⟨Nat.le_of_ble_eq_true rfl, Nat.le_of_ble_eq_true rfl⟩ (Nat.le_of_ble_eq_true rfl) rfl dX2_init_34 (fun rv w1 hp => ?_)
  obtain ⟨rfl, rfl⟩ := hp
  refine V.reord [1, 2, 0, 3] (w' := [(a, .inr (4, [.int 0, .int 0, .ref q1, .ref q2, .ref q3])), (q1, .inl (cI, 10, .inl (fun _ => 0))), (q2, .inl (cI, 50, .inl (jFl (fun _ => 0) (-2) 50))), (q3, .inl (cI, 10, .inl (fun _ => 0)))]) rfl rfl rfl ?_
  exact hQ _ _ _ _ _ (Or.inl ⟨dX2_init_37, rfl, rfl, rfl⟩) ⟨rfl, q1, q2, q3, rfl⟩
set_option maxRecDepth 100000 in
set_option maxHeartbeats 4000000 in
theorem ct_X3_init {l : Launch} {D : va_G} {tys : List (ClassId × FieldType)} {cI : ClassId} {a : Nat} (hT : tys[0]? = some (cI, .int)) : Ct l D tys yX3_init wsX3_init ({ frames := 1, cells := 2, slots := 12, locals := 12 } : Room) [(a, .inr (5, [.int 0, .null, .null]))] [.ref a] (fun rv w => rv = none ∧ ∃ q1 q2, w = [(a, .inr (5, [.int 0, .ref q1, .ref q2])), (q1, .inl (cI, 6, .inl (fun _ => 0))), (q2, .inl (cI, 6, .inl (fun _ => 0)))]) := by
  refine Ct.of [some (.ref a)] (by decide) rfl rfl (Nat.le_of_ble_eq_true rfl) rfl (fun κ C hQ => ?_)
  have iX3 : ∀ z ∈ u_ws RX3 TX3 3, z ∈ wsX3_init := by decide +kernel
  refine V.aload_n C dX3_init_0 rfl ?_
  refine V.objInit C (by decide +kernel) (by decide +kernel) (by decide +kernel) (by decide) (Nat.le_of_ble_eq_true rfl) dX3_init_1 ?_
  refine V.aload_n C dX3_init_4 rfl ?_
  refine V.bipush C (v := nI 6) dX3_init_5 (by decide) ?_
  refine V.newarrayI C (N := 6) hT rfl (by decide) (by decide +kernel) (Nat.le_of_ble_eq_true rfl) (Nat.le_of_ble_eq_true rfl) dX3_init_7 (fun q1 => ?_)
  refine V.world (w' := [(a, .inr (5, [.int 0, .null, .null])), (q1, .inl (cI, 6, .inl (fun _ => 0)))]) rfl ?_
  refine V.putF C (q0 := 0) (k := 1) (w' := [(a, .inr (5, [.int 0, .ref q1, .null])), (q1, .inl (cI, 6, .inl (fun _ => 0)))]) rfl rfl (by decide) iX3 (by decide +kernel) rfl tyX3 tyX3_ok nmX3 rfl rfl rfl rfl rfl rfl (Nat.le_of_ble_eq_true rfl) rfl dX3_init_9 ?_
  refine V.aload_n C dX3_init_12 rfl ?_
  refine V.bipush C (v := nI 6) dX3_init_13 (by decide) ?_
  refine V.newarrayI C (N := 6) hT rfl (by decide) (by decide +kernel) (Nat.le_of_ble_eq_true rfl) (Nat.le_of_ble_eq_true rfl) dX3_init_15 (fun q2 => ?_)
  refine V.world (w' := [(a, .inr (5, [.int 0, .ref q1, .null])), (q1, .inl (cI, 6, .inl (fun _ => 0))), (q2, .inl (cI, 6, .inl (fun _ => 0)))]) rfl ?_
  refine V.putF C (q0 := 0) (k := 2) (w' := [(a, .inr (5, [.int 0, .ref q1, .ref q2])), (q1, .inl (cI, 6, .inl (fun _ => 0))), (q2, .inl (cI, 6, .inl (fun _ => 0)))]) rfl rfl (by decide) iX3 (by decide +kernel) rfl tyX3 tyX3_ok nmX3 rfl rfl rfl rfl rfl rfl (Nat.le_of_ble_eq_true rfl) rfl dX3_init_17 ?_
  exact hQ _ _ _ _ _ (Or.inl ⟨dX3_init_20, rfl, rfl, rfl⟩) ⟨rfl, q1, q2, rfl⟩
set_option maxRecDepth 100000 in
set_option maxHeartbeats 4000000 in
theorem ct_X4_init {l : Launch} {D : va_G} {tys : List (ClassId × FieldType)} {cI : ClassId} {a : Nat} (hT : tys[0]? = some (cI, .int)) : Ct l D tys yX4_init wsX4_init ({ frames := 1, cells := 1, slots := 250, locals := 23 } : Room) [(a, .inr (6, [.int 0, .null]))] [.ref a] (fun rv w => rv = none ∧ ∃ q1, w = [(a, .inr (6, [.int 0, .ref q1])), (q1, .inl (cI, 250, .inl (jFl (fun _ => 0) (-1) 250)))]) := by
  refine Ct.of [some (.ref a)] (by decide) rfl rfl (Nat.le_of_ble_eq_true rfl) rfl (fun κ C hQ => ?_)
  have iX4 : ∀ z ∈ u_ws RX4 TX4 2, z ∈ wsX4_init := by decide +kernel
  refine V.aload_n C dX4_init_0 rfl ?_
  refine V.objInit C (by decide +kernel) (by decide +kernel) (by decide +kernel) (by decide) (Nat.le_of_ble_eq_true rfl) dX4_init_1 ?_
  refine V.aload_n C dX4_init_4 rfl ?_
  refine V.sipush C (v := nI 250) dX4_init_5 (by decide) ?_
  refine V.newarrayI C (N := 250) hT rfl (by decide) (by decide +kernel) (Nat.le_of_ble_eq_true rfl) (Nat.le_of_ble_eq_true rfl) dX4_init_8 (fun q1 => ?_)
  refine V.world (w' := [(a, .inr (6, [.int 0, .null])), (q1, .inl (cI, 250, .inl (fun _ => 0)))]) rfl ?_
  refine V.putF C (q0 := 0) (k := 1) (w' := [(a, .inr (6, [.int 0, .ref q1])), (q1, .inl (cI, 250, .inl (fun _ => 0)))]) rfl rfl (by decide) iX4 (by decide +kernel) rfl tyX4 tyX4_ok nmX4 rfl rfl rfl rfl rfl rfl (Nat.le_of_ble_eq_true rfl) rfl dX4_init_10 ?_
  refine V.aload_n C dX4_init_13 rfl ?_
  refine V.get C (q0 := 0) (k := 1) rfl rfl (by decide) iX4 (by decide +kernel) rfl rfl dX4_init_14 ?_
  refine V.iconst C (v := (-1)) dX4_init_17 (by decide) ?_
  refine V.reord [1, 0] (w' := [(q1, .inl (cI, 250, .inl (fun _ => 0))), (a, .inr (6, [.int 0, .ref q1]))]) rfl rfl rfl ?_
  refine V.callSX (w0 := [(q1, .inl (cI, 250, .inl (fun _ => 0)))]) (X := [(a, .inr (6, [.int 0, .ref q1]))]) C (ct_J7_fill_53178 hT (by decide)) rfl (gX4_init_J7_fill_53178) (n := 2) ⟨by decide, by decide, by decide +kernel⟩ rfl rfl ⟨Nat.le_of_ble_eq_true rfl, Nat.le_of_ble_eq_true rfl⟩ ⟨Nat.le_of_ble_eq_true rfl, Nat.le_of_ble_eq_true rfl⟩ (Nat.le_of_ble_eq_true rfl) rfl dX4_init_18 (fun rv w1 hp => ?_)
  obtain ⟨rfl, rfl⟩ := hp
  refine V.reord [1, 0] (w' := [(a, .inr (6, [.int 0, .ref q1])), (q1, .inl (cI, 250, .inl (jFl (fun _ => 0) (-1) 250)))]) rfl rfl rfl ?_
  exact hQ _ _ _ _ _ (Or.inl ⟨dX4_init_21, rfl, rfl, rfl⟩) ⟨rfl, q1, rfl⟩
set_option maxRecDepth 100000 in
set_option maxHeartbeats 4000000 in
theorem ct_X5_init {l : Launch} {D : va_G} {tys : List (ClassId × FieldType)} {cI : ClassId} {a : Nat} (hT : tys[0]? = some (cI, .int)) : Ct l D tys yX5_init wsX5_init ({ frames := 1, cells := 1, slots := 40, locals := 12 } : Room) [(a, .inr (7, [.null]))] [.ref a] (fun rv w => rv = none ∧ ∃ q1, w = [(a, .inr (7, [.ref q1])), (q1, .inl (cI, 40, .inl (fun _ => 0)))]) := by
  refine Ct.of [some (.ref a)] (by decide) rfl rfl (Nat.le_of_ble_eq_true rfl) rfl (fun κ C hQ => ?_)
  have iX5 : ∀ z ∈ u_ws RX5 TX5 1, z ∈ wsX5_init := by decide +kernel
  refine V.aload_n C dX5_init_0 rfl ?_
  refine V.objInit C (by decide +kernel) (by decide +kernel) (by decide +kernel) (by decide) (Nat.le_of_ble_eq_true rfl) dX5_init_1 ?_
  refine V.aload_n C dX5_init_4 rfl ?_
  refine V.bipush C (v := nI 40) dX5_init_5 (by decide) ?_
  refine V.newarrayI C (N := 40) hT rfl (by decide) (by decide +kernel) (Nat.le_of_ble_eq_true rfl) (Nat.le_of_ble_eq_true rfl) dX5_init_7 (fun q1 => ?_)
  refine V.world (w' := [(a, .inr (7, [.null])), (q1, .inl (cI, 40, .inl (fun _ => 0)))]) rfl ?_
  refine V.putF C (q0 := 0) (k := 0) (w' := [(a, .inr (7, [.ref q1])), (q1, .inl (cI, 40, .inl (fun _ => 0)))]) rfl rfl (by decide) iX5 (by decide +kernel) rfl tyX5 tyX5_ok nmX5 rfl rfl rfl rfl rfl rfl (Nat.le_of_ble_eq_true rfl) rfl dX5_init_9 ?_
  exact hQ _ _ _ _ _ (Or.inl ⟨dX5_init_12, rfl, rfl, rfl⟩) ⟨rfl, q1, rfl⟩
