set_option maxRecDepth 100000 in
set_option maxHeartbeats 4000000 in
theorem ct_X6_rounds {l : Launch} {D : va_G} {tys : List (ClassId × FieldType)} {cI : ClassId} {h : Nat → Nat} {σ : Nat → Nat → Int32} (hT : tys[0]? = some (cI, .int)) {r : Nat} {N : Nat} (hN : σ 4 0 = nI N) (hN40 : N ≤ 40) (hce : ∀ i, i < N → Nn (σ 18 i) 6) (hr : r ≤ 9) : Cd l D tys yX6_rounds wsX6_rounds ({ frames := 6, cells := 0, slots := 0, locals := 135 } : Room) (SW cI h σ) [.ref (h 0), .int (nI r)] (some (.int (σ 0 0))) (SW cI h (jWeigh (sW σ 0 0 (nI r)) 24 N r)) := by
  refine Ct.of [some (.ref (h 0)), some (.int (nI r)), none] (by decide) rfl rfl (Nat.le_of_ble_eq_true rfl) rfl (fun κ C hQ => ?_)
  have iX6 : ∀ z ∈ u_ws RX6 TX6 8, z ∈ wsX6_rounds := by decide +kernel
  refine V.iload_n C dX6_rounds_0 rfl ?_
  refine V.callSv C (ct_X6_needRounds hr) gX6_rounds_X6_needRounds (n := 1) ⟨rfl, by decide, by decide, by decide +kernel⟩ rfl rfl rfl ⟨Nat.le_of_ble_eq_true rfl, Nat.le_of_ble_eq_true rfl⟩ ⟨rfl, rfl, Nat.zero_le _, Nat.zero_le _⟩ (Nat.le_of_ble_eq_true rfl) dX6_rounds_1 ?_
  refine V.aload_n C dX6_rounds_4 rfl ?_
  refine V.get C (q0 := 0) (k := 7) rfl rfl (by decide) iX6 (by decide +kernel) rfl rfl dX6_rounds_5 ?_
  refine V.istore_n C dX6_rounds_8 (by decide) rfl ?_
  dsimp only [List.set, Fin.val]
  refine V.aload_n C dX6_rounds_9 rfl ?_
  refine V.iload_n C dX6_rounds_10 rfl ?_
  refine V.put C (q0 := 0) (k := 7) (w' := SW cI h (sW σ 0 0 (nI r))) rfl rfl (by decide) iX6 (by decide +kernel) rfl tyX6 tyX6_ok nmX6 rfl rfl rfl rfl (Nat.le_of_ble_eq_true rfl) rfl dX6_rounds_11 ?_
  refine V.aload_n C dX6_rounds_14 rfl ?_
  refine V.callVv C (ct_X6_reweigh (σ := sW σ 0 0 (nI r)) hT hN hN40 hce (sW_at _ _ _ _) hr) gX6_rounds_X6_reweigh (n := 0) ⟨rfl, by decide, by decide, by decide +kernel⟩ rfl (q0 := 0) rfl rfl rfl rfl ⟨Nat.le_of_ble_eq_true rfl, Nat.le_of_ble_eq_true rfl⟩ ⟨rfl, rfl, Nat.zero_le _, Nat.zero_le _⟩ (Nat.le_of_ble_eq_true rfl) dX6_rounds_15 ?_
  refine V.iload_n C dX6_rounds_18 rfl ?_
  refine hQ _ _ _ _ _ (Or.inr (Or.inl ⟨_, _, dX6_rounds_19, rfl, rfl, rfl, rfl⟩)) ⟨?_, rfl⟩
  rfl
