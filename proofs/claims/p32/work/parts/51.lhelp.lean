set_option maxRecDepth 100000 in
set_option maxHeartbeats 4000000 in
theorem ct_L_below {l : Launch} {D : va_G} {tys : List (ClassId × FieldType)} {w : va_W} {v : Int32} {n : Nat} (hn0 : 0 < n) (hn : n < 2147483648) : Cd l D tys yL_below wsL_below ({ frames := 0, cells := 0, slots := 0, locals := 0 } : Room) (w) [.int v, .int (nI n)] (some (.int (nI (jBel v n)))) (w) := by
  refine Ct.of [some (.int v), some (.int (nI n))] (by decide) rfl rfl (Nat.le_of_ble_eq_true rfl) rfl (fun κ C hQ => ?_)
  refine V.iload_n C dL_below_0 rfl ?_
  refine V.ldc C (v := 2147483647) (by decide +kernel) dL_below_1 ?_
  refine V.iand C dL_below_3 ?_
  refine V.iload_n C dL_below_4 rfl ?_
  refine V.irem C dL_below_5 (nI_ne0 hn0 (by omega)) ?_
  refine hQ _ _ _ _ _ (Or.inr (Or.inl ⟨_, _, dL_below_6, rfl, rfl, rfl, rfl⟩)) ⟨?_, rfl⟩
  exact congrArg (fun z => some (Value.int z)) (jBel_eq v hn0 hn)
def jCell (xs : Nat → Int32) (L k : Nat) : Int32 := if k < L then xs k else 790386105 * (nI k + nI 3)
set_option maxRecDepth 100000 in
set_option maxHeartbeats 4000000 in
theorem ct_L_cell {l : Launch} {D : va_G} {tys : List (ClassId × FieldType)} {b n k : Nat} {xs : Nat → Int32} (hn : n < 2147483648) (hk : k < 2147483648) : CtS l D tys yL_cell wsL_cell ({ frames := 0, cells := 0, slots := 0, locals := 0 } : Room) b n xs [.ref b, .int (nI k)] (some (.int (jCell xs n k))) := by
  refine CtS.of [some (.ref b), some (.int (nI k))] (by decide) rfl rfl (Nat.le_of_ble_eq_true rfl) rfl (fun κ C CX hQ => ?_)
  refine V.iload_n C dL_cell_0 rfl ?_
  refine V.aload_n C dL_cell_1 rfl ?_
  refine V.slen C CX dL_cell_2 ?_
  refine V.icmp_ge C (tgt := 12) dL_cell_3 (by decide) (fun c_1 => ?_) (fun c_1 => ?_)
  · have h1 : ¬ k < n := fun z => c_1 (nI_lt z (by omega))
    refine V.ldc C (v := 790386105) (by decide +kernel) dL_cell_12 ?_
    refine V.iload_n C dL_cell_14 rfl ?_
    refine V.iconst C (v := nI 3) dL_cell_15 (by decide) ?_
    refine V.iadd C dL_cell_16 ?_
    refine V.imul C dL_cell_17 ?_
    refine hQ _ _ _ _ _ (Or.inr (Or.inl ⟨_, _, dL_cell_18, rfl, rfl, rfl, rfl⟩)) ⟨?_, rfl⟩
    rw [jCell, if_neg h1]
  · have h1 : k < n := (nI_ltI (by omega) (by omega)).mp c_1
    refine V.aload_n C dL_cell_6 rfl ?_
    refine V.iload_n C dL_cell_7 rfl ?_
    refine V.sld C CX (vp_in_nI h1 (by omega)) dL_cell_8 ?_
    refine V.goto C (tgt := 18) dL_cell_9 (by decide) ?_
    refine hQ _ _ _ _ _ (Or.inr (Or.inl ⟨_, _, dL_cell_18, rfl, rfl, rfl, rfl⟩)) ⟨?_, rfl⟩
    rw [jCell, if_pos h1, nI_clamp (by omega)]
set_option maxRecDepth 100000 in
set_option maxHeartbeats 4000000 in
theorem ct_L_interviews {l : Launch} {D : va_G} {tys : List (ClassId × FieldType)} {cI : ClassId} {h : Nat → Nat} {σ : Nat → Nat → Int32} (hT : tys[0]? = some (cI, .int)) {N P Q n : Nat} (hV : Inv σ N P Q n) : Cd l D tys yL_interviews wsL_interviews ({ frames := 7, cells := 0, slots := 0, locals := 158 } : Room) (SW cI h σ) [.ref (h 0)] (some (.int (nI N))) (SW cI h σ) := by
  refine Ct.of [some (.ref (h 0))] (by decide) rfl rfl (Nat.le_of_ble_eq_true rfl) rfl (fun κ C hQ => ?_)
  have hT0 := hT
  obtain ⟨⟨hN, hN40, hP, hP24, hQz, hQ10, hn0, hn9⟩, -⟩ := id hV
  have hpc := Inv_hpc hV.2.2.2.1
  have hce := Inv_hce hV.2.2.2.2.1 hV.2.2.2.1 hP24
  have hpe := Inv_hpe hV.2.2.2.2.1 hP24
  have hA := Inv_hA hV.2.1
  refine V.aload_n C dL_interviews_0 rfl ?_
  refine V.iconst C (v := nI 2) dL_interviews_1 (by decide) ?_
  refine V.callVi C (ct_X6_many (k := 2) hT hN hN40 hP hP24 hpc (by omega)) gL_interviews_X6_many (n := 1) ⟨rfl, by decide, by decide, by decide +kernel⟩ rfl (q0 := 0) rfl rfl rfl rfl ⟨Nat.le_of_ble_eq_true rfl, Nat.le_of_ble_eq_true rfl⟩ ⟨rfl, rfl, Nat.zero_le _, Nat.zero_le _⟩ (Nat.le_of_ble_eq_true rfl) dL_interviews_2 ?_
  refine V.aload_n C dL_interviews_5 rfl ?_
  refine V.iconst C (v := nI 3) dL_interviews_6 (by decide) ?_
  refine V.callVi C (ct_X6_many (k := 3) hT hN hN40 hP hP24 hpc (by omega)) gL_interviews_X6_many (n := 1) ⟨rfl, by decide, by decide, by decide +kernel⟩ rfl (q0 := 0) rfl rfl rfl rfl ⟨Nat.le_of_ble_eq_true rfl, Nat.le_of_ble_eq_true rfl⟩ ⟨rfl, rfl, Nat.zero_le _, Nat.zero_le _⟩ (Nat.le_of_ble_eq_true rfl) dL_interviews_7 ?_
  refine V.iadd C dL_interviews_10 ?_
  refine V.aload_n C dL_interviews_11 rfl ?_
  refine V.iconst C (v := nI 4) dL_interviews_12 (by decide) ?_
  refine V.callVi C (ct_X6_many (k := 4) hT hN hN40 hP hP24 hpc (by omega)) gL_interviews_X6_many (n := 1) ⟨rfl, by decide, by decide, by decide +kernel⟩ rfl (q0 := 0) rfl rfl rfl rfl ⟨Nat.le_of_ble_eq_true rfl, Nat.le_of_ble_eq_true rfl⟩ ⟨rfl, rfl, Nat.zero_le _, Nat.zero_le _⟩ (Nat.le_of_ble_eq_true rfl) dL_interviews_13 ?_
  refine V.iadd C dL_interviews_16 ?_
  refine V.aload_n C dL_interviews_17 rfl ?_
  refine V.iconst C (v := nI 5) dL_interviews_18 (by decide) ?_
  refine V.callVi C (ct_X6_many (k := 5) hT hN hN40 hP hP24 hpc (by omega)) gL_interviews_X6_many (n := 1) ⟨rfl, by decide, by decide, by decide +kernel⟩ rfl (q0 := 0) rfl rfl rfl rfl ⟨Nat.le_of_ble_eq_true rfl, Nat.le_of_ble_eq_true rfl⟩ ⟨rfl, rfl, Nat.zero_le _, Nat.zero_le _⟩ (Nat.le_of_ble_eq_true rfl) dL_interviews_19 ?_
  refine V.iadd C dL_interviews_22 ?_
  refine hQ _ _ _ _ _ (Or.inr (Or.inl ⟨_, _, dL_interviews_23, rfl, rfl, rfl, rfl⟩)) ⟨?_, rfl⟩
  exact congrArg (fun z => some (Value.int z)) (four_sum hV)
def jDn (N k : Nat) : Int32 := nI N - nI (k + 1)
theorem jDn_0 (N : Nat) : nI N - nI 1 = jDn N 0 := rfl
theorem jDn_s (N k : Nat) : jDn N k + Int32.ofInt (-1) = jDn N (k + 1) := by
  unfold jDn
  rw [← nI_1 (k + 1), show Int32.ofInt (-1) = -1 by decide +kernel, Int32.sub_eq_add_neg, Int32.sub_eq_add_neg, Int32.neg_add, Int32.sub_eq_add_neg, Int32.add_assoc]
theorem jDn_nI {N k : Nat} (h : k < N) : jDn N k = nI (N - 1 - k) := by
  unfold jDn
  rw [nI_sub (by omega), show N - (k + 1) = N - 1 - k by omega]
theorem jDn_pos {N k : Nat} (h : k < N) (hN : N ≤ 40) (c : jDn N k < 0) : False := by
  rw [jDn_nI h] at c
  exact nI_pos (by omega) c
theorem jDn_neg {N : Nat} (hN : N ≤ 40) : jDn N N < 0 := by
  refine tI_lt.mpr ?_
  unfold jDn
  rw [tI_sub (by rw [tI_n (by omega), tI_n (by omega)]; omega) (by rw [tI_n (by omega), tI_n (by omega)]; omega), tI_n (by omega), tI_n (by omega), tI_0]
  omega
set_option maxRecDepth 100000 in
set_option maxHeartbeats 4000000 in
theorem ct_L_running {l : Launch} {D : va_G} {tys : List (ClassId × FieldType)} {cI : ClassId} {h : Nat → Nat} {σ : Nat → Nat → Int32} (hT : tys[0]? = some (cI, .int)) {N P Q n : Nat} (hV : Inv σ N P Q n) : Cd l D tys yL_running wsL_running ({ frames := 8, cells := 0, slots := 0, locals := 178 } : Room) (SW cI h σ) [.ref (h 0)] (some (.int (jRun σ N))) (SW cI h σ) := by
  refine Ct.of [some (.ref (h 0)), none] (by decide) rfl rfl (Nat.le_of_ble_eq_true rfl) rfl (fun κ C hQ => ?_)
  have hT0 := hT
  obtain ⟨⟨hN, hN40, hP, hP24, hQz, hQ10, hn0, hn9⟩, -⟩ := id hV
  have hpc := Inv_hpc hV.2.2.2.1
  have hce := Inv_hce hV.2.2.2.2.1 hV.2.2.2.1 hP24
  have hpe := Inv_hpe hV.2.2.2.2.1 hP24
  have hA := Inv_hA hV.2.1
  refine V.aload_n C dL_running_0 rfl ?_
  refine V.callS2i C (ct_L_interviews hT hV) gL_running_L_interviews (n := 1) ⟨by decide, by decide, by decide +kernel⟩ rfl rfl ⟨Nat.le_of_ble_eq_true rfl, Nat.le_of_ble_eq_true rfl⟩ ⟨rfl, rfl, Nat.zero_le _, Nat.zero_le _⟩ (Nat.le_of_ble_eq_true rfl) rfl dL_running_1 ?_
  refine V.iconst C (v := nI 1) dL_running_4 (by decide) ?_
  refine V.isub C dL_running_5 ?_
  refine V.istore_n C dL_running_6 (by decide) rfl ?_
  dsimp only [List.set, Fin.val]
  refine V.loopI (N) (fun k => jRun σ N = jRun σ (N - k)) (fun k => SW cI h σ) (fun k => [some (.ref (h 0)), some (.int (jDn N k))]) (fun k hk hI ih_k => ?_) (fun hI => ?_) (rfl) (rfl) (lsub_s rfl (lsub_si (jDn_0 N) rfl (lsub_e)))
  · try dsimp only
    refine V.iload_n C dL_running_7 rfl ?_
    refine V.if_lt C (tgt := 28) dL_running_8 (by decide) (fun c_1 => ?_) (fun c_1 => ?_)
    · exfalso
      exact jDn_pos hk hN40 c_1
    · refine V.aload_n C dL_running_11 rfl ?_
      refine V.iload_n C dL_running_12 rfl ?_
      refine V.topi (y := nI (N - 1 - k)) (jDn_nI hk) ?_
      refine V.iconst C (v := nI 1) dL_running_13 (by decide) ?_
      refine V.callVi C (ct_X6_ofInterview (i := N - 1 - k) (k := 1) hT hN hN40 (by omega) (by omega)) gL_running_X6_ofInterview (n := 2) ⟨rfl, by decide, by decide, by decide +kernel⟩ rfl (q0 := 0) rfl rfl rfl rfl ⟨Nat.le_of_ble_eq_true rfl, Nat.le_of_ble_eq_true rfl⟩ ⟨rfl, rfl, Nat.zero_le _, Nat.zero_le _⟩ (Nat.le_of_ble_eq_true rfl) dL_running_14 ?_
      refine V.if_ne C (tgt := 22) dL_running_17 (by decide) (fun c_2 => ?_) (fun c_2 => ?_)
      · refine V.iinc C (v := jDn N (k + 1)) dL_running_22 rfl (jDn_s N k) (by decide) rfl ?_
        dsimp only [List.set]
        refine V.goto C (tgt := 7) dL_running_25 (by decide) ?_
        exact V.sub (M := [some (.ref (h 0)), some (.int (jDn N (k + 1)))]) (lsub_s rfl (lsub_s rfl (lsub_e))) (ih_k (by rw [hI, show N - k = (N - 1 - k) + 1 by omega, jRun, if_neg (by assumption), show N - (k + 1) = N - 1 - k by omega]))
      · refine V.iload_n C dL_running_20 rfl ?_
        refine hQ _ _ _ _ _ (Or.inr (Or.inl ⟨_, _, dL_running_21, rfl, rfl, rfl, rfl⟩)) ⟨?_, rfl⟩
        rw [hI, show N - k = (N - 1 - k) + 1 by omega, jRun, if_pos (by assumption), jDn_nI hk]
  · try dsimp only
    refine V.iload_n C dL_running_7 rfl ?_
    refine V.if_lt C (tgt := 28) dL_running_8 (by decide) (fun c_3 => ?_) (fun c_3 => ?_)
    · refine V.iconst C (v := (-1)) dL_running_28 (by decide) ?_
      refine hQ _ _ _ _ _ (Or.inr (Or.inl ⟨_, _, dL_running_29, rfl, rfl, rfl, rfl⟩)) ⟨?_, rfl⟩
      rw [hI, Nat.sub_self]; rfl
    · exfalso
      exact c_3 (jDn_neg hN40)
set_option maxRecDepth 100000 in
set_option maxHeartbeats 4000000 in
theorem ct_L_lacks {l : Launch} {D : va_G} {tys : List (ClassId × FieldType)} {cI : ClassId} {h : Nat → Nat} {σ : Nat → Nat → Int32} (hT : tys[0]? = some (cI, .int)) {N P Q n : Nat} (hV : Inv σ N P Q n) {j : Nat} (hj : j < P) : Cd l D tys yL_lacks wsL_lacks ({ frames := 6, cells := 0, slots := 0, locals := 139 } : Room) (SW cI h σ) [.ref (h 0), .int (nI j)] (some (.int (jLack σ (jPc σ j)))) (SW cI h σ) := by
  refine Ct.of [some (.ref (h 0)), some (.int (nI j))] (by decide) rfl rfl (Nat.le_of_ble_eq_true rfl) rfl (fun κ C hQ => ?_)
  have hT0 := hT
  obtain ⟨⟨hN, hN40, hP, hP24, hQz, hQ10, hn0, hn9⟩, -⟩ := id hV
  have hpc := Inv_hpc hV.2.2.2.1
  have hce := Inv_hce hV.2.2.2.2.1 hV.2.2.2.1 hP24
  have hpe := Inv_hpe hV.2.2.2.2.1 hP24
  have hA := Inv_hA hV.2.1
  have h6 := jPc_lt hV hj
  refine V.aload_n C dL_lacks_0 rfl ?_
  refine V.aload_n C dL_lacks_1 rfl ?_
  refine V.iload_n C dL_lacks_2 rfl ?_
  refine V.iconst C (v := nI 0) dL_lacks_3 (by decide) ?_
  refine V.callVi C (ct_X6_ofPerson (j := j) (k := 0) hT hN hN40 hP hP24 hpc (by omega) (by omega)) gL_lacks_X6_ofPerson (n := 2) ⟨rfl, by decide, by decide, by decide +kernel⟩ rfl (q0 := 0) rfl rfl rfl rfl ⟨Nat.le_of_ble_eq_true rfl, Nat.le_of_ble_eq_true rfl⟩ ⟨rfl, rfl, Nat.zero_le _, Nat.zero_le _⟩ (Nat.le_of_ble_eq_true rfl) dL_lacks_4 ?_
  refine V.aload_n C dL_lacks_7 rfl ?_
  refine V.iload_n C dL_lacks_8 rfl ?_
  refine V.iconst C (v := nI 1) dL_lacks_9 (by decide) ?_
  refine V.callVi C (ct_X6_ofPerson (j := j) (k := 1) hT hN hN40 hP hP24 hpc (by omega) (by omega)) gL_lacks_X6_ofPerson (n := 2) ⟨rfl, by decide, by decide, by decide +kernel⟩ rfl (q0 := 0) rfl rfl rfl rfl ⟨Nat.le_of_ble_eq_true rfl, Nat.le_of_ble_eq_true rfl⟩ ⟨rfl, rfl, Nat.zero_le _, Nat.zero_le _⟩ (Nat.le_of_ble_eq_true rfl) dL_lacks_10 ?_
  refine V.iconst C (v := nI 0) dL_lacks_13 (by decide) ?_
  refine V.callVi C (ct_X6_ofCell (a := jPc σ j / 2) (b := jPc σ j % 2) (k := 0) hT hN hN40 hP hP24 hpc (by omega) (by omega) (by omega)) gL_lacks_X6_ofCell (n := 3) ⟨rfl, by decide, by decide, by decide +kernel⟩ rfl (q0 := 0) rfl rfl rfl rfl ⟨Nat.le_of_ble_eq_true rfl, Nat.le_of_ble_eq_true rfl⟩ ⟨rfl, rfl, Nat.zero_le _, Nat.zero_le _⟩ (Nat.le_of_ble_eq_true rfl) dL_lacks_14 ?_
  refine V.topi (y := σ 11 (jPc σ j)) (by show σ 11 (jPc σ j / 2 * 2 + jPc σ j % 2) = _; rw [show jPc σ j / 2 * 2 + jPc σ j % 2 = jPc σ j by omega]) ?_
  refine V.aload_n C dL_lacks_17 rfl ?_
  refine V.aload_n C dL_lacks_18 rfl ?_
  refine V.iload_n C dL_lacks_19 rfl ?_
  refine V.iconst C (v := nI 0) dL_lacks_20 (by decide) ?_
  refine V.callVi C (ct_X6_ofPerson (j := j) (k := 0) hT hN hN40 hP hP24 hpc (by omega) (by omega)) gL_lacks_X6_ofPerson (n := 2) ⟨rfl, by decide, by decide, by decide +kernel⟩ rfl (q0 := 0) rfl rfl rfl rfl ⟨Nat.le_of_ble_eq_true rfl, Nat.le_of_ble_eq_true rfl⟩ ⟨rfl, rfl, Nat.zero_le _, Nat.zero_le _⟩ (Nat.le_of_ble_eq_true rfl) dL_lacks_21 ?_
  refine V.aload_n C dL_lacks_24 rfl ?_
  refine V.iload_n C dL_lacks_25 rfl ?_
  refine V.iconst C (v := nI 1) dL_lacks_26 (by decide) ?_
  refine V.callVi C (ct_X6_ofPerson (j := j) (k := 1) hT hN hN40 hP hP24 hpc (by omega) (by omega)) gL_lacks_X6_ofPerson (n := 2) ⟨rfl, by decide, by decide, by decide +kernel⟩ rfl (q0 := 0) rfl rfl rfl rfl ⟨Nat.le_of_ble_eq_true rfl, Nat.le_of_ble_eq_true rfl⟩ ⟨rfl, rfl, Nat.zero_le _, Nat.zero_le _⟩ (Nat.le_of_ble_eq_true rfl) dL_lacks_27 ?_
  refine V.iconst C (v := nI 1) dL_lacks_30 (by decide) ?_
  refine V.callVi C (ct_X6_ofCell (a := jPc σ j / 2) (b := jPc σ j % 2) (k := 1) hT hN hN40 hP hP24 hpc (by omega) (by omega) (by omega)) gL_lacks_X6_ofCell (n := 3) ⟨rfl, by decide, by decide, by decide +kernel⟩ rfl (q0 := 0) rfl rfl rfl rfl ⟨Nat.le_of_ble_eq_true rfl, Nat.le_of_ble_eq_true rfl⟩ ⟨rfl, rfl, Nat.zero_le _, Nat.zero_le _⟩ (Nat.le_of_ble_eq_true rfl) dL_lacks_31 ?_
  refine V.topi (y := σ 12 (jPc σ j)) (by show σ 12 (jPc σ j / 2 * 2 + jPc σ j % 2) = _; rw [show jPc σ j / 2 * 2 + jPc σ j % 2 = jPc σ j by omega]) ?_
  refine V.isub C dL_lacks_34 ?_
  refine hQ _ _ _ _ _ (Or.inr (Or.inl ⟨_, _, dL_lacks_35, rfl, rfl, rfl, rfl⟩)) ⟨?_, rfl⟩
  rfl
set_option maxRecDepth 100000 in
set_option maxHeartbeats 4000000 in
theorem ct_L_isNext {l : Launch} {D : va_G} {tys : List (ClassId × FieldType)} {cI : ClassId} {h : Nat → Nat} {σ : Nat → Nat → Int32} (hT : tys[0]? = some (cI, .int)) {N P Q n : Nat} (hV : Inv σ N P Q n) {j : Nat} (hj : j < P) (hx : jNxt σ (nI 0) P = nI j) : Cd l D tys yL_isNext wsL_isNext ({ frames := 7, cells := 0, slots := 0, locals := 160 } : Room) (SW cI h σ) [.ref (h 0), .int (nI j), .int (nI P)] (some (.int (bI true))) (SW cI h σ) := by
  refine Ct.of [some (.ref (h 0)), some (.int (nI j)), some (.int (nI P)), none, none] (by decide) rfl rfl (Nat.le_of_ble_eq_true rfl) rfl (fun κ C hQ => ?_)
  have hT0 := hT
  obtain ⟨⟨hN, hN40, hP, hP24, hQz, hQ10, hn0, hn9⟩, -⟩ := id hV
  have hpc := Inv_hpc hV.2.2.2.1
  have hce := Inv_hce hV.2.2.2.2.1 hV.2.2.2.1 hP24
  have hpe := Inv_hpe hV.2.2.2.2.1 hP24
  have hA := Inv_hA hV.2.1
  obtain ⟨hc, hb⟩ := next_spec hV hx hj
  refine V.aload_n C dL_isNext_0 rfl ?_
  refine V.iload_n C dL_isNext_1 rfl ?_
  refine V.iconst C (v := nI 4) dL_isNext_2 (by decide) ?_
  refine V.callVi C (ct_X6_ofPerson (j := j) (k := 4) hT hN hN40 hP hP24 hpc (by omega) (by omega)) gL_isNext_X6_ofPerson (n := 2) ⟨rfl, by decide, by decide, by decide +kernel⟩ rfl (q0 := 0) rfl rfl rfl rfl ⟨Nat.le_of_ble_eq_true rfl, Nat.le_of_ble_eq_true rfl⟩ ⟨rfl, rfl, Nat.zero_le _, Nat.zero_le _⟩ (Nat.le_of_ble_eq_true rfl) dL_isNext_3 ?_
  refine V.topi (y := bI true) (congrArg bI hc) ?_
  refine V.iconst C (v := nI 1) dL_isNext_6 (by decide) ?_
  refine V.icmp_ne C (tgt := 20) dL_isNext_7 (by decide) (fun c_1 => ?_) (fun c_1 => ?_)
  · exfalso
    exact c_1 rfl
  · refine V.aload_n C dL_isNext_10 rfl ?_
    refine V.iload_n C dL_isNext_11 rfl ?_
    refine V.iconst C (v := nI 2) dL_isNext_12 (by decide) ?_
    refine V.callVi C (ct_X6_ofPerson (j := j) (k := 2) hT hN hN40 hP hP24 hpc (by omega) (by omega)) gL_isNext_X6_ofPerson (n := 2) ⟨rfl, by decide, by decide, by decide +kernel⟩ rfl (q0 := 0) rfl rfl rfl rfl ⟨Nat.le_of_ble_eq_true rfl, Nat.le_of_ble_eq_true rfl⟩ ⟨rfl, rfl, Nat.zero_le _, Nat.zero_le _⟩ (Nat.le_of_ble_eq_true rfl) dL_isNext_13 ?_
    refine V.iconst C (v := nI 4) dL_isNext_16 (by decide) ?_
    refine V.icmp_le C (tgt := 22) dL_isNext_17 (by decide) (fun c_2 => ?_) (fun c_2 => ?_)
    · refine V.iconst C (v := nI 0) dL_isNext_22 (by decide) ?_
      refine V.istore_n C dL_isNext_23 (by decide) rfl ?_
      dsimp only [List.set, Fin.val]
      refine V.loop (P) (fun k => SW cI h σ) (fun k => [some (.ref (h 0)), some (.int (nI j)), some (.int (nI P)), some (.int (nI k)), none]) (fun k hk ih_k => ?_) ?_ (rfl) (lsub_s rfl (lsub_s rfl (lsub_s rfl (lsub_s rfl (lsub_n (lsub_e))))))
      · try dsimp only
        refine V.iload_n C dL_isNext_24 rfl ?_
        refine V.iload_n C dL_isNext_25 rfl ?_
        refine V.icmp_ge C (tgt := 112) dL_isNext_26 (by decide) (fun c_3 => ?_) (fun c_3 => ?_)
        · exfalso
          exact c_3 (nI_lt hk (by omega))
        · refine V.aload_n C dL_isNext_29 rfl ?_
          refine V.iload_n C dL_isNext_30 rfl ?_
          refine V.iconst C (v := nI 4) dL_isNext_31 (by decide) ?_
          refine V.callVi C (ct_X6_ofPerson (j := k) (k := 4) hT hN hN40 hP hP24 hpc (by omega) (by omega)) gL_isNext_X6_ofPerson (n := 2) ⟨rfl, by decide, by decide, by decide +kernel⟩ rfl (q0 := 0) rfl rfl rfl rfl ⟨Nat.le_of_ble_eq_true rfl, Nat.le_of_ble_eq_true rfl⟩ ⟨rfl, rfl, Nat.zero_le _, Nat.zero_le _⟩ (Nat.le_of_ble_eq_true rfl) dL_isNext_32 ?_
          refine V.topi (y := bI (jCan σ k (nI 0))) (rfl) ?_
          refine V.if_ne C (tgt := 41) dL_isNext_35 (by decide) (fun c_4 => ?_) (fun c_4 => ?_)
          · have hcan : jCan σ k (nI 0) = true := (Bool.eq_false_or_eq_true (jCan σ k (nI 0))).elim id (fun z => absurd (by rw [z]; rfl) c_4)
            refine V.aload_n C dL_isNext_41 rfl ?_
            refine V.iload_n C dL_isNext_42 rfl ?_
            refine V.callS2i C (ct_L_lacks hT hV hk) gL_isNext_L_lacks (n := 2) ⟨by decide, by decide, by decide +kernel⟩ rfl rfl ⟨Nat.le_of_ble_eq_true rfl, Nat.le_of_ble_eq_true rfl⟩ ⟨rfl, rfl, Nat.zero_le _, Nat.zero_le _⟩ (Nat.le_of_ble_eq_true rfl) rfl dL_isNext_43 ?_
            refine V.aload_n C dL_isNext_46 rfl ?_
            refine V.iload_n C dL_isNext_47 rfl ?_
            refine V.callS2i C (ct_L_lacks hT hV hj) gL_isNext_L_lacks (n := 2) ⟨by decide, by decide, by decide +kernel⟩ rfl rfl ⟨Nat.le_of_ble_eq_true rfl, Nat.le_of_ble_eq_true rfl⟩ ⟨rfl, rfl, Nat.zero_le _, Nat.zero_le _⟩ (Nat.le_of_ble_eq_true rfl) rfl dL_isNext_48 ?_
            refine V.isub C dL_isNext_51 ?_
            refine V.istore C dL_isNext_52 (by decide) rfl ?_
            dsimp only [List.set]
            refine V.iload C dL_isNext_54 rfl ?_
            refine V.if_gt C (tgt := 104) dL_isNext_56 (by decide) (fun c_5 => ?_) (fun c_5 => ?_)
            · exfalso
              exact (hb k hk hcan).1 c_5
            · refine V.iload C dL_isNext_59 rfl ?_
              refine V.if_ne C (tgt := 79) dL_isNext_61 (by decide) (fun c_6 => ?_) (fun c_6 => ?_)
              · refine V.iload C dL_isNext_79 rfl ?_
                refine V.if_ne C (tgt := 106) dL_isNext_81 (by decide) (fun c_7 => ?_) (fun c_7 => ?_)
                · refine V.iinc C (v := nI (k + 1)) dL_isNext_106 rfl (nI_inc k) (by decide) rfl ?_
                  dsimp only [List.set]
                  refine V.goto C (tgt := 24) dL_isNext_109 (by decide) ?_
                  exact V.sub (M := [some (.ref (h 0)), some (.int (nI j)), some (.int (nI P)), some (.int (nI (k + 1))), none]) (lsub_s rfl (lsub_s rfl (lsub_s rfl (lsub_s rfl (lsub_n (lsub_e)))))) ih_k
                · have hz := c_7
                  refine V.aload_n C dL_isNext_84 rfl ?_
                  refine V.iload_n C dL_isNext_85 rfl ?_
                  refine V.iconst C (v := nI 2) dL_isNext_86 (by decide) ?_
                  refine V.callVi C (ct_X6_ofPerson (j := k) (k := 2) hT hN hN40 hP hP24 hpc (by omega) (by omega)) gL_isNext_X6_ofPerson (n := 2) ⟨rfl, by decide, by decide, by decide +kernel⟩ rfl (q0 := 0) rfl rfl rfl rfl ⟨Nat.le_of_ble_eq_true rfl, Nat.le_of_ble_eq_true rfl⟩ ⟨rfl, rfl, Nat.zero_le _, Nat.zero_le _⟩ (Nat.le_of_ble_eq_true rfl) dL_isNext_87 ?_
                  refine V.topi (y := jFat σ k (nI 0)) (rfl) ?_
                  refine V.aload_n C dL_isNext_90 rfl ?_
                  refine V.iload_n C dL_isNext_91 rfl ?_
                  refine V.iconst C (v := nI 2) dL_isNext_92 (by decide) ?_
                  refine V.callVi C (ct_X6_ofPerson (j := j) (k := 2) hT hN hN40 hP hP24 hpc (by omega) (by omega)) gL_isNext_X6_ofPerson (n := 2) ⟨rfl, by decide, by decide, by decide +kernel⟩ rfl (q0 := 0) rfl rfl rfl rfl ⟨Nat.le_of_ble_eq_true rfl, Nat.le_of_ble_eq_true rfl⟩ ⟨rfl, rfl, Nat.zero_le _, Nat.zero_le _⟩ (Nat.le_of_ble_eq_true rfl) dL_isNext_93 ?_
                  refine V.topi (y := jFat σ j (nI 0)) (rfl) ?_
                  refine V.icmp_ne C (tgt := 106) dL_isNext_96 (by decide) (fun c_8 => ?_) (fun c_8 => ?_)
                  · refine V.iinc C (v := nI (k + 1)) dL_isNext_106 rfl (nI_inc k) (by decide) rfl ?_
                    dsimp only [List.set]
                    refine V.goto C (tgt := 24) dL_isNext_109 (by decide) ?_
                    exact V.sub (M := [some (.ref (h 0)), some (.int (nI j)), some (.int (nI P)), some (.int (nI (k + 1))), none]) (lsub_s rfl (lsub_s rfl (lsub_s rfl (lsub_s rfl (lsub_n (lsub_e)))))) ih_k
                  · have heq := c_8
                    refine V.iload_n C dL_isNext_99 rfl ?_
                    refine V.iload_n C dL_isNext_100 rfl ?_
                    refine V.icmp_ge C (tgt := 106) dL_isNext_101 (by decide) (fun c_9 => ?_) (fun c_9 => ?_)
                    · refine V.iinc C (v := nI (k + 1)) dL_isNext_106 rfl (nI_inc k) (by decide) rfl ?_
                      dsimp only [List.set]
                      refine V.goto C (tgt := 24) dL_isNext_109 (by decide) ?_
                      exact V.sub (M := [some (.ref (h 0)), some (.int (nI j)), some (.int (nI P)), some (.int (nI (k + 1))), none]) (lsub_s rfl (lsub_s rfl (lsub_s rfl (lsub_s rfl (lsub_n (lsub_e)))))) ih_k
                    · exfalso
                      exact ((hb k hk hcan).2 hz).2 heq ((nI_ltI (by omega) (by omega)).mp c_9)
              · have hz := c_6
                refine V.aload_n C dL_isNext_64 rfl ?_
                refine V.iload_n C dL_isNext_65 rfl ?_
                refine V.iconst C (v := nI 2) dL_isNext_66 (by decide) ?_
                refine V.callVi C (ct_X6_ofPerson (j := k) (k := 2) hT hN hN40 hP hP24 hpc (by omega) (by omega)) gL_isNext_X6_ofPerson (n := 2) ⟨rfl, by decide, by decide, by decide +kernel⟩ rfl (q0 := 0) rfl rfl rfl rfl ⟨Nat.le_of_ble_eq_true rfl, Nat.le_of_ble_eq_true rfl⟩ ⟨rfl, rfl, Nat.zero_le _, Nat.zero_le _⟩ (Nat.le_of_ble_eq_true rfl) dL_isNext_67 ?_
                refine V.topi (y := jFat σ k (nI 0)) (rfl) ?_
                refine V.aload_n C dL_isNext_70 rfl ?_
                refine V.iload_n C dL_isNext_71 rfl ?_
                refine V.iconst C (v := nI 2) dL_isNext_72 (by decide) ?_
                refine V.callVi C (ct_X6_ofPerson (j := j) (k := 2) hT hN hN40 hP hP24 hpc (by omega) (by omega)) gL_isNext_X6_ofPerson (n := 2) ⟨rfl, by decide, by decide, by decide +kernel⟩ rfl (q0 := 0) rfl rfl rfl rfl ⟨Nat.le_of_ble_eq_true rfl, Nat.le_of_ble_eq_true rfl⟩ ⟨rfl, rfl, Nat.zero_le _, Nat.zero_le _⟩ (Nat.le_of_ble_eq_true rfl) dL_isNext_73 ?_
                refine V.topi (y := jFat σ j (nI 0)) (rfl) ?_
                refine V.icmp_lt C (tgt := 104) dL_isNext_76 (by decide) (fun c_10 => ?_) (fun c_10 => ?_)
                · exfalso
                  exact ((hb k hk hcan).2 hz).1 c_10
                · refine V.iload C dL_isNext_79 rfl ?_
                  refine V.if_ne C (tgt := 106) dL_isNext_81 (by decide) (fun c_11 => ?_) (fun c_11 => ?_)
                  · refine V.iinc C (v := nI (k + 1)) dL_isNext_106 rfl (nI_inc k) (by decide) rfl ?_
                    dsimp only [List.set]
                    refine V.goto C (tgt := 24) dL_isNext_109 (by decide) ?_
                    exact V.sub (M := [some (.ref (h 0)), some (.int (nI j)), some (.int (nI P)), some (.int (nI (k + 1))), none]) (lsub_s rfl (lsub_s rfl (lsub_s rfl (lsub_s rfl (lsub_n (lsub_e)))))) ih_k
                  · have hz := c_11
                    refine V.aload_n C dL_isNext_84 rfl ?_
                    refine V.iload_n C dL_isNext_85 rfl ?_
                    refine V.iconst C (v := nI 2) dL_isNext_86 (by decide) ?_
                    refine V.callVi C (ct_X6_ofPerson (j := k) (k := 2) hT hN hN40 hP hP24 hpc (by omega) (by omega)) gL_isNext_X6_ofPerson (n := 2) ⟨rfl, by decide, by decide, by decide +kernel⟩ rfl (q0 := 0) rfl rfl rfl rfl ⟨Nat.le_of_ble_eq_true rfl, Nat.le_of_ble_eq_true rfl⟩ ⟨rfl, rfl, Nat.zero_le _, Nat.zero_le _⟩ (Nat.le_of_ble_eq_true rfl) dL_isNext_87 ?_
                    refine V.topi (y := jFat σ k (nI 0)) (rfl) ?_
                    refine V.aload_n C dL_isNext_90 rfl ?_
                    refine V.iload_n C dL_isNext_91 rfl ?_
                    refine V.iconst C (v := nI 2) dL_isNext_92 (by decide) ?_
                    refine V.callVi C (ct_X6_ofPerson (j := j) (k := 2) hT hN hN40 hP hP24 hpc (by omega) (by omega)) gL_isNext_X6_ofPerson (n := 2) ⟨rfl, by decide, by decide, by decide +kernel⟩ rfl (q0 := 0) rfl rfl rfl rfl ⟨Nat.le_of_ble_eq_true rfl, Nat.le_of_ble_eq_true rfl⟩ ⟨rfl, rfl, Nat.zero_le _, Nat.zero_le _⟩ (Nat.le_of_ble_eq_true rfl) dL_isNext_93 ?_
                    refine V.topi (y := jFat σ j (nI 0)) (rfl) ?_
                    refine V.icmp_ne C (tgt := 106) dL_isNext_96 (by decide) (fun c_12 => ?_) (fun c_12 => ?_)
                    · refine V.iinc C (v := nI (k + 1)) dL_isNext_106 rfl (nI_inc k) (by decide) rfl ?_
                      dsimp only [List.set]
                      refine V.goto C (tgt := 24) dL_isNext_109 (by decide) ?_
                      exact V.sub (M := [some (.ref (h 0)), some (.int (nI j)), some (.int (nI P)), some (.int (nI (k + 1))), none]) (lsub_s rfl (lsub_s rfl (lsub_s rfl (lsub_s rfl (lsub_n (lsub_e)))))) ih_k
                    · have heq := c_12
                      refine V.iload_n C dL_isNext_99 rfl ?_
                      refine V.iload_n C dL_isNext_100 rfl ?_
                      refine V.icmp_ge C (tgt := 106) dL_isNext_101 (by decide) (fun c_13 => ?_) (fun c_13 => ?_)
                      · refine V.iinc C (v := nI (k + 1)) dL_isNext_106 rfl (nI_inc k) (by decide) rfl ?_
                        dsimp only [List.set]
                        refine V.goto C (tgt := 24) dL_isNext_109 (by decide) ?_
                        exact V.sub (M := [some (.ref (h 0)), some (.int (nI j)), some (.int (nI P)), some (.int (nI (k + 1))), none]) (lsub_s rfl (lsub_s rfl (lsub_s rfl (lsub_s rfl (lsub_n (lsub_e)))))) ih_k
                      · exfalso
                        exact ((hb k hk hcan).2 hz).2 heq ((nI_ltI (by omega) (by omega)).mp c_13)
          · refine V.goto C (tgt := 106) dL_isNext_38 (by decide) ?_
            refine V.iinc C (v := nI (k + 1)) dL_isNext_106 rfl (nI_inc k) (by decide) rfl ?_
            dsimp only [List.set]
            refine V.goto C (tgt := 24) dL_isNext_109 (by decide) ?_
            exact V.sub (M := [some (.ref (h 0)), some (.int (nI j)), some (.int (nI P)), some (.int (nI (k + 1))), none]) (lsub_s rfl (lsub_s rfl (lsub_s rfl (lsub_s rfl (lsub_n (lsub_e)))))) ih_k
      · try dsimp only
        refine V.iload_n C dL_isNext_24 rfl ?_
        refine V.iload_n C dL_isNext_25 rfl ?_
        refine V.icmp_ge C (tgt := 112) dL_isNext_26 (by decide) (fun c_14 => ?_) (fun c_14 => ?_)
        · refine V.iconst C (v := nI 1) dL_isNext_112 (by decide) ?_
          refine hQ _ _ _ _ _ (Or.inr (Or.inl ⟨_, _, dL_isNext_113, rfl, (by first | rfl | exact nar_bI _), rfl, rfl⟩)) ⟨?_, rfl⟩
          rfl
        · exfalso
          exact absurd c_14 (nI_nlt (Nat.le_refl _) (by omega))
    · exfalso
      exact (jCan_and hc).2.1 c_2
theorem cnt_t {p : Nat → Bool} {k : Nat} (h : p k = true) : jCnt p k + nI 1 = jCnt p (k + 1) := by
  rw [jCnt, if_pos h]
  rfl
theorem cnt_f {p : Nat → Bool} {k : Nat} (h : p k = false) : jCnt p k + nI 0 = jCnt p (k + 1) := by
  rw [jCnt, if_neg (by rw [h]; decide), show nI 0 = 0 from rfl, Int32.add_zero]
/-- in how many of the first k INTERVIEWS each PERSON is, as a row -/
def onR (σ : Nat → Nat → Int32) (P k : Nat) : Nat → Int32 := fun p => if p < P then nI (cN (onB σ p) k) else 0
theorem onR_0 (σ : Nat → Nat → Int32) (P : Nat) : (fun _ => (0 : Int32)) = onR σ P 0 := by
  funext p
  unfold onR
  split <;> rfl
theorem onR_s {σ : Nat → Nat → Int32} {N P Q n k : Nat} (h : Inv σ N P Q n) (hk : k < N) {x : Int32} (hx : (σ 19 k < nI 2 ∧ x = nI 1) ∨ (¬ σ 19 k < nI 2 ∧ x = nI 0)) : upd (onR σ P k) (jP σ k) (onR σ P k (jP σ k) + x) = onR σ P (k + 1) := by
  have hP := h.1.2.2.2.1
  have hj := (Inv_jP h.2.2.2.2.1 hP hk).1
  funext p
  unfold upd
  by_cases e : p = jP σ k
  · subst e
    rw [if_pos rfl]
    unfold onR
    rw [if_pos hj, if_pos hj, cN]
    rcases hx with ⟨h1, rfl⟩ | ⟨h1, rfl⟩
    · rw [if_pos (onB_iff.mpr ⟨(state_lt2 h hk).mp h1, rfl⟩)]
      exact nI_add _ 1
    · rw [if_neg (fun z => h1 ((state_lt2 h hk).mpr (onB_iff.mp z).1))]
      exact nI_add _ 0
  · rw [if_neg e]
    unfold onR
    split
    · rw [cN, if_neg (fun z => e (onB_iff.mp z).2.symm)]
    · rfl
theorem secs_ok {σ : Nat → Nat → Int32} {N P Q n k : Nat} (h : Inv σ N P Q n) (hk : k < N) : σ 21 k = jCnt (fun q => decide (jGiven σ k q ≠ -1)) Q ∧ ¬ σ 22 k < jCnt (fun q => decide (jGiven σ k q ≠ -1)) Q := by
  have hN := h.1.2.1
  have h1 : σ 21 k = jCnt (fun q => decide (jGiven σ k q ≠ -1)) Q := by
    rw [jCnt_cN]
    exact (h.2.2.2.2.1.2.1 k (by omega)).1
  refine ⟨h1, fun z => ?_⟩
  rw [← h1] at z
  have h2 := (h.2.2.2.2.1.1 k hk).2.2.2.1.1
  have h3 := tI_lt.mp z
  omega
theorem on_ok {σ : Nat → Nat → Int32} {N P Q n p : Nat} (h : Inv σ N P Q n) (hp : p < P) : ¬ nI 1 < onR σ P N p ∧ (onR σ P N p = nI 1 → jCan σ p (nI 0) = false) := by
  have h1 := on_le h hp
  unfold onR
  rw [if_pos hp]
  refine ⟨nI_nlt h1 (by omega), fun e => on_can h hp (nI_inj e (by omega) (by omega))⟩
theorem fat_ok {σ : Nat → Nat → Int32} {N P Q n p : Nat} (h : Inv σ N P Q n) (hp : p < P) : ¬ nI 9 < jFat σ p (nI 0) := by
  have h1 := (h.2.2.2.1 p hp).2.1
  rw [jFat_0 h1]
  intro z
  have := tI_lt.mp z
  rw [tI_n (by omega)] at this
  omega
