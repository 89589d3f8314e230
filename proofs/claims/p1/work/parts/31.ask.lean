set_option maxRecDepth 100000 in
set_option maxHeartbeats 4000000 in
theorem ct_X6_canBeAsked {l : Launch} {D : va_G} {tys : List (ClassId × FieldType)} {cI : ClassId} {h : Nat → Nat} {σ : Nat → Nat → Int32} (hT : tys[0]? = some (cI, .int)) {j : Nat} {d : Int32} {N : Nat} (hN : σ 4 0 = nI N) (hN40 : N ≤ 40) (hj : j < 24) (hpc : Nn (σ 13 j) 6) : Cd l D tys yX6_canBeAsked wsX6_canBeAsked ({ frames := 3, cells := 0, slots := 0, locals := 70 } : Room) (SW cI h σ) [.ref (h 0), .int (nI j), .int d] (some (.int (bI (jCan σ j d)))) (SW cI h σ) := by
  refine Ct.of [some (.ref (h 0)), some (.int (nI j)), some (.int d)] (by decide) rfl rfl (Nat.le_of_ble_eq_true rfl) rfl (fun κ C hQ => ?_)
  have iX6 : ∀ z ∈ u_ws RX6 TX6 8, z ∈ wsX6_canBeAsked := by decide +kernel
  refine V.aload_n C dX6_canBeAsked_0 rfl ?_
  refine V.get C (q0 := 0) (k := 3) rfl rfl (by decide) iX6 (by decide +kernel) rfl rfl dX6_canBeAsked_1 ?_
  refine V.aload_n C dX6_canBeAsked_4 rfl ?_
  refine V.get C (q0 := 0) (k := 2) rfl rfl (by decide) iX6 (by decide +kernel) rfl rfl dX6_canBeAsked_5 ?_
  refine V.iload_n C dX6_canBeAsked_8 rfl ?_
  refine V.callVi C (ct_X1_latestOf hT hj) gX6_canBeAsked_X1_latestOf (n := 1) ⟨rfl, by decide, by decide, by decide +kernel⟩ rfl (q0 := 3) rfl rfl rfl rfl ⟨Nat.le_of_ble_eq_true rfl, Nat.le_of_ble_eq_true rfl⟩ ⟨rfl, rfl, Nat.zero_le _, Nat.zero_le _⟩ (Nat.le_of_ble_eq_true rfl) dX6_canBeAsked_9 ?_
  refine V.callVi C (ct_X0_isTaken hT hN hN40) gX6_canBeAsked_X0_isTaken (n := 1) ⟨rfl, by decide, by decide, by decide +kernel⟩ rfl (q0 := 4) rfl rfl rfl rfl ⟨Nat.le_of_ble_eq_true rfl, Nat.le_of_ble_eq_true rfl⟩ ⟨rfl, rfl, Nat.zero_le _, Nat.zero_le _⟩ (Nat.le_of_ble_eq_true rfl) dX6_canBeAsked_12 ?_
  refine V.if_ne C (tgt := 53) dX6_canBeAsked_15 (by decide) (fun c_1 => ?_) (fun c_1 => ?_)
  · refine V.iconst C (v := nI 0) dX6_canBeAsked_53 (by decide) ?_
    refine hQ _ _ _ _ _ (Or.inr (Or.inl ⟨_, _, dX6_canBeAsked_54, rfl, (by first | rfl | exact nar_bI _), rfl, rfl⟩)) ⟨?_, rfl⟩
    (clear hQ C; (try simp only [bI_0] at *); first | (simp [jCan, jPc, bI_t2, bI_f2, *]; done) | (simp_all; done))
  · refine V.aload_n C dX6_canBeAsked_18 rfl ?_
    refine V.get C (q0 := 0) (k := 2) rfl rfl (by decide) iX6 (by decide +kernel) rfl rfl dX6_canBeAsked_19 ?_
    refine V.iload_n C dX6_canBeAsked_22 rfl ?_
    refine V.iload_n C dX6_canBeAsked_23 rfl ?_
    refine V.callVi C (ct_X1_fatigueIn hT hj) gX6_canBeAsked_X1_fatigueIn (n := 2) ⟨rfl, by decide, by decide, by decide +kernel⟩ rfl (q0 := 3) rfl rfl rfl rfl ⟨Nat.le_of_ble_eq_true rfl, Nat.le_of_ble_eq_true rfl⟩ ⟨rfl, rfl, Nat.zero_le _, Nat.zero_le _⟩ (Nat.le_of_ble_eq_true rfl) dX6_canBeAsked_24 ?_
    refine V.iconst C (v := nI 4) dX6_canBeAsked_27 (by decide) ?_
    refine V.icmp_gt C (tgt := 53) dX6_canBeAsked_28 (by decide) (fun c_2 => ?_) (fun c_2 => ?_)
    · refine V.iconst C (v := nI 0) dX6_canBeAsked_53 (by decide) ?_
      refine hQ _ _ _ _ _ (Or.inr (Or.inl ⟨_, _, dX6_canBeAsked_54, rfl, (by first | rfl | exact nar_bI _), rfl, rfl⟩)) ⟨?_, rfl⟩
      (clear hQ C; (try simp only [bI_0] at *); first | (simp [jCan, jPc, bI_t2, bI_f2, *]; done) | (simp_all; done))
    · refine V.aload_n C dX6_canBeAsked_31 rfl ?_
      refine V.get C (q0 := 0) (k := 1) rfl rfl (by decide) iX6 (by decide +kernel) rfl rfl dX6_canBeAsked_32 ?_
      refine V.aload_n C dX6_canBeAsked_35 rfl ?_
      refine V.get C (q0 := 0) (k := 2) rfl rfl (by decide) iX6 (by decide +kernel) rfl rfl dX6_canBeAsked_36 ?_
      refine V.iload_n C dX6_canBeAsked_39 rfl ?_
      refine V.callVi C (ct_X1_cellOf hT hj) gX6_canBeAsked_X1_cellOf (n := 1) ⟨rfl, by decide, by decide, by decide +kernel⟩ rfl (q0 := 3) rfl rfl rfl rfl ⟨Nat.le_of_ble_eq_true rfl, Nat.le_of_ble_eq_true rfl⟩ ⟨rfl, rfl, Nat.zero_le _, Nat.zero_le _⟩ (Nat.le_of_ble_eq_true rfl) dX6_canBeAsked_40 ?_
      refine V.topi (y := nI (jPc σ j)) (hpc.1) ?_
      refine V.callVi C (ct_X3_isOpen hT hpc.2) gX6_canBeAsked_X3_isOpen (n := 1) ⟨rfl, by decide, by decide, by decide +kernel⟩ rfl (q0 := 2) rfl rfl rfl rfl ⟨Nat.le_of_ble_eq_true rfl, Nat.le_of_ble_eq_true rfl⟩ ⟨rfl, rfl, Nat.zero_le _, Nat.zero_le _⟩ (Nat.le_of_ble_eq_true rfl) dX6_canBeAsked_43 ?_
      refine V.if_eq C (tgt := 53) dX6_canBeAsked_46 (by decide) (fun c_3 => ?_) (fun c_3 => ?_)
      · refine V.iconst C (v := nI 0) dX6_canBeAsked_53 (by decide) ?_
        refine hQ _ _ _ _ _ (Or.inr (Or.inl ⟨_, _, dX6_canBeAsked_54, rfl, (by first | rfl | exact nar_bI _), rfl, rfl⟩)) ⟨?_, rfl⟩
        (clear hQ C; (try simp only [bI_0] at *); first | (simp [jCan, jPc, bI_t2, bI_f2, *]; done) | (simp_all; done))
      · refine V.iconst C (v := nI 1) dX6_canBeAsked_49 (by decide) ?_
        refine V.goto C (tgt := 54) dX6_canBeAsked_50 (by decide) ?_
        refine hQ _ _ _ _ _ (Or.inr (Or.inl ⟨_, _, dX6_canBeAsked_54, rfl, (by first | rfl | exact nar_bI _), rfl, rfl⟩)) ⟨?_, rfl⟩
        (clear hQ C; (try simp only [bI_0] at *); first | (simp [jCan, jPc, bI_t2, bI_f2, *]; done) | (simp_all; done))
set_option maxRecDepth 100000 in
set_option maxHeartbeats 4000000 in
theorem ct_X6_countToAsk {l : Launch} {D : va_G} {tys : List (ClassId × FieldType)} {cI : ClassId} {h : Nat → Nat} {σ : Nat → Nat → Int32} (hT : tys[0]? = some (cI, .int)) {x : Int32} {N : Nat} (hN : σ 4 0 = nI N) (hN40 : N ≤ 40) {P : Nat} (hP : σ 3 0 = nI P) (hP24 : P ≤ 24) (hpc : ∀ p, p < P → Nn (σ 13 p) 6) : Cd l D tys yX6_countToAsk wsX6_countToAsk ({ frames := 4, cells := 0, slots := 0, locals := 92 } : Room) (SW cI h σ) [.ref (h 0), .int x] (some (.int (jToAsk σ P x))) (SW cI h σ) := by
  refine Ct.of [some (.ref (h 0)), some (.int x), none, none] (by decide) rfl rfl (Nat.le_of_ble_eq_true rfl) rfl (fun κ C hQ => ?_)
  have iX6 : ∀ z ∈ u_ws RX6 TX6 8, z ∈ wsX6_countToAsk := by decide +kernel
  refine V.iconst C (v := nI 0) dX6_countToAsk_0 (by decide) ?_
  refine V.istore_n C dX6_countToAsk_1 (by decide) rfl ?_
  dsimp only [List.set, Fin.val]
  refine V.iconst C (v := nI 0) dX6_countToAsk_2 (by decide) ?_
  refine V.istore_n C dX6_countToAsk_3 (by decide) rfl ?_
  dsimp only [List.set, Fin.val]
  refine V.loop (P) (fun k => SW cI h σ) (fun k => [some (.ref (h 0)), some (.int x), some (.int (jCnt (fun p => decide (σ 13 p = x) && jCan σ p (nI 0)) k)), some (.int (nI k))]) (fun k hk ih_k => ?_) ?_ (rfl) (lsub_s rfl (lsub_s rfl (lsub_s rfl (lsub_s rfl (lsub_e)))))
  · try dsimp only
    refine V.iload_n C dX6_countToAsk_4 rfl ?_
    refine V.aload_n C dX6_countToAsk_5 rfl ?_
    refine V.get C (q0 := 0) (k := 2) rfl rfl (by decide) iX6 (by decide +kernel) rfl rfl dX6_countToAsk_6 ?_
    refine V.callVi C (ct_X1_size) gX6_countToAsk_X1_size (n := 0) ⟨rfl, by decide, by decide, by decide +kernel⟩ rfl (q0 := 3) rfl rfl rfl rfl ⟨Nat.le_of_ble_eq_true rfl, Nat.le_of_ble_eq_true rfl⟩ ⟨rfl, rfl, Nat.zero_le _, Nat.zero_le _⟩ (Nat.le_of_ble_eq_true rfl) dX6_countToAsk_9 ?_
    refine V.topi (y := nI P) (hP) ?_
    refine V.icmp_ge C (tgt := 45) dX6_countToAsk_12 (by decide) (fun c_1 => ?_) (fun c_1 => ?_)
    · exfalso
      exact c_1 (nI_lt hk (by omega))
    · refine V.aload_n C dX6_countToAsk_15 rfl ?_
      refine V.get C (q0 := 0) (k := 2) rfl rfl (by decide) iX6 (by decide +kernel) rfl rfl dX6_countToAsk_16 ?_
      refine V.iload_n C dX6_countToAsk_19 rfl ?_
      refine V.callVi C (ct_X1_cellOf hT (by omega)) gX6_countToAsk_X1_cellOf (n := 1) ⟨rfl, by decide, by decide, by decide +kernel⟩ rfl (q0 := 3) rfl rfl rfl rfl ⟨Nat.le_of_ble_eq_true rfl, Nat.le_of_ble_eq_true rfl⟩ ⟨rfl, rfl, Nat.zero_le _, Nat.zero_le _⟩ (Nat.le_of_ble_eq_true rfl) dX6_countToAsk_20 ?_
      refine V.iload_n C dX6_countToAsk_23 rfl ?_
      refine V.icmp_ne C (tgt := 39) dX6_countToAsk_24 (by decide) (fun c_2 => ?_) (fun c_2 => ?_)
      · refine V.iinc C (v := nI (k + 1)) dX6_countToAsk_39 rfl (nI_inc k) (by decide) rfl ?_
        dsimp only [List.set]
        refine V.goto C (tgt := 4) dX6_countToAsk_42 (by decide) ?_
        exact V.sub (M := [some (.ref (h 0)), some (.int x), some (.int (jCnt (fun p => decide (σ 13 p = x) && jCan σ p (nI 0)) (k + 1))), some (.int (nI (k + 1)))]) (lsub_s rfl (lsub_s rfl (lsub_si (by (clear hQ C; (try simp only [bI_0] at *); first | (simp [jCnt, bI_t2, bI_f2, *]; done) | (simp_all; done))) rfl (lsub_s rfl (lsub_e))))) ih_k
      · refine V.aload_n C dX6_countToAsk_27 rfl ?_
        refine V.iload_n C dX6_countToAsk_28 rfl ?_
        refine V.iconst C (v := nI 0) dX6_countToAsk_29 (by decide) ?_
        refine V.callVi C (ct_X6_canBeAsked hT hN hN40 (by omega) (hpc _ hk)) gX6_countToAsk_X6_canBeAsked (n := 2) ⟨rfl, by decide, by decide, by decide +kernel⟩ rfl (q0 := 0) rfl rfl rfl rfl ⟨Nat.le_of_ble_eq_true rfl, Nat.le_of_ble_eq_true rfl⟩ ⟨rfl, rfl, Nat.zero_le _, Nat.zero_le _⟩ (Nat.le_of_ble_eq_true rfl) dX6_countToAsk_30 ?_
        refine V.if_eq C (tgt := 39) dX6_countToAsk_33 (by decide) (fun c_3 => ?_) (fun c_3 => ?_)
        · refine V.iinc C (v := nI (k + 1)) dX6_countToAsk_39 rfl (nI_inc k) (by decide) rfl ?_
          dsimp only [List.set]
          refine V.goto C (tgt := 4) dX6_countToAsk_42 (by decide) ?_
          exact V.sub (M := [some (.ref (h 0)), some (.int x), some (.int (jCnt (fun p => decide (σ 13 p = x) && jCan σ p (nI 0)) (k + 1))), some (.int (nI (k + 1)))]) (lsub_s rfl (lsub_s rfl (lsub_si (by (clear hQ C; (try simp only [bI_0] at *); first | (simp [jCnt, bI_t2, bI_f2, *]; done) | (simp_all; done))) rfl (lsub_s rfl (lsub_e))))) ih_k
        · refine V.iinc C dX6_countToAsk_36 rfl rfl (by decide) rfl ?_
          dsimp only [List.set]
          refine V.iinc C (v := nI (k + 1)) dX6_countToAsk_39 rfl (nI_inc k) (by decide) rfl ?_
          dsimp only [List.set]
          refine V.goto C (tgt := 4) dX6_countToAsk_42 (by decide) ?_
          exact V.sub (M := [some (.ref (h 0)), some (.int x), some (.int (jCnt (fun p => decide (σ 13 p = x) && jCan σ p (nI 0)) (k + 1))), some (.int (nI (k + 1)))]) (lsub_s rfl (lsub_s rfl (lsub_si (by (clear hQ C; (try simp only [bI_0] at *); first | (simp [jCnt, bI_t2, bI_f2, *]; done) | (simp_all; done))) rfl (lsub_s rfl (lsub_e))))) ih_k
  · try dsimp only
    refine V.iload_n C dX6_countToAsk_4 rfl ?_
    refine V.aload_n C dX6_countToAsk_5 rfl ?_
    refine V.get C (q0 := 0) (k := 2) rfl rfl (by decide) iX6 (by decide +kernel) rfl rfl dX6_countToAsk_6 ?_
    refine V.callVi C (ct_X1_size) gX6_countToAsk_X1_size (n := 0) ⟨rfl, by decide, by decide, by decide +kernel⟩ rfl (q0 := 3) rfl rfl rfl rfl ⟨Nat.le_of_ble_eq_true rfl, Nat.le_of_ble_eq_true rfl⟩ ⟨rfl, rfl, Nat.zero_le _, Nat.zero_le _⟩ (Nat.le_of_ble_eq_true rfl) dX6_countToAsk_9 ?_
    refine V.topi (y := nI P) (hP) ?_
    refine V.icmp_ge C (tgt := 45) dX6_countToAsk_12 (by decide) (fun c_4 => ?_) (fun c_4 => ?_)
    · refine V.iload_n C dX6_countToAsk_45 rfl ?_
      refine hQ _ _ _ _ _ (Or.inr (Or.inl ⟨_, _, dX6_countToAsk_46, rfl, rfl, rfl, rfl⟩)) ⟨?_, rfl⟩
      rfl
    · exfalso
      exact absurd c_4 (nI_nlt (Nat.le_refl _) (by omega))
set_option maxRecDepth 100000 in
set_option maxHeartbeats 4000000 in
theorem ct_X6_countAllToAsk {l : Launch} {D : va_G} {tys : List (ClassId × FieldType)} {cI : ClassId} {h : Nat → Nat} {σ : Nat → Nat → Int32} (hT : tys[0]? = some (cI, .int)) {N : Nat} (hN : σ 4 0 = nI N) (hN40 : N ≤ 40) {P : Nat} (hP : σ 3 0 = nI P) (hP24 : P ≤ 24) (hpc : ∀ p, p < P → Nn (σ 13 p) 6) : Cd l D tys yX6_countAllToAsk wsX6_countAllToAsk ({ frames := 5, cells := 0, slots := 0, locals := 115 } : Room) (SW cI h σ) [.ref (h 0)] (some (.int (jAllAsk σ P))) (SW cI h σ) := by
  refine Ct.of [some (.ref (h 0)), none, none] (by decide) rfl rfl (Nat.le_of_ble_eq_true rfl) rfl (fun κ C hQ => ?_)
  refine V.iconst C (v := nI 0) dX6_countAllToAsk_0 (by decide) ?_
  refine V.istore_n C dX6_countAllToAsk_1 (by decide) rfl ?_
  dsimp only [List.set, Fin.val]
  refine V.iconst C (v := nI 0) dX6_countAllToAsk_2 (by decide) ?_
  refine V.istore_n C dX6_countAllToAsk_3 (by decide) rfl ?_
  dsimp only [List.set, Fin.val]
  refine V.loop (6) (fun k => SW cI h σ) (fun k => [some (.ref (h 0)), some (.int (jSum (fun c => jToAsk σ P (nI c)) k)), some (.int (nI k))]) (fun k hk ih_k => ?_) ?_ (rfl) (lsub_s rfl (lsub_s rfl (lsub_s rfl (lsub_e))))
  · try dsimp only
    refine V.iload_n C dX6_countAllToAsk_4 rfl ?_
    refine V.bipush C (v := nI 6) dX6_countAllToAsk_5 (by decide) ?_
    refine V.icmp_ge C (tgt := 24) dX6_countAllToAsk_7 (by decide) (fun c_1 => ?_) (fun c_1 => ?_)
    · exfalso
      exact c_1 (nI_lt hk (by decide))
    · refine V.iload_n C dX6_countAllToAsk_10 rfl ?_
      refine V.aload_n C dX6_countAllToAsk_11 rfl ?_
      refine V.iload_n C dX6_countAllToAsk_12 rfl ?_
      refine V.callVi C (ct_X6_countToAsk hT hN hN40 hP hP24 hpc) gX6_countAllToAsk_X6_countToAsk (n := 1) ⟨rfl, by decide, by decide, by decide +kernel⟩ rfl (q0 := 0) rfl rfl rfl rfl ⟨Nat.le_of_ble_eq_true rfl, Nat.le_of_ble_eq_true rfl⟩ ⟨rfl, rfl, Nat.zero_le _, Nat.zero_le _⟩ (Nat.le_of_ble_eq_true rfl) dX6_countAllToAsk_13 ?_
      refine V.iadd C dX6_countAllToAsk_16 ?_
      refine V.istore_n C dX6_countAllToAsk_17 (by decide) rfl ?_
      dsimp only [List.set, Fin.val]
      refine V.iinc C (v := nI (k + 1)) dX6_countAllToAsk_18 rfl (nI_inc k) (by decide) rfl ?_
      dsimp only [List.set]
      refine V.goto C (tgt := 4) dX6_countAllToAsk_21 (by decide) ?_
      exact V.sub (M := [some (.ref (h 0)), some (.int (jSum (fun c => jToAsk σ P (nI c)) (k + 1))), some (.int (nI (k + 1)))]) (lsub_s rfl (lsub_s rfl (lsub_s rfl (lsub_e)))) ih_k
  · try dsimp only
    refine V.iload_n C dX6_countAllToAsk_4 rfl ?_
    refine V.bipush C (v := nI 6) dX6_countAllToAsk_5 (by decide) ?_
    refine V.icmp_ge C (tgt := 24) dX6_countAllToAsk_7 (by decide) (fun c_2 => ?_) (fun c_2 => ?_)
    · refine V.iload_n C dX6_countAllToAsk_24 rfl ?_
      refine hQ _ _ _ _ _ (Or.inr (Or.inl ⟨_, _, dX6_countAllToAsk_25, rfl, rfl, rfl, rfl⟩)) ⟨?_, rfl⟩
      rfl
    · exfalso
      exact absurd c_2 (nI_nlt (Nat.le_refl _) (by decide))
set_option maxRecDepth 100000 in
set_option maxHeartbeats 4000000 in
theorem ct_X6_isAhead {l : Launch} {D : va_G} {tys : List (ClassId × FieldType)} {cI : ClassId} {h : Nat → Nat} {σ : Nat → Nat → Int32} (hT : tys[0]? = some (cI, .int)) {j o : Nat} {d : Int32} (hj : j < 24) (ho : o < 24) (hcj : Nn (σ 13 j) 6) (hco : Nn (σ 13 o) 6) : Cd l D tys yX6_isAhead wsX6_isAhead ({ frames := 2, cells := 0, slots := 0, locals := 43 } : Room) (SW cI h σ) [.ref (h 0), .int (nI j), .int (nI o), .int d] (some (.int (bI (jAhead σ j o d)))) (SW cI h σ) := by
  refine Ct.of [some (.ref (h 0)), some (.int (nI j)), some (.int (nI o)), some (.int d), none, none] (by decide) rfl rfl (Nat.le_of_ble_eq_true rfl) rfl (fun κ C hQ => ?_)
  have iX6 : ∀ z ∈ u_ws RX6 TX6 8, z ∈ wsX6_isAhead := by decide +kernel
  refine V.aload_n C dX6_isAhead_0 rfl ?_
  refine V.get C (q0 := 0) (k := 1) rfl rfl (by decide) iX6 (by decide +kernel) rfl rfl dX6_isAhead_1 ?_
  refine V.aload_n C dX6_isAhead_4 rfl ?_
  refine V.get C (q0 := 0) (k := 2) rfl rfl (by decide) iX6 (by decide +kernel) rfl rfl dX6_isAhead_5 ?_
  refine V.iload_n C dX6_isAhead_8 rfl ?_
  refine V.callVi C (ct_X1_cellOf hT hj) gX6_isAhead_X1_cellOf (n := 1) ⟨rfl, by decide, by decide, by decide +kernel⟩ rfl (q0 := 3) rfl rfl rfl rfl ⟨Nat.le_of_ble_eq_true rfl, Nat.le_of_ble_eq_true rfl⟩ ⟨rfl, rfl, Nat.zero_le _, Nat.zero_le _⟩ (Nat.le_of_ble_eq_true rfl) dX6_isAhead_9 ?_
  refine V.topi (y := nI (jPc σ j)) (hcj.1) ?_
  refine V.callVi C (ct_X3_lackOf hT hcj.2) gX6_isAhead_X3_lackOf (n := 1) ⟨rfl, by decide, by decide, by decide +kernel⟩ rfl (q0 := 2) rfl rfl rfl rfl ⟨Nat.le_of_ble_eq_true rfl, Nat.le_of_ble_eq_true rfl⟩ ⟨rfl, rfl, Nat.zero_le _, Nat.zero_le _⟩ (Nat.le_of_ble_eq_true rfl) dX6_isAhead_12 ?_
  refine V.istore C dX6_isAhead_15 (by decide) rfl ?_
  dsimp only [List.set]
  refine V.aload_n C dX6_isAhead_17 rfl ?_
  refine V.get C (q0 := 0) (k := 1) rfl rfl (by decide) iX6 (by decide +kernel) rfl rfl dX6_isAhead_18 ?_
  refine V.aload_n C dX6_isAhead_21 rfl ?_
  refine V.get C (q0 := 0) (k := 2) rfl rfl (by decide) iX6 (by decide +kernel) rfl rfl dX6_isAhead_22 ?_
  refine V.iload_n C dX6_isAhead_25 rfl ?_
  refine V.callVi C (ct_X1_cellOf hT ho) gX6_isAhead_X1_cellOf (n := 1) ⟨rfl, by decide, by decide, by decide +kernel⟩ rfl (q0 := 3) rfl rfl rfl rfl ⟨Nat.le_of_ble_eq_true rfl, Nat.le_of_ble_eq_true rfl⟩ ⟨rfl, rfl, Nat.zero_le _, Nat.zero_le _⟩ (Nat.le_of_ble_eq_true rfl) dX6_isAhead_26 ?_
  refine V.topi (y := nI (jPc σ o)) (hco.1) ?_
  refine V.callVi C (ct_X3_lackOf hT hco.2) gX6_isAhead_X3_lackOf (n := 1) ⟨rfl, by decide, by decide, by decide +kernel⟩ rfl (q0 := 2) rfl rfl rfl rfl ⟨Nat.le_of_ble_eq_true rfl, Nat.le_of_ble_eq_true rfl⟩ ⟨rfl, rfl, Nat.zero_le _, Nat.zero_le _⟩ (Nat.le_of_ble_eq_true rfl) dX6_isAhead_29 ?_
  refine V.istore C dX6_isAhead_32 (by decide) rfl ?_
  dsimp only [List.set]
  refine V.iload C dX6_isAhead_34 rfl ?_
  refine V.iload C dX6_isAhead_36 rfl ?_
  refine V.icmp_eq C (tgt := 54) dX6_isAhead_38 (by decide) (fun c_1 => ?_) (fun c_1 => ?_)
  · refine V.aload_n C dX6_isAhead_54 rfl ?_
    refine V.get C (q0 := 0) (k := 2) rfl rfl (by decide) iX6 (by decide +kernel) rfl rfl dX6_isAhead_55 ?_
    refine V.iload_n C dX6_isAhead_58 rfl ?_
    refine V.iload_n C dX6_isAhead_59 rfl ?_
    refine V.callVi C (ct_X1_fatigueIn hT hj) gX6_isAhead_X1_fatigueIn (n := 2) ⟨rfl, by decide, by decide, by decide +kernel⟩ rfl (q0 := 3) rfl rfl rfl rfl ⟨Nat.le_of_ble_eq_true rfl, Nat.le_of_ble_eq_true rfl⟩ ⟨rfl, rfl, Nat.zero_le _, Nat.zero_le _⟩ (Nat.le_of_ble_eq_true rfl) dX6_isAhead_60 ?_
    refine V.aload_n C dX6_isAhead_63 rfl ?_
    refine V.get C (q0 := 0) (k := 2) rfl rfl (by decide) iX6 (by decide +kernel) rfl rfl dX6_isAhead_64 ?_
    refine V.iload_n C dX6_isAhead_67 rfl ?_
    refine V.iload_n C dX6_isAhead_68 rfl ?_
    refine V.callVi C (ct_X1_fatigueIn hT ho) gX6_isAhead_X1_fatigueIn (n := 2) ⟨rfl, by decide, by decide, by decide +kernel⟩ rfl (q0 := 3) rfl rfl rfl rfl ⟨Nat.le_of_ble_eq_true rfl, Nat.le_of_ble_eq_true rfl⟩ ⟨rfl, rfl, Nat.zero_le _, Nat.zero_le _⟩ (Nat.le_of_ble_eq_true rfl) dX6_isAhead_69 ?_
    refine V.icmp_ge C (tgt := 79) dX6_isAhead_72 (by decide) (fun c_2 => ?_) (fun c_2 => ?_)
    · refine V.iconst C (v := nI 0) dX6_isAhead_79 (by decide) ?_
      refine hQ _ _ _ _ _ (Or.inr (Or.inl ⟨_, _, dX6_isAhead_80, rfl, (by first | rfl | exact nar_bI _), rfl, rfl⟩)) ⟨?_, rfl⟩
      (clear hQ C; (try simp only [bI_0] at *); first | (simp [jAhead, jLack, jPc, bI_t2, bI_f2, *]; done) | (simp_all; done))
    · refine V.iconst C (v := nI 1) dX6_isAhead_75 (by decide) ?_
      refine V.goto C (tgt := 80) dX6_isAhead_76 (by decide) ?_
      refine hQ _ _ _ _ _ (Or.inr (Or.inl ⟨_, _, dX6_isAhead_80, rfl, (by first | rfl | exact nar_bI _), rfl, rfl⟩)) ⟨?_, rfl⟩
      (clear hQ C; (try simp only [bI_0] at *); first | (simp [jAhead, jLack, jPc, bI_t2, bI_f2, *]; done) | (simp_all; done))
  · refine V.iload C dX6_isAhead_41 rfl ?_
    refine V.iload C dX6_isAhead_43 rfl ?_
    refine V.icmp_le C (tgt := 52) dX6_isAhead_45 (by decide) (fun c_3 => ?_) (fun c_3 => ?_)
    · refine V.iconst C (v := nI 0) dX6_isAhead_52 (by decide) ?_
      refine hQ _ _ _ _ _ (Or.inr (Or.inl ⟨_, _, dX6_isAhead_53, rfl, (by first | rfl | exact nar_bI _), rfl, rfl⟩)) ⟨?_, rfl⟩
      (clear hQ C; (try simp only [bI_0] at *); first | (simp [jAhead, jLack, jPc, bI_t2, bI_f2, *]; done) | (simp_all; done))
    · refine V.iconst C (v := nI 1) dX6_isAhead_48 (by decide) ?_
      refine V.goto C (tgt := 53) dX6_isAhead_49 (by decide) ?_
      refine hQ _ _ _ _ _ (Or.inr (Or.inl ⟨_, _, dX6_isAhead_53, rfl, (by first | rfl | exact nar_bI _), rfl, rfl⟩)) ⟨?_, rfl⟩
      (clear hQ C; (try simp only [bI_0] at *); first | (simp [jAhead, jLack, jPc, bI_t2, bI_f2, *]; done) | (simp_all; done))
set_option maxRecDepth 100000 in
set_option maxHeartbeats 4000000 in
theorem ct_X6_firstToAsk {l : Launch} {D : va_G} {tys : List (ClassId × FieldType)} {cI : ClassId} {h : Nat → Nat} {σ : Nat → Nat → Int32} (hT : tys[0]? = some (cI, .int)) {d : Int32} {N : Nat} (hN : σ 4 0 = nI N) (hN40 : N ≤ 40) {P : Nat} (hP : σ 3 0 = nI P) (hP24 : P ≤ 24) (hpc : ∀ p, p < P → Nn (σ 13 p) 6) : Cd l D tys yX6_firstToAsk wsX6_firstToAsk ({ frames := 4, cells := 0, slots := 0, locals := 92 } : Room) (SW cI h σ) [.ref (h 0), .int d] (some (.int (jNxt σ d P))) (SW cI h σ) := by
  refine Ct.of [some (.ref (h 0)), some (.int d), none, none] (by decide) rfl rfl (Nat.le_of_ble_eq_true rfl) rfl (fun κ C hQ => ?_)
  have iX6 : ∀ z ∈ u_ws RX6 TX6 8, z ∈ wsX6_firstToAsk := by decide +kernel
  refine V.iconst C (v := (-1)) dX6_firstToAsk_0 (by decide) ?_
  refine V.istore_n C dX6_firstToAsk_1 (by decide) rfl ?_
  dsimp only [List.set, Fin.val]
  refine V.iconst C (v := nI 0) dX6_firstToAsk_2 (by decide) ?_
  refine V.istore_n C dX6_firstToAsk_3 (by decide) rfl ?_
  dsimp only [List.set, Fin.val]
  refine V.loop (P) (fun k => SW cI h σ) (fun k => [some (.ref (h 0)), some (.int d), some (.int (jNxt σ d k)), some (.int (nI k))]) (fun k hk ih_k => ?_) ?_ (rfl) (lsub_s rfl (lsub_s rfl (lsub_s rfl (lsub_s rfl (lsub_e)))))
  · try dsimp only
    refine V.iload_n C dX6_firstToAsk_4 rfl ?_
    refine V.aload_n C dX6_firstToAsk_5 rfl ?_
    refine V.get C (q0 := 0) (k := 2) rfl rfl (by decide) iX6 (by decide +kernel) rfl rfl dX6_firstToAsk_6 ?_
    refine V.callVi C (ct_X1_size) gX6_firstToAsk_X1_size (n := 0) ⟨rfl, by decide, by decide, by decide +kernel⟩ rfl (q0 := 3) rfl rfl rfl rfl ⟨Nat.le_of_ble_eq_true rfl, Nat.le_of_ble_eq_true rfl⟩ ⟨rfl, rfl, Nat.zero_le _, Nat.zero_le _⟩ (Nat.le_of_ble_eq_true rfl) dX6_firstToAsk_9 ?_
    refine V.topi (y := nI P) (hP) ?_
    refine V.icmp_ge C (tgt := 47) dX6_firstToAsk_12 (by decide) (fun c_1 => ?_) (fun c_1 => ?_)
    · exfalso
      exact c_1 (nI_lt hk (by omega))
    · refine V.aload_n C dX6_firstToAsk_15 rfl ?_
      refine V.iload_n C dX6_firstToAsk_16 rfl ?_
      refine V.iload_n C dX6_firstToAsk_17 rfl ?_
      refine V.callVi C (ct_X6_canBeAsked hT hN hN40 (by omega) (hpc _ hk)) gX6_firstToAsk_X6_canBeAsked (n := 2) ⟨rfl, by decide, by decide, by decide +kernel⟩ rfl (q0 := 0) rfl rfl rfl rfl ⟨Nat.le_of_ble_eq_true rfl, Nat.le_of_ble_eq_true rfl⟩ ⟨rfl, rfl, Nat.zero_le _, Nat.zero_le _⟩ (Nat.le_of_ble_eq_true rfl) dX6_firstToAsk_18 ?_
      refine V.if_eq C (tgt := 41) dX6_firstToAsk_21 (by decide) (fun c_2 => ?_) (fun c_2 => ?_)
      · refine V.iinc C (v := nI (k + 1)) dX6_firstToAsk_41 rfl (nI_inc k) (by decide) rfl ?_
        dsimp only [List.set]
        refine V.goto C (tgt := 4) dX6_firstToAsk_44 (by decide) ?_
        exact V.sub (M := [some (.ref (h 0)), some (.int d), some (.int (jNxt σ d (k + 1))), some (.int (nI (k + 1)))]) (lsub_s rfl (lsub_s rfl (lsub_si (by (clear hQ C; (try simp only [bI_0] at *); first | (simp [jNxt, bI_t2, bI_f2, *]; done) | (simp_all; done))) rfl (lsub_s rfl (lsub_e))))) ih_k
      · refine V.iload_n C dX6_firstToAsk_24 rfl ?_
        refine V.iconst C (v := (-1)) dX6_firstToAsk_25 (by decide) ?_
        refine V.icmp_eq C (tgt := 39) dX6_firstToAsk_26 (by decide) (fun c_3 => ?_) (fun c_3 => ?_)
        · refine V.iload_n C dX6_firstToAsk_39 rfl ?_
          refine V.istore_n C dX6_firstToAsk_40 (by decide) rfl ?_
          dsimp only [List.set, Fin.val]
          refine V.iinc C (v := nI (k + 1)) dX6_firstToAsk_41 rfl (nI_inc k) (by decide) rfl ?_
          dsimp only [List.set]
          refine V.goto C (tgt := 4) dX6_firstToAsk_44 (by decide) ?_
          exact V.sub (M := [some (.ref (h 0)), some (.int d), some (.int (jNxt σ d (k + 1))), some (.int (nI (k + 1)))]) (lsub_s rfl (lsub_s rfl (lsub_si (by (clear hQ C; (try simp only [bI_0] at *); first | (simp [jNxt, bI_t2, bI_f2, *]; done) | (simp_all; done))) rfl (lsub_s rfl (lsub_e))))) ih_k
        · refine V.aload_n C dX6_firstToAsk_29 rfl ?_
          refine V.iload_n C dX6_firstToAsk_30 rfl ?_
          refine V.iload_n C dX6_firstToAsk_31 rfl ?_
          refine V.topi (y := nI (jNxt σ d k).toNatClampNeg) (((jNxt_or σ d k (by omega)).resolve_left (by assumption)).1) ?_
          refine V.iload_n C dX6_firstToAsk_32 rfl ?_
          refine V.callVi C (ct_X6_isAhead hT (by omega) (by have := ((jNxt_or σ d k (by omega)).resolve_left (by assumption)).2; omega) (hpc _ hk) (hpc _ (by have := ((jNxt_or σ d k (by omega)).resolve_left (by assumption)).2; omega))) gX6_firstToAsk_X6_isAhead (n := 3) ⟨rfl, by decide, by decide, by decide +kernel⟩ rfl (q0 := 0) rfl rfl rfl rfl ⟨Nat.le_of_ble_eq_true rfl, Nat.le_of_ble_eq_true rfl⟩ ⟨rfl, rfl, Nat.zero_le _, Nat.zero_le _⟩ (Nat.le_of_ble_eq_true rfl) dX6_firstToAsk_33 ?_
          refine V.if_eq C (tgt := 41) dX6_firstToAsk_36 (by decide) (fun c_4 => ?_) (fun c_4 => ?_)
          · refine V.iinc C (v := nI (k + 1)) dX6_firstToAsk_41 rfl (nI_inc k) (by decide) rfl ?_
            dsimp only [List.set]
            refine V.goto C (tgt := 4) dX6_firstToAsk_44 (by decide) ?_
            exact V.sub (M := [some (.ref (h 0)), some (.int d), some (.int (jNxt σ d (k + 1))), some (.int (nI (k + 1)))]) (lsub_s rfl (lsub_s rfl (lsub_si (by (clear hQ C; (try simp only [bI_0] at *); first | (simp [jNxt, bI_t2, bI_f2, *]; done) | (simp_all; done))) rfl (lsub_s rfl (lsub_e))))) ih_k
          · refine V.iload_n C dX6_firstToAsk_39 rfl ?_
            refine V.istore_n C dX6_firstToAsk_40 (by decide) rfl ?_
            dsimp only [List.set, Fin.val]
            refine V.iinc C (v := nI (k + 1)) dX6_firstToAsk_41 rfl (nI_inc k) (by decide) rfl ?_
            dsimp only [List.set]
            refine V.goto C (tgt := 4) dX6_firstToAsk_44 (by decide) ?_
            exact V.sub (M := [some (.ref (h 0)), some (.int d), some (.int (jNxt σ d (k + 1))), some (.int (nI (k + 1)))]) (lsub_s rfl (lsub_s rfl (lsub_si (by (clear hQ C; (try simp only [bI_0] at *); first | (simp [jNxt, bI_t2, bI_f2, *]; done) | (simp_all; done))) rfl (lsub_s rfl (lsub_e))))) ih_k
  · try dsimp only
    refine V.iload_n C dX6_firstToAsk_4 rfl ?_
    refine V.aload_n C dX6_firstToAsk_5 rfl ?_
    refine V.get C (q0 := 0) (k := 2) rfl rfl (by decide) iX6 (by decide +kernel) rfl rfl dX6_firstToAsk_6 ?_
    refine V.callVi C (ct_X1_size) gX6_firstToAsk_X1_size (n := 0) ⟨rfl, by decide, by decide, by decide +kernel⟩ rfl (q0 := 3) rfl rfl rfl rfl ⟨Nat.le_of_ble_eq_true rfl, Nat.le_of_ble_eq_true rfl⟩ ⟨rfl, rfl, Nat.zero_le _, Nat.zero_le _⟩ (Nat.le_of_ble_eq_true rfl) dX6_firstToAsk_9 ?_
    refine V.topi (y := nI P) (hP) ?_
    refine V.icmp_ge C (tgt := 47) dX6_firstToAsk_12 (by decide) (fun c_5 => ?_) (fun c_5 => ?_)
    · refine V.iload_n C dX6_firstToAsk_47 rfl ?_
      refine hQ _ _ _ _ _ (Or.inr (Or.inl ⟨_, _, dX6_firstToAsk_48, rfl, rfl, rfl, rfl⟩)) ⟨?_, rfl⟩
      rfl
    · exfalso
      exact absurd c_5 (nI_nlt (Nat.le_refl _) (by omega))
set_option maxRecDepth 100000 in
set_option maxHeartbeats 4000000 in
theorem ct_X6_finish {l : Launch} {D : va_G} {tys : List (ClassId × FieldType)} {cI : ClassId} {h : Nat → Nat} {σ : Nat → Nat → Int32} (hT : tys[0]? = some (cI, .int)) {i : Nat} {N : Nat} (hN : σ 4 0 = nI N) (hN40 : N ≤ 40) (hce : ∀ i, i < N → Nn (σ 18 i) 6) (hpe : ∀ i, i < N → Nn (σ 17 i) 24) {n : Nat} (hn0 : σ 0 0 = nI n) (hn9 : n ≤ 9) (hi : i < N) : Cd l D tys yX6_finish wsX6_finish ({ frames := 6, cells := 0, slots := 0, locals := 135 } : Room) (SW cI h σ) [.ref (h 0), .int (nI i)] (none) (SW cI h (jFinish σ N n i)) := by
  refine Ct.of [some (.ref (h 0)), some (.int (nI i)), none, none] (by decide) rfl rfl (Nat.le_of_ble_eq_true rfl) rfl (fun κ C hQ => ?_)
  have iX6 : ∀ z ∈ u_ws RX6 TX6 8, z ∈ wsX6_finish := by decide +kernel
  refine V.aload_n C dX6_finish_0 rfl ?_
  refine V.get C (q0 := 0) (k := 3) rfl rfl (by decide) iX6 (by decide +kernel) rfl rfl dX6_finish_1 ?_
  refine V.iload_n C dX6_finish_4 rfl ?_
  refine V.callVi C (ct_X0_personOf hT (by omega)) gX6_finish_X0_personOf (n := 1) ⟨rfl, by decide, by decide, by decide +kernel⟩ rfl (q0 := 4) rfl rfl rfl rfl ⟨Nat.le_of_ble_eq_true rfl, Nat.le_of_ble_eq_true rfl⟩ ⟨rfl, rfl, Nat.zero_le _, Nat.zero_le _⟩ (Nat.le_of_ble_eq_true rfl) dX6_finish_5 ?_
  refine V.topi (y := nI (jP σ i)) ((hpe i hi).1) ?_
  refine V.istore_n C dX6_finish_8 (by decide) rfl ?_
  dsimp only [List.set, Fin.val]
  refine V.aload_n C dX6_finish_9 rfl ?_
  refine V.get C (q0 := 0) (k := 3) rfl rfl (by decide) iX6 (by decide +kernel) rfl rfl dX6_finish_10 ?_
  refine V.iload_n C dX6_finish_13 rfl ?_
  refine V.callVi C (ct_X0_cellOf hT (by omega)) gX6_finish_X0_cellOf (n := 1) ⟨rfl, by decide, by decide, by decide +kernel⟩ rfl (q0 := 4) rfl rfl rfl rfl ⟨Nat.le_of_ble_eq_true rfl, Nat.le_of_ble_eq_true rfl⟩ ⟨rfl, rfl, Nat.zero_le _, Nat.zero_le _⟩ (Nat.le_of_ble_eq_true rfl) dX6_finish_14 ?_
  refine V.topi (y := nI (jC σ i)) ((hce i hi).1) ?_
  refine V.istore_n C dX6_finish_17 (by decide) rfl ?_
  dsimp only [List.set, Fin.val]
  refine V.aload_n C dX6_finish_18 rfl ?_
  refine V.get C (q0 := 0) (k := 1) rfl rfl (by decide) iX6 (by decide +kernel) rfl rfl dX6_finish_19 ?_
  refine V.iload_n C dX6_finish_22 rfl ?_
  refine V.callVi C (ct_X3_isOpen hT (hce i hi).2) gX6_finish_X3_isOpen (n := 1) ⟨rfl, by decide, by decide, by decide +kernel⟩ rfl (q0 := 2) rfl rfl rfl rfl ⟨Nat.le_of_ble_eq_true rfl, Nat.le_of_ble_eq_true rfl⟩ ⟨rfl, rfl, Nat.zero_le _, Nat.zero_le _⟩ (Nat.le_of_ble_eq_true rfl) dX6_finish_23 ?_
  refine V.if_eq C (tgt := 64) dX6_finish_26 (by decide) (fun c_1 => ?_) (fun c_1 => ?_)
  · refine V.aload_n C dX6_finish_64 rfl ?_
    refine V.get C (q0 := 0) (k := 3) rfl rfl (by decide) iX6 (by decide +kernel) rfl rfl dX6_finish_65 ?_
    refine V.iload_n C dX6_finish_68 rfl ?_
    refine V.iconst C (v := nI 2) dX6_finish_69 (by decide) ?_
    refine V.callVv C (ct_X0_setState hT (by omega)) gX6_finish_X0_setState (n := 2) ⟨rfl, by decide, by decide, by decide +kernel⟩ rfl (q0 := 4) rfl rfl rfl rfl ⟨Nat.le_of_ble_eq_true rfl, Nat.le_of_ble_eq_true rfl⟩ ⟨rfl, rfl, Nat.zero_le _, Nat.zero_le _⟩ (Nat.le_of_ble_eq_true rfl) dX6_finish_70 ?_
    refine V.aload_n C dX6_finish_73 rfl ?_
    refine V.get C (q0 := 0) (k := 2) rfl rfl (by decide) iX6 (by decide +kernel) rfl rfl dX6_finish_74 ?_
    refine V.iload_n C dX6_finish_77 rfl ?_
    refine V.iconst C (v := nI 2) dX6_finish_78 (by decide) ?_
    refine V.callVv C (ct_X1_addPoints hT (hpe i hi).2) gX6_finish_X1_addPoints (n := 2) ⟨rfl, by decide, by decide, by decide +kernel⟩ rfl (q0 := 3) rfl rfl rfl rfl ⟨Nat.le_of_ble_eq_true rfl, Nat.le_of_ble_eq_true rfl⟩ ⟨rfl, rfl, Nat.zero_le _, Nat.zero_le _⟩ (Nat.le_of_ble_eq_true rfl) dX6_finish_79 ?_
    exact hQ _ _ _ _ _ (Or.inl ⟨dX6_finish_82, rfl, rfl, rfl⟩) ⟨rfl, by (clear hQ C; (try simp only [bI_0, Bool.not_eq_false] at *); rw [jFinish]; split <;> first | rfl | (exfalso; first | contradiction | (simp_all [jC]; done)))⟩
  · refine V.aload_n C dX6_finish_29 rfl ?_
    refine V.get C (q0 := 0) (k := 3) rfl rfl (by decide) iX6 (by decide +kernel) rfl rfl dX6_finish_30 ?_
    refine V.iload_n C dX6_finish_33 rfl ?_
    refine V.iconst C (v := nI 1) dX6_finish_34 (by decide) ?_
    refine V.callVv C (ct_X0_setState hT (by omega)) gX6_finish_X0_setState (n := 2) ⟨rfl, by decide, by decide, by decide +kernel⟩ rfl (q0 := 4) rfl rfl rfl rfl ⟨Nat.le_of_ble_eq_true rfl, Nat.le_of_ble_eq_true rfl⟩ ⟨rfl, rfl, Nat.zero_le _, Nat.zero_le _⟩ (Nat.le_of_ble_eq_true rfl) dX6_finish_35 ?_
    refine V.aload_n C dX6_finish_38 rfl ?_
    refine V.get C (q0 := 0) (k := 1) rfl rfl (by decide) iX6 (by decide +kernel) rfl rfl dX6_finish_39 ?_
    refine V.iload_n C dX6_finish_42 rfl ?_
    refine V.iconst C (v := nI 1) dX6_finish_43 (by decide) ?_
    refine V.callVv C (ct_X3_fill hT (hce i hi).2) gX6_finish_X3_fill (n := 2) ⟨rfl, by decide, by decide, by decide +kernel⟩ rfl (q0 := 2) rfl rfl rfl rfl ⟨Nat.le_of_ble_eq_true rfl, Nat.le_of_ble_eq_true rfl⟩ ⟨rfl, rfl, Nat.zero_le _, Nat.zero_le _⟩ (Nat.le_of_ble_eq_true rfl) dX6_finish_44 ?_
    refine V.aload_n C dX6_finish_47 rfl ?_
    refine V.get C (q0 := 0) (k := 2) rfl rfl (by decide) iX6 (by decide +kernel) rfl rfl dX6_finish_48 ?_
    refine V.iload_n C dX6_finish_51 rfl ?_
    refine V.bipush C (v := nI 10) dX6_finish_52 (by decide) ?_
    refine V.callVv C (ct_X1_addPoints hT (hpe i hi).2) gX6_finish_X1_addPoints (n := 2) ⟨rfl, by decide, by decide, by decide +kernel⟩ rfl (q0 := 3) rfl rfl rfl rfl ⟨Nat.le_of_ble_eq_true rfl, Nat.le_of_ble_eq_true rfl⟩ ⟨rfl, rfl, Nat.zero_le _, Nat.zero_le _⟩ (Nat.le_of_ble_eq_true rfl) dX6_finish_54 ?_
    refine V.aload_n C dX6_finish_57 rfl ?_
    refine V.callVv C (ct_X6_reweigh (σ := jDone σ i) hT hN hN40 hce hn0 hn9) gX6_finish_X6_reweigh (n := 0) ⟨rfl, by decide, by decide, by decide +kernel⟩ rfl (q0 := 0) rfl rfl rfl rfl ⟨Nat.le_of_ble_eq_true rfl, Nat.le_of_ble_eq_true rfl⟩ ⟨rfl, rfl, Nat.zero_le _, Nat.zero_le _⟩ (Nat.le_of_ble_eq_true rfl) dX6_finish_58 ?_
    refine V.goto C (tgt := 82) dX6_finish_61 (by decide) ?_
    exact hQ _ _ _ _ _ (Or.inl ⟨dX6_finish_82, rfl, rfl, rfl⟩) ⟨rfl, by (clear hQ C; (try simp only [bI_0, Bool.not_eq_false] at *); rw [jFinish]; split <;> first | rfl | (exfalso; first | contradiction | (simp_all [jC]; done)))⟩
