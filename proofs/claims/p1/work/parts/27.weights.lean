set_option maxRecDepth 100000 in
set_option maxHeartbeats 4000000 in
theorem ct_X5_of_5 {l : Launch} {D : va_G} {tys : List (ClassId × FieldType)} {cI : ClassId} {h : Nat → Nat} {σ : Nat → Nat → Int32} (hT : tys[0]? = some (cI, .int)) {i : Nat} (hi : i < 40) : Cd l D tys yX5_of wsX5_of ({ frames := 0, cells := 0, slots := 0, locals := 0 } : Room) (SW cI h σ) [.ref (h 5), .int (nI i)] (some (.int (σ 24 i))) (SW cI h σ) := by
  refine Ct.of [some (.ref (h 5)), some (.int (nI i))] (by decide) rfl rfl (Nat.le_of_ble_eq_true rfl) rfl (fun κ C hQ => ?_)
  have iX5 : ∀ z ∈ u_ws RX5 TX5 1, z ∈ wsX5_of := by decide +kernel
  refine V.aload_n C dX5_of_0 rfl ?_
  refine V.get C (q0 := 5) (k := 0) rfl rfl (by decide) iX5 (by decide +kernel) rfl rfl dX5_of_1 ?_
  refine V.iload_n C dX5_of_4 rfl ?_
  refine V.iald C (q0 := 24) (t0 := 0) rfl hT (rfl) (by omega) (by omega) dX5_of_5 ?_
  refine hQ _ _ _ _ _ (Or.inr (Or.inl ⟨_, _, dX5_of_6, rfl, rfl, rfl, rfl⟩)) ⟨?_, rfl⟩
  rfl
set_option maxRecDepth 100000 in
set_option maxHeartbeats 4000000 in
theorem ct_X5_sumOf_5 {l : Launch} {D : va_G} {tys : List (ClassId × FieldType)} {cI : ClassId} {h : Nat → Nat} {σ : Nat → Nat → Int32} (hT : tys[0]? = some (cI, .int)) {g : Nat} {N : Nat} (hN : σ 4 0 = nI N) (hN40 : N ≤ 40) (hce : ∀ i, i < N → Nn (σ 18 i) 6) (hg : g < 5) : Cd l D tys yX5_sumOf wsX5_sumOf ({ frames := 2, cells := 0, slots := 0, locals := 41 } : Room) (SW cI h σ) [.ref (h 5), .ref (h 4), .int (nI g)] (some (.int (jSumG σ 24 N g))) (SW cI h σ) := by
  refine Ct.of [some (.ref (h 5)), some (.ref (h 4)), some (.int (nI g)), none, none] (by decide) rfl rfl (Nat.le_of_ble_eq_true rfl) rfl (fun κ C hQ => ?_)
  have iX5 : ∀ z ∈ u_ws RX5 TX5 1, z ∈ wsX5_sumOf := by decide +kernel
  refine V.iconst C (v := nI 0) dX5_sumOf_0 (by decide) ?_
  refine V.istore_n C dX5_sumOf_1 (by decide) rfl ?_
  dsimp only [List.set, Fin.val]
  refine V.iconst C (v := nI 0) dX5_sumOf_2 (by decide) ?_
  refine V.istore C dX5_sumOf_3 (by decide) rfl ?_
  dsimp only [List.set]
  refine V.loop (N) (fun k => SW cI h σ) (fun k => [some (.ref (h 5)), some (.ref (h 4)), some (.int (nI g)), some (.int (jSumIf (fun i => jIsIn (jC σ i) g) (σ 24) k)), some (.int (nI k))]) (fun k hk ih_k => ?_) ?_ (rfl) (lsub_s rfl (lsub_s rfl (lsub_s rfl (lsub_s rfl (lsub_s rfl (lsub_e))))))
  · try dsimp only
    refine V.iload C dX5_sumOf_5 rfl ?_
    refine V.aload_n C dX5_sumOf_7 rfl ?_
    refine V.callVi C (ct_X0_size) gX5_sumOf_X0_size (n := 0) ⟨rfl, by decide, by decide, by decide +kernel⟩ rfl (q0 := 4) rfl rfl rfl rfl ⟨Nat.le_of_ble_eq_true rfl, Nat.le_of_ble_eq_true rfl⟩ ⟨rfl, rfl, Nat.zero_le _, Nat.zero_le _⟩ (Nat.le_of_ble_eq_true rfl) dX5_sumOf_8 ?_
    refine V.topi (y := nI N) (hN) ?_
    refine V.icmp_ge C (tgt := 43) dX5_sumOf_11 (by decide) (fun c_1 => ?_) (fun c_1 => ?_)
    · exfalso
      exact c_1 (nI_lt hk (by omega))
    · refine V.aload_n C dX5_sumOf_14 rfl ?_
      refine V.iload C dX5_sumOf_15 rfl ?_
      refine V.callVi C (ct_X0_cellOf hT (by omega)) gX5_sumOf_X0_cellOf (n := 1) ⟨rfl, by decide, by decide, by decide +kernel⟩ rfl (q0 := 4) rfl rfl rfl rfl ⟨Nat.le_of_ble_eq_true rfl, Nat.le_of_ble_eq_true rfl⟩ ⟨rfl, rfl, Nat.zero_le _, Nat.zero_le _⟩ (Nat.le_of_ble_eq_true rfl) dX5_sumOf_17 ?_
      refine V.topi (y := nI (jC σ k)) ((hce k hk).1) ?_
      refine V.iload_n C dX5_sumOf_20 rfl ?_
      refine V.callSNi C (ct_X6_isIn (hce k hk).2 hg) gX5_sumOf_X6_isIn_n42 (fun _ q => q.2.2.1) (by decide +kernel) (by decide +kernel) (n := 2) ⟨by decide, by decide, by decide +kernel⟩ rfl rfl rfl ⟨Nat.le_of_ble_eq_true rfl, Nat.le_of_ble_eq_true rfl⟩ ⟨rfl, rfl, Nat.zero_le _, Nat.zero_le _⟩ (Nat.le_of_ble_eq_true rfl) dX5_sumOf_21 ?_
      refine V.if_eq C (tgt := 37) dX5_sumOf_24 (by decide) (fun c_2 => ?_) (fun c_2 => ?_)
      · refine V.iinc C (v := nI (k + 1)) dX5_sumOf_37 rfl (nI_inc k) (by decide) rfl ?_
        dsimp only [List.set]
        refine V.goto C (tgt := 5) dX5_sumOf_40 (by decide) ?_
        exact V.sub (M := [some (.ref (h 5)), some (.ref (h 4)), some (.int (nI g)), some (.int (jSumIf (fun i => jIsIn (jC σ i) g) (σ 24) (k + 1))), some (.int (nI (k + 1)))]) (lsub_s rfl (lsub_s rfl (lsub_s rfl (lsub_si (by (clear hQ C; (try simp only [bI_0] at *); first | (simp [jSumIf, jC, bI_t2, bI_f2, *]; done) | (simp_all; done))) rfl (lsub_s rfl (lsub_e)))))) ih_k
      · refine V.iload_n C dX5_sumOf_27 rfl ?_
        refine V.aload_n C dX5_sumOf_28 rfl ?_
        refine V.get C (q0 := 5) (k := 0) rfl rfl (by decide) iX5 (by decide +kernel) rfl rfl dX5_sumOf_29 ?_
        refine V.iload C dX5_sumOf_32 rfl ?_
        refine V.iald C (q0 := 24) (t0 := 0) rfl hT (rfl) (by omega) (by omega) dX5_sumOf_34 ?_
        refine V.iadd C dX5_sumOf_35 ?_
        refine V.istore_n C dX5_sumOf_36 (by decide) rfl ?_
        dsimp only [List.set, Fin.val]
        refine V.iinc C (v := nI (k + 1)) dX5_sumOf_37 rfl (nI_inc k) (by decide) rfl ?_
        dsimp only [List.set]
        refine V.goto C (tgt := 5) dX5_sumOf_40 (by decide) ?_
        exact V.sub (M := [some (.ref (h 5)), some (.ref (h 4)), some (.int (nI g)), some (.int (jSumIf (fun i => jIsIn (jC σ i) g) (σ 24) (k + 1))), some (.int (nI (k + 1)))]) (lsub_s rfl (lsub_s rfl (lsub_s rfl (lsub_si (by (clear hQ C; (try simp only [bI_0] at *); first | (simp [jSumIf, jC, bI_t2, bI_f2, *]; done) | (simp_all; done))) rfl (lsub_s rfl (lsub_e)))))) ih_k
  · try dsimp only
    refine V.iload C dX5_sumOf_5 rfl ?_
    refine V.aload_n C dX5_sumOf_7 rfl ?_
    refine V.callVi C (ct_X0_size) gX5_sumOf_X0_size (n := 0) ⟨rfl, by decide, by decide, by decide +kernel⟩ rfl (q0 := 4) rfl rfl rfl rfl ⟨Nat.le_of_ble_eq_true rfl, Nat.le_of_ble_eq_true rfl⟩ ⟨rfl, rfl, Nat.zero_le _, Nat.zero_le _⟩ (Nat.le_of_ble_eq_true rfl) dX5_sumOf_8 ?_
    refine V.topi (y := nI N) (hN) ?_
    refine V.icmp_ge C (tgt := 43) dX5_sumOf_11 (by decide) (fun c_3 => ?_) (fun c_3 => ?_)
    · refine V.iload_n C dX5_sumOf_43 rfl ?_
      refine hQ _ _ _ _ _ (Or.inr (Or.inl ⟨_, _, dX5_sumOf_44, rfl, rfl, rfl, rfl⟩)) ⟨?_, rfl⟩
      rfl
    · exfalso
      exact absurd c_3 (nI_nlt (Nat.le_refl _) (by omega))
set_option maxRecDepth 100000 in
set_option maxHeartbeats 4000000 in
theorem ct_X5_scale_5 {l : Launch} {D : va_G} {tys : List (ClassId × FieldType)} {cI : ClassId} {h : Nat → Nat} {σ : Nat → Nat → Int32} (hT : tys[0]? = some (cI, .int)) {g : Nat} {m : Int32} {N : Nat} (hN : σ 4 0 = nI N) (hN40 : N ≤ 40) (hce : ∀ i, i < N → Nn (σ 18 i) 6) (hg : g < 5) : Cd l D tys yX5_scale wsX5_scale ({ frames := 3, cells := 0, slots := 0, locals := 65 } : Room) (SW cI h σ) [.ref (h 5), .ref (h 4), .int (nI g), .int m] (none) (SW cI h (jScale σ 24 N g m)) := by
  refine Ct.of [some (.ref (h 5)), some (.ref (h 4)), some (.int (nI g)), some (.int m), none, none] (by decide) rfl rfl (Nat.le_of_ble_eq_true rfl) rfl (fun κ C hQ => ?_)
  have iX5 : ∀ z ∈ u_ws RX5 TX5 1, z ∈ wsX5_scale := by decide +kernel
  refine V.aload_n C dX5_scale_0 rfl ?_
  refine V.aload_n C dX5_scale_1 rfl ?_
  refine V.iload_n C dX5_scale_2 rfl ?_
  refine V.callVi C (ct_X5_sumOf_5 hT hN (by omega) hce hg) gX5_scale_X5_sumOf (n := 2) ⟨rfl, by decide, by decide, by decide +kernel⟩ rfl (q0 := 5) rfl rfl rfl rfl ⟨Nat.le_of_ble_eq_true rfl, Nat.le_of_ble_eq_true rfl⟩ ⟨rfl, rfl, Nat.zero_le _, Nat.zero_le _⟩ (Nat.le_of_ble_eq_true rfl) dX5_scale_3 ?_
  refine V.istore C dX5_scale_6 (by decide) rfl ?_
  dsimp only [List.set]
  refine V.iload C dX5_scale_8 rfl ?_
  refine V.if_gt C (tgt := 14) dX5_scale_10 (by decide) (fun c_1 => ?_) (fun c_1 => ?_)
  · refine V.iconst C (v := nI 0) dX5_scale_14 (by decide) ?_
    refine V.istore C dX5_scale_15 (by decide) rfl ?_
    dsimp only [List.set]
    refine V.loop (N) (fun k => SW cI h (jSc σ 24 g m (jSumG σ 24 N g) k)) (fun k => [some (.ref (h 5)), some (.ref (h 4)), some (.int (nI g)), some (.int m), some (.int (jSumG σ 24 N g)), some (.int (nI k))]) (fun k hk ih_k => ?_) ?_ (rfl) (lsub_s rfl (lsub_s rfl (lsub_s rfl (lsub_s rfl (lsub_s rfl (lsub_s rfl (lsub_e)))))))
    · try dsimp only
      refine V.iload C dX5_scale_17 rfl ?_
      refine V.aload_n C dX5_scale_19 rfl ?_
      refine V.callVi C (ct_X0_size) gX5_scale_X0_size (n := 0) ⟨rfl, by decide, by decide, by decide +kernel⟩ rfl (q0 := 4) rfl rfl rfl rfl ⟨Nat.le_of_ble_eq_true rfl, Nat.le_of_ble_eq_true rfl⟩ ⟨rfl, rfl, Nat.zero_le _, Nat.zero_le _⟩ (Nat.le_of_ble_eq_true rfl) dX5_scale_20 ?_
      refine V.topi (y := nI N) ((congrFun (jSc_ne σ g m _ (by decide) _) 0).trans hN) ?_
      refine V.icmp_ge C (tgt := 64) dX5_scale_23 (by decide) (fun c_2 => ?_) (fun c_2 => ?_)
      · exfalso
        exact c_2 (nI_lt hk (by omega))
      · refine V.aload_n C dX5_scale_26 rfl ?_
        refine V.iload C dX5_scale_27 rfl ?_
        refine V.callVi C (ct_X0_cellOf hT (by omega)) gX5_scale_X0_cellOf (n := 1) ⟨rfl, by decide, by decide, by decide +kernel⟩ rfl (q0 := 4) rfl rfl rfl rfl ⟨Nat.le_of_ble_eq_true rfl, Nat.le_of_ble_eq_true rfl⟩ ⟨rfl, rfl, Nat.zero_le _, Nat.zero_le _⟩ (Nat.le_of_ble_eq_true rfl) dX5_scale_29 ?_
        refine V.topi (y := nI (jC σ k)) (by rw [jSc_ne σ g m _ (by decide) k]; exact (hce k hk).1) ?_
        refine V.iload_n C dX5_scale_32 rfl ?_
        refine V.callSNi C (ct_X6_isIn (hce k hk).2 hg) gX5_scale_X6_isIn_n42 (fun _ q => q.2.2.1) (by decide +kernel) (by decide +kernel) (n := 2) ⟨by decide, by decide, by decide +kernel⟩ rfl rfl rfl ⟨Nat.le_of_ble_eq_true rfl, Nat.le_of_ble_eq_true rfl⟩ ⟨rfl, rfl, Nat.zero_le _, Nat.zero_le _⟩ (Nat.le_of_ble_eq_true rfl) dX5_scale_33 ?_
        refine V.if_eq C (tgt := 58) dX5_scale_36 (by decide) (fun c_3 => ?_) (fun c_3 => ?_)
        · refine V.iinc C (v := nI (k + 1)) dX5_scale_58 rfl (nI_inc k) (by decide) rfl ?_
          dsimp only [List.set]
          refine V.goto C (tgt := 17) dX5_scale_61 (by decide) ?_
          refine V.world (w' := SW cI h (jSc σ 24 g m (jSumG σ 24 N g) (k + 1))) (by (clear hQ C; (try simp only [bI_0] at *); first | (simp [jSc, jC, bI_t2, bI_f2, *]; done) | (simp_all; done))) ?_
          exact V.sub (M := [some (.ref (h 5)), some (.ref (h 4)), some (.int (nI g)), some (.int m), some (.int (jSumG σ 24 N g)), some (.int (nI (k + 1)))]) (lsub_s rfl (lsub_s rfl (lsub_s rfl (lsub_s rfl (lsub_s rfl (lsub_s rfl (lsub_e))))))) ih_k
        · refine V.aload_n C dX5_scale_39 rfl ?_
          refine V.get C (q0 := 5) (k := 0) rfl rfl (by decide) iX5 (by decide +kernel) rfl rfl dX5_scale_40 ?_
          refine V.iload C dX5_scale_43 rfl ?_
          refine V.aload_n C dX5_scale_45 rfl ?_
          refine V.get C (q0 := 5) (k := 0) rfl rfl (by decide) iX5 (by decide +kernel) rfl rfl dX5_scale_46 ?_
          refine V.iload C dX5_scale_49 rfl ?_
          refine V.iald C (q0 := 24) (t0 := 0) rfl hT (rfl) (by omega) (by omega) dX5_scale_51 ?_
          refine V.iload_n C dX5_scale_52 rfl ?_
          refine V.imul C dX5_scale_53 ?_
          refine V.iload C dX5_scale_54 rfl ?_
          refine V.idiv C dX5_scale_56 (ne_pos (by assumption)) ?_
          refine V.iast C (q0 := 24) (t0 := 0) (w' := SW cI h (sW (jSc σ 24 g m (jSumG σ 24 N g) k) 24 k (jSc σ 24 g m (jSumG σ 24 N g) k 24 k * m / jSumG σ 24 N g))) rfl hT (rfl) (by omega) (by omega) rfl dX5_scale_57 ?_
          refine V.iinc C (v := nI (k + 1)) dX5_scale_58 rfl (nI_inc k) (by decide) rfl ?_
          dsimp only [List.set]
          refine V.goto C (tgt := 17) dX5_scale_61 (by decide) ?_
          refine V.world (w' := SW cI h (jSc σ 24 g m (jSumG σ 24 N g) (k + 1))) (by (clear hQ C; (try simp only [bI_0] at *); first | (simp [jSc, jC, bI_t2, bI_f2, *]; done) | (simp_all; done))) ?_
          exact V.sub (M := [some (.ref (h 5)), some (.ref (h 4)), some (.int (nI g)), some (.int m), some (.int (jSumG σ 24 N g)), some (.int (nI (k + 1)))]) (lsub_s rfl (lsub_s rfl (lsub_s rfl (lsub_s rfl (lsub_s rfl (lsub_s rfl (lsub_e))))))) ih_k
    · try dsimp only
      refine V.iload C dX5_scale_17 rfl ?_
      refine V.aload_n C dX5_scale_19 rfl ?_
      refine V.callVi C (ct_X0_size) gX5_scale_X0_size (n := 0) ⟨rfl, by decide, by decide, by decide +kernel⟩ rfl (q0 := 4) rfl rfl rfl rfl ⟨Nat.le_of_ble_eq_true rfl, Nat.le_of_ble_eq_true rfl⟩ ⟨rfl, rfl, Nat.zero_le _, Nat.zero_le _⟩ (Nat.le_of_ble_eq_true rfl) dX5_scale_20 ?_
      refine V.topi (y := nI N) ((congrFun (jSc_ne σ g m _ (by decide) _) 0).trans hN) ?_
      refine V.icmp_ge C (tgt := 64) dX5_scale_23 (by decide) (fun c_4 => ?_) (fun c_4 => ?_)
      · exact hQ _ _ _ _ _ (Or.inl ⟨dX5_scale_64, rfl, rfl, rfl⟩) ⟨rfl, by rw [jScale, if_pos (by assumption)]⟩
      · exfalso
        exact absurd c_4 (nI_nlt (Nat.le_refl _) (by omega))
  · exact hQ _ _ _ _ _ (Or.inl ⟨dX5_scale_13, rfl, rfl, rfl⟩) ⟨rfl, by rw [jScale, if_neg (by assumption)]⟩
set_option maxRecDepth 100000 in
set_option maxHeartbeats 4000000 in
theorem ct_X5_weigh_5 {l : Launch} {D : va_G} {tys : List (ClassId × FieldType)} {cI : ClassId} {h : Nat → Nat} {σ : Nat → Nat → Int32} (hT : tys[0]? = some (cI, .int)) {n : Nat} {N : Nat} (hN : σ 4 0 = nI N) (hN40 : N ≤ 40) (hce : ∀ i, i < N → Nn (σ 18 i) 6) (hn : n ≤ 9) : Cd l D tys yX5_weigh wsX5_weigh ({ frames := 4, cells := 0, slots := 0, locals := 90 } : Room) (SW cI h σ) [.ref (h 5), .ref (h 4), .ref (h 2), .int (nI n)] (none) (SW cI h (jWeigh σ 24 N n)) := by
  refine Ct.of [some (.ref (h 5)), some (.ref (h 4)), some (.ref (h 2)), some (.int (nI n)), none, none] (by decide) rfl rfl (Nat.le_of_ble_eq_true rfl) rfl (fun κ C hQ => ?_)
  have iX5 : ∀ z ∈ u_ws RX5 TX5 1, z ∈ wsX5_weigh := by decide +kernel
  refine V.iconst C (v := nI 0) dX5_weigh_0 (by decide) ?_
  refine V.istore C dX5_weigh_1 (by decide) rfl ?_
  dsimp only [List.set]
  refine V.loop (N) (fun k => SW cI h (jW0 σ 24 k)) (fun k => [some (.ref (h 5)), some (.ref (h 4)), some (.ref (h 2)), some (.int (nI n)), some (.int (nI k)), none]) (fun k hk ih_k => ?_) ?_ (rfl) (lsub_s rfl (lsub_s rfl (lsub_s rfl (lsub_s rfl (lsub_s rfl (lsub_n (lsub_e)))))))
  · try dsimp only
    refine V.iload C dX5_weigh_3 rfl ?_
    refine V.aload_n C dX5_weigh_5 rfl ?_
    refine V.callVi C (ct_X0_size) gX5_weigh_X0_size (n := 0) ⟨rfl, by decide, by decide, by decide +kernel⟩ rfl (q0 := 4) rfl rfl rfl rfl ⟨Nat.le_of_ble_eq_true rfl, Nat.le_of_ble_eq_true rfl⟩ ⟨rfl, rfl, Nat.zero_le _, Nat.zero_le _⟩ (Nat.le_of_ble_eq_true rfl) dX5_weigh_6 ?_
    refine V.topi (y := nI N) ((congrFun (jW0_ne σ (by decide) _) 0).trans hN) ?_
    refine V.icmp_ge C (tgt := 41) dX5_weigh_9 (by decide) (fun c_1 => ?_) (fun c_1 => ?_)
    · exfalso
      exact c_1 (nI_lt hk (by omega))
    · refine V.aload_n C dX5_weigh_12 rfl ?_
      refine V.get C (q0 := 5) (k := 0) rfl rfl (by decide) iX5 (by decide +kernel) rfl rfl dX5_weigh_13 ?_
      refine V.iload C dX5_weigh_16 rfl ?_
      refine V.aload_n C dX5_weigh_18 rfl ?_
      refine V.iload C dX5_weigh_19 rfl ?_
      refine V.callVi C (ct_X0_isComplete hT (by omega)) gX5_weigh_X0_isComplete (n := 1) ⟨rfl, by decide, by decide, by decide +kernel⟩ rfl (q0 := 4) rfl rfl rfl rfl ⟨Nat.le_of_ble_eq_true rfl, Nat.le_of_ble_eq_true rfl⟩ ⟨rfl, rfl, Nat.zero_le _, Nat.zero_le _⟩ (Nat.le_of_ble_eq_true rfl) dX5_weigh_21 ?_
      refine V.topi (y := bI (decide (σ 19 k = nI 1))) (by rw [jW0_ne σ (by decide) k]) ?_
      refine V.if_eq C (tgt := 33) dX5_weigh_24 (by decide) (fun c_2 => ?_) (fun c_2 => ?_)
      · refine V.iconst C (v := nI 0) dX5_weigh_33 (by decide) ?_
        refine V.iast C (q0 := 24) (t0 := 0) (w' := _) rfl hT (rfl) (by omega) (by omega) rfl dX5_weigh_34 ?_
        refine V.iinc C (v := nI (k + 1)) dX5_weigh_35 rfl (nI_inc k) (by decide) rfl ?_
        dsimp only [List.set]
        refine V.goto C (tgt := 3) dX5_weigh_38 (by decide) ?_
        refine V.world (w' := SW cI h (jW0 σ 24 (k + 1))) (by rw [jW0]; split <;> first | rfl | (exfalso; simp_all [bI_0])) ?_
        exact V.sub (M := [some (.ref (h 5)), some (.ref (h 4)), some (.ref (h 2)), some (.int (nI n)), some (.int (nI (k + 1))), none]) (lsub_s rfl (lsub_s rfl (lsub_s rfl (lsub_s rfl (lsub_s rfl (lsub_n (lsub_e))))))) ih_k
      · refine V.sipush C (v := nI 1000) dX5_weigh_27 (by decide) ?_
        refine V.goto C (tgt := 34) dX5_weigh_30 (by decide) ?_
        refine V.iast C (q0 := 24) (t0 := 0) (w' := _) rfl hT (rfl) (by omega) (by omega) rfl dX5_weigh_34 ?_
        refine V.iinc C (v := nI (k + 1)) dX5_weigh_35 rfl (nI_inc k) (by decide) rfl ?_
        dsimp only [List.set]
        refine V.goto C (tgt := 3) dX5_weigh_38 (by decide) ?_
        refine V.world (w' := SW cI h (jW0 σ 24 (k + 1))) (by rw [jW0]; split <;> first | rfl | (exfalso; simp_all [bI_0])) ?_
        exact V.sub (M := [some (.ref (h 5)), some (.ref (h 4)), some (.ref (h 2)), some (.int (nI n)), some (.int (nI (k + 1))), none]) (lsub_s rfl (lsub_s rfl (lsub_s rfl (lsub_s rfl (lsub_s rfl (lsub_n (lsub_e))))))) ih_k
  · try dsimp only
    refine V.iload C dX5_weigh_3 rfl ?_
    refine V.aload_n C dX5_weigh_5 rfl ?_
    refine V.callVi C (ct_X0_size) gX5_weigh_X0_size (n := 0) ⟨rfl, by decide, by decide, by decide +kernel⟩ rfl (q0 := 4) rfl rfl rfl rfl ⟨Nat.le_of_ble_eq_true rfl, Nat.le_of_ble_eq_true rfl⟩ ⟨rfl, rfl, Nat.zero_le _, Nat.zero_le _⟩ (Nat.le_of_ble_eq_true rfl) dX5_weigh_6 ?_
    refine V.topi (y := nI N) ((congrFun (jW0_ne σ (by decide) _) 0).trans hN) ?_
    refine V.icmp_ge C (tgt := 41) dX5_weigh_9 (by decide) (fun c_3 => ?_) (fun c_3 => ?_)
    · refine V.iconst C (v := nI 0) dX5_weigh_41 (by decide) ?_
      refine V.istore C dX5_weigh_42 (by decide) rfl ?_
      dsimp only [List.set]
      refine V.loop (n) (fun k => SW cI h (jRd (jW0 σ 24 N) 24 N k)) (fun k => [some (.ref (h 5)), some (.ref (h 4)), some (.ref (h 2)), some (.int (nI n)), some (.int (nI k)), none]) (fun k hk ih_k => ?_) ?_ (rfl) (lsub_s rfl (lsub_s rfl (lsub_s rfl (lsub_s rfl (lsub_s rfl (lsub_n (lsub_e)))))))
      · try dsimp only
        refine V.iload C dX5_weigh_44 rfl ?_
        refine V.iload_n C dX5_weigh_46 rfl ?_
        refine V.icmp_ge C (tgt := 84) dX5_weigh_47 (by decide) (fun c_4 => ?_) (fun c_4 => ?_)
        · exfalso
          exact c_4 (nI_lt hk (by omega))
        · refine V.iconst C (v := nI 0) dX5_weigh_50 (by decide) ?_
          refine V.istore C dX5_weigh_51 (by decide) rfl ?_
          dsimp only [List.set]
          refine V.loop (5) (fun g => SW cI h (jGr (jRd (jW0 σ 24 N) 24 N k) 24 N g)) (fun g => [some (.ref (h 5)), some (.ref (h 4)), some (.ref (h 2)), some (.int (nI n)), some (.int (nI k)), some (.int (nI g))]) (fun g hg ih_g => ?_) ?_ (rfl) (lsub_s rfl (lsub_s rfl (lsub_s rfl (lsub_s rfl (lsub_s rfl (lsub_s rfl (lsub_e)))))))
          · try dsimp only
            refine V.iload C dX5_weigh_53 rfl ?_
            refine V.iconst C (v := nI 5) dX5_weigh_55 (by decide) ?_
            refine V.icmp_ge C (tgt := 78) dX5_weigh_56 (by decide) (fun c_5 => ?_) (fun c_5 => ?_)
            · exfalso
              exact c_5 (nI_lt hg (by decide))
            · refine V.aload_n C dX5_weigh_59 rfl ?_
              refine V.aload_n C dX5_weigh_60 rfl ?_
              refine V.iload C dX5_weigh_61 rfl ?_
              refine V.aload_n C dX5_weigh_63 rfl ?_
              refine V.iload C dX5_weigh_64 rfl ?_
              refine V.callVi C (ct_X3_marginOf hT hg) gX5_weigh_X3_marginOf (n := 1) ⟨rfl, by decide, by decide, by decide +kernel⟩ rfl (q0 := 2) rfl rfl rfl rfl ⟨Nat.le_of_ble_eq_true rfl, Nat.le_of_ble_eq_true rfl⟩ ⟨rfl, rfl, Nat.zero_le _, Nat.zero_le _⟩ (Nat.le_of_ble_eq_true rfl) dX5_weigh_66 ?_
              refine V.callVv C (ct_X5_scale_5 hT ((congrFun ((jGr_ne _ N (by decide) g).trans ((jRd_ne _ N (by decide) k).trans (jW0_ne σ (by decide) N))) 0).trans hN) (by omega) (fun i hi => by rw [((jGr_ne _ N (by decide) g).trans ((jRd_ne _ N (by decide) k).trans (jW0_ne σ (by decide) N)))]; exact hce i hi) hg) gX5_weigh_X5_scale (n := 3) ⟨rfl, by decide, by decide, by decide +kernel⟩ rfl (q0 := 5) rfl rfl rfl rfl ⟨Nat.le_of_ble_eq_true rfl, Nat.le_of_ble_eq_true rfl⟩ ⟨rfl, rfl, Nat.zero_le _, Nat.zero_le _⟩ (Nat.le_of_ble_eq_true rfl) dX5_weigh_69 ?_
              refine V.iinc C (v := nI (g + 1)) dX5_weigh_72 rfl (nI_inc g) (by decide) rfl ?_
              dsimp only [List.set]
              refine V.goto C (tgt := 53) dX5_weigh_75 (by decide) ?_
              refine V.world (w' := SW cI h (jGr (jRd (jW0 σ 24 N) 24 N k) 24 N (g + 1))) (rfl) ?_
              exact V.sub (M := [some (.ref (h 5)), some (.ref (h 4)), some (.ref (h 2)), some (.int (nI n)), some (.int (nI k)), some (.int (nI (g + 1)))]) (lsub_s rfl (lsub_s rfl (lsub_s rfl (lsub_s rfl (lsub_s rfl (lsub_s rfl (lsub_e))))))) ih_g
          · try dsimp only
            refine V.iload C dX5_weigh_53 rfl ?_
            refine V.iconst C (v := nI 5) dX5_weigh_55 (by decide) ?_
            refine V.icmp_ge C (tgt := 78) dX5_weigh_56 (by decide) (fun c_6 => ?_) (fun c_6 => ?_)
            · refine V.iinc C (v := nI (k + 1)) dX5_weigh_78 rfl (nI_inc k) (by decide) rfl ?_
              dsimp only [List.set]
              refine V.goto C (tgt := 44) dX5_weigh_81 (by decide) ?_
              refine V.world (w' := SW cI h (jRd (jW0 σ 24 N) 24 N (k + 1))) (rfl) ?_
              exact V.sub (M := [some (.ref (h 5)), some (.ref (h 4)), some (.ref (h 2)), some (.int (nI n)), some (.int (nI (k + 1))), none]) (lsub_s rfl (lsub_s rfl (lsub_s rfl (lsub_s rfl (lsub_s rfl (lsub_n (lsub_e))))))) ih_k
            · exfalso
              exact absurd c_6 (nI_nlt (Nat.le_refl _) (by decide))
      · try dsimp only
        refine V.iload C dX5_weigh_44 rfl ?_
        refine V.iload_n C dX5_weigh_46 rfl ?_
        refine V.icmp_ge C (tgt := 84) dX5_weigh_47 (by decide) (fun c_7 => ?_) (fun c_7 => ?_)
        · exact hQ _ _ _ _ _ (Or.inl ⟨dX5_weigh_84, rfl, rfl, rfl⟩) ⟨rfl, rfl⟩
        · exfalso
          exact absurd c_7 (nI_nlt (Nat.le_refl _) (by omega))
    · exfalso
      exact absurd c_3 (nI_nlt (Nat.le_refl _) (by omega))
set_option maxRecDepth 100000 in
set_option maxHeartbeats 4000000 in
theorem ct_X5_farthest_5 {l : Launch} {D : va_G} {tys : List (ClassId × FieldType)} {cI : ClassId} {h : Nat → Nat} {σ : Nat → Nat → Int32} (hT : tys[0]? = some (cI, .int)) {N : Nat} (hN : σ 4 0 = nI N) (hN40 : N ≤ 40) (hce : ∀ i, i < N → Nn (σ 18 i) 6) : Cd l D tys yX5_farthest wsX5_farthest ({ frames := 3, cells := 0, slots := 0, locals := 65 } : Room) (SW cI h σ) [.ref (h 5), .ref (h 4), .ref (h 2)] (some (.int (jFar σ 24 N 5))) (SW cI h σ) := by
  refine Ct.of [some (.ref (h 5)), some (.ref (h 4)), some (.ref (h 2)), none, none, none] (by decide) rfl rfl (Nat.le_of_ble_eq_true rfl) rfl (fun κ C hQ => ?_)
  refine V.iconst C (v := nI 0) dX5_farthest_0 (by decide) ?_
  refine V.istore_n C dX5_farthest_1 (by decide) rfl ?_
  dsimp only [List.set, Fin.val]
  refine V.iconst C (v := nI 0) dX5_farthest_2 (by decide) ?_
  refine V.istore C dX5_farthest_3 (by decide) rfl ?_
  dsimp only [List.set]
  refine V.loop (5) (fun k => SW cI h σ) (fun k => [some (.ref (h 5)), some (.ref (h 4)), some (.ref (h 2)), some (.int (jFar σ 24 N k)), some (.int (nI k)), none]) (fun k hk ih_k => ?_) ?_ (rfl) (lsub_s rfl (lsub_s rfl (lsub_s rfl (lsub_s rfl (lsub_s rfl (lsub_n (lsub_e)))))))
  · try dsimp only
    refine V.iload C dX5_farthest_5 rfl ?_
    refine V.iconst C (v := nI 5) dX5_farthest_7 (by decide) ?_
    refine V.icmp_ge C (tgt := 48) dX5_farthest_8 (by decide) (fun c_1 => ?_) (fun c_1 => ?_)
    · exfalso
      exact c_1 (nI_lt hk (by decide))
    · refine V.aload_n C dX5_farthest_11 rfl ?_
      refine V.aload_n C dX5_farthest_12 rfl ?_
      refine V.iload C dX5_farthest_13 rfl ?_
      refine V.callVi C (ct_X5_sumOf_5 hT hN (by omega) hce hk) gX5_farthest_X5_sumOf (n := 2) ⟨rfl, by decide, by decide, by decide +kernel⟩ rfl (q0 := 5) rfl rfl rfl rfl ⟨Nat.le_of_ble_eq_true rfl, Nat.le_of_ble_eq_true rfl⟩ ⟨rfl, rfl, Nat.zero_le _, Nat.zero_le _⟩ (Nat.le_of_ble_eq_true rfl) dX5_farthest_15 ?_
      refine V.istore C dX5_farthest_18 (by decide) rfl ?_
      dsimp only [List.set]
      refine V.iload C dX5_farthest_20 rfl ?_
      refine V.if_le C (tgt := 42) dX5_farthest_22 (by decide) (fun c_2 => ?_) (fun c_2 => ?_)
      · refine V.iinc C (v := nI (k + 1)) dX5_farthest_42 rfl (nI_inc k) (by decide) rfl ?_
        dsimp only [List.set]
        refine V.goto C (tgt := 5) dX5_farthest_45 (by decide) ?_
        exact V.sub (M := [some (.ref (h 5)), some (.ref (h 4)), some (.ref (h 2)), some (.int (jFar σ 24 N (k + 1))), some (.int (nI (k + 1))), none]) (lsub_s rfl (lsub_s rfl (lsub_s rfl (lsub_si (by (clear hQ C; (try simp only [bI_0] at *); first | (simp [jFar, bI_t2, bI_f2, *]; done) | (simp_all; done))) rfl (lsub_s rfl (lsub_n (lsub_e))))))) ih_k
      · refine V.iload_n C dX5_farthest_25 rfl ?_
        refine V.iload C dX5_farthest_26 rfl ?_
        refine V.aload_n C dX5_farthest_28 rfl ?_
        refine V.iload C dX5_farthest_29 rfl ?_
        refine V.callVi C (ct_X3_marginOf hT hk) gX5_farthest_X3_marginOf (n := 1) ⟨rfl, by decide, by decide, by decide +kernel⟩ rfl (q0 := 2) rfl rfl rfl rfl ⟨Nat.le_of_ble_eq_true rfl, Nat.le_of_ble_eq_true rfl⟩ ⟨rfl, rfl, Nat.zero_le _, Nat.zero_le _⟩ (Nat.le_of_ble_eq_true rfl) dX5_farthest_31 ?_
        refine V.isub C dX5_farthest_34 ?_
        refine V.mabs C (by decide +kernel) (by decide +kernel) (by decide +kernel) (by decide +kernel) (by decide) (Nat.le_of_ble_eq_true rfl) (Nat.zero_le _) (Nat.zero_le _) dX5_farthest_35 ?_
        refine V.mmax C (by decide +kernel) (by decide +kernel) (by decide +kernel) (by decide +kernel) (by decide) (Nat.le_of_ble_eq_true rfl) (Nat.zero_le _) (Nat.zero_le _) dX5_farthest_38 ?_
        refine V.istore_n C dX5_farthest_41 (by decide) rfl ?_
        dsimp only [List.set, Fin.val]
        refine V.iinc C (v := nI (k + 1)) dX5_farthest_42 rfl (nI_inc k) (by decide) rfl ?_
        dsimp only [List.set]
        refine V.goto C (tgt := 5) dX5_farthest_45 (by decide) ?_
        exact V.sub (M := [some (.ref (h 5)), some (.ref (h 4)), some (.ref (h 2)), some (.int (jFar σ 24 N (k + 1))), some (.int (nI (k + 1))), none]) (lsub_s rfl (lsub_s rfl (lsub_s rfl (lsub_si (by (clear hQ C; (try simp only [bI_0] at *); first | (simp [jFar, bI_t2, bI_f2, *]; done) | (simp_all; done))) rfl (lsub_s rfl (lsub_n (lsub_e))))))) ih_k
  · try dsimp only
    refine V.iload C dX5_farthest_5 rfl ?_
    refine V.iconst C (v := nI 5) dX5_farthest_7 (by decide) ?_
    refine V.icmp_ge C (tgt := 48) dX5_farthest_8 (by decide) (fun c_3 => ?_) (fun c_3 => ?_)
    · refine V.iload_n C dX5_farthest_48 rfl ?_
      refine hQ _ _ _ _ _ (Or.inr (Or.inl ⟨_, _, dX5_farthest_49, rfl, rfl, rfl, rfl⟩)) ⟨?_, rfl⟩
      rfl
    · exfalso
      exact absurd c_3 (nI_nlt (Nat.le_refl _) (by decide))
set_option maxRecDepth 100000 in
set_option maxHeartbeats 4000000 in
theorem ct_X5_shareOf_5 {l : Launch} {D : va_G} {tys : List (ClassId × FieldType)} {cI : ClassId} {h : Nat → Nat} {σ : Nat → Nat → Int32} (hT : tys[0]? = some (cI, .int)) {q : Nat} {a A : Int32} {N : Nat} (hN : σ 4 0 = nI N) (hN40 : N ≤ 40) (hce : ∀ i, i < N → Nn (σ 18 i) 6) (hq : q < 10) : Cd l D tys yX5_shareOf wsX5_shareOf ({ frames := 2, cells := 0, slots := 0, locals := 45 } : Room) (SW cI h σ) [.ref (h 5), .ref (h 4), .int (nI q), .int a, .int A] (some (.int (jShare σ 24 N q a A))) (SW cI h σ) := by
  refine Ct.of [some (.ref (h 5)), some (.ref (h 4)), some (.int (nI q)), some (.int a), some (.int A), none, none, none] (by decide) rfl rfl (Nat.le_of_ble_eq_true rfl) rfl (fun κ C hQ => ?_)
  have iX5 : ∀ z ∈ u_ws RX5 TX5 1, z ∈ wsX5_shareOf := by decide +kernel
  refine V.iconst C (v := nI 0) dX5_shareOf_0 (by decide) ?_
  refine V.istore C dX5_shareOf_1 (by decide) rfl ?_
  dsimp only [List.set]
  refine V.iconst C (v := nI 0) dX5_shareOf_3 (by decide) ?_
  refine V.istore C dX5_shareOf_4 (by decide) rfl ?_
  dsimp only [List.set]
  refine V.iconst C (v := nI 0) dX5_shareOf_6 (by decide) ?_
  refine V.istore C dX5_shareOf_7 (by decide) rfl ?_
  dsimp only [List.set]
  refine V.loop (N) (fun k => SW cI h σ) (fun k => [some (.ref (h 5)), some (.ref (h 4)), some (.int (nI q)), some (.int a), some (.int A), some (.int (jSumIf (jCounted σ q A) (σ 24) k)), some (.int (jSumIf (fun i => jCounted σ q A i && decide (jGiven σ i q = a)) (σ 24) k)), some (.int (nI k))]) (fun k hk ih_k => ?_) ?_ (rfl) (lsub_s rfl (lsub_s rfl (lsub_s rfl (lsub_s rfl (lsub_s rfl (lsub_s rfl (lsub_s rfl (lsub_s rfl (lsub_e)))))))))
  · try dsimp only
    refine V.iload C dX5_shareOf_9 rfl ?_
    refine V.aload_n C dX5_shareOf_11 rfl ?_
    refine V.callVi C (ct_X0_size) gX5_shareOf_X0_size (n := 0) ⟨rfl, by decide, by decide, by decide +kernel⟩ rfl (q0 := 4) rfl rfl rfl rfl ⟨Nat.le_of_ble_eq_true rfl, Nat.le_of_ble_eq_true rfl⟩ ⟨rfl, rfl, Nat.zero_le _, Nat.zero_le _⟩ (Nat.le_of_ble_eq_true rfl) dX5_shareOf_12 ?_
    refine V.topi (y := nI N) (hN) ?_
    refine V.icmp_ge C (tgt := 71) dX5_shareOf_15 (by decide) (fun c_1 => ?_) (fun c_1 => ?_)
    · exfalso
      exact c_1 (nI_lt hk (by omega))
    · refine V.aload_n C dX5_shareOf_18 rfl ?_
      refine V.iload C dX5_shareOf_19 rfl ?_
      refine V.iload_n C dX5_shareOf_21 rfl ?_
      refine V.iload C dX5_shareOf_22 rfl ?_
      refine V.callVi C (ct_X0_isCounted hT (by omega) hq (hce k hk)) gX5_shareOf_X0_isCounted (n := 3) ⟨rfl, by decide, by decide, by decide +kernel⟩ rfl (q0 := 4) rfl rfl rfl rfl ⟨Nat.le_of_ble_eq_true rfl, Nat.le_of_ble_eq_true rfl⟩ ⟨rfl, rfl, Nat.zero_le _, Nat.zero_le _⟩ (Nat.le_of_ble_eq_true rfl) dX5_shareOf_24 ?_
      refine V.if_eq C (tgt := 65) dX5_shareOf_27 (by decide) (fun c_2 => ?_) (fun c_2 => ?_)
      · refine V.iinc C (v := nI (k + 1)) dX5_shareOf_65 rfl (nI_inc k) (by decide) rfl ?_
        dsimp only [List.set]
        refine V.goto C (tgt := 9) dX5_shareOf_68 (by decide) ?_
        exact V.sub (M := [some (.ref (h 5)), some (.ref (h 4)), some (.int (nI q)), some (.int a), some (.int A), some (.int (jSumIf (jCounted σ q A) (σ 24) (k + 1))), some (.int (jSumIf (fun i => jCounted σ q A i && decide (jGiven σ i q = a)) (σ 24) (k + 1))), some (.int (nI (k + 1)))]) (lsub_s rfl (lsub_s rfl (lsub_s rfl (lsub_s rfl (lsub_s rfl (lsub_si (by (clear hQ C; (try simp only [bI_0] at *); first | (simp [jSumIf, bI_t2, bI_f2, *]; done) | (simp_all; done))) rfl (lsub_si (by (clear hQ C; (try simp only [bI_0] at *); first | (simp [jSumIf, bI_t2, bI_f2, *]; done) | (simp_all; done))) rfl (lsub_s rfl (lsub_e))))))))) ih_k
      · refine V.iload C dX5_shareOf_30 rfl ?_
        refine V.aload_n C dX5_shareOf_32 rfl ?_
        refine V.get C (q0 := 5) (k := 0) rfl rfl (by decide) iX5 (by decide +kernel) rfl rfl dX5_shareOf_33 ?_
        refine V.iload C dX5_shareOf_36 rfl ?_
        refine V.iald C (q0 := 24) (t0 := 0) rfl hT (rfl) (by omega) (by omega) dX5_shareOf_38 ?_
        refine V.iadd C dX5_shareOf_39 ?_
        refine V.istore C dX5_shareOf_40 (by decide) rfl ?_
        dsimp only [List.set]
        refine V.aload_n C dX5_shareOf_42 rfl ?_
        refine V.iload C dX5_shareOf_43 rfl ?_
        refine V.iload_n C dX5_shareOf_45 rfl ?_
        refine V.callVi C (ct_X0_answerTo hT (by omega) hq) gX5_shareOf_X0_answerTo (n := 2) ⟨rfl, by decide, by decide, by decide +kernel⟩ rfl (q0 := 4) rfl rfl rfl rfl ⟨Nat.le_of_ble_eq_true rfl, Nat.le_of_ble_eq_true rfl⟩ ⟨rfl, rfl, Nat.zero_le _, Nat.zero_le _⟩ (Nat.le_of_ble_eq_true rfl) dX5_shareOf_46 ?_
        refine V.iload_n C dX5_shareOf_49 rfl ?_
        refine V.icmp_ne C (tgt := 65) dX5_shareOf_50 (by decide) (fun c_3 => ?_) (fun c_3 => ?_)
        · refine V.iinc C (v := nI (k + 1)) dX5_shareOf_65 rfl (nI_inc k) (by decide) rfl ?_
          dsimp only [List.set]
          refine V.goto C (tgt := 9) dX5_shareOf_68 (by decide) ?_
          exact V.sub (M := [some (.ref (h 5)), some (.ref (h 4)), some (.int (nI q)), some (.int a), some (.int A), some (.int (jSumIf (jCounted σ q A) (σ 24) (k + 1))), some (.int (jSumIf (fun i => jCounted σ q A i && decide (jGiven σ i q = a)) (σ 24) (k + 1))), some (.int (nI (k + 1)))]) (lsub_s rfl (lsub_s rfl (lsub_s rfl (lsub_s rfl (lsub_s rfl (lsub_si (by (clear hQ C; (try simp only [bI_0] at *); first | (simp [jSumIf, bI_t2, bI_f2, *]; done) | (simp_all; done))) rfl (lsub_si (by (clear hQ C; (try simp only [bI_0] at *); first | (simp [jSumIf, bI_t2, bI_f2, *]; done) | (simp_all; done))) rfl (lsub_s rfl (lsub_e))))))))) ih_k
        · refine V.iload C dX5_shareOf_53 rfl ?_
          refine V.aload_n C dX5_shareOf_55 rfl ?_
          refine V.get C (q0 := 5) (k := 0) rfl rfl (by decide) iX5 (by decide +kernel) rfl rfl dX5_shareOf_56 ?_
          refine V.iload C dX5_shareOf_59 rfl ?_
          refine V.iald C (q0 := 24) (t0 := 0) rfl hT (rfl) (by omega) (by omega) dX5_shareOf_61 ?_
          refine V.iadd C dX5_shareOf_62 ?_
          refine V.istore C dX5_shareOf_63 (by decide) rfl ?_
          dsimp only [List.set]
          refine V.iinc C (v := nI (k + 1)) dX5_shareOf_65 rfl (nI_inc k) (by decide) rfl ?_
          dsimp only [List.set]
          refine V.goto C (tgt := 9) dX5_shareOf_68 (by decide) ?_
          exact V.sub (M := [some (.ref (h 5)), some (.ref (h 4)), some (.int (nI q)), some (.int a), some (.int A), some (.int (jSumIf (jCounted σ q A) (σ 24) (k + 1))), some (.int (jSumIf (fun i => jCounted σ q A i && decide (jGiven σ i q = a)) (σ 24) (k + 1))), some (.int (nI (k + 1)))]) (lsub_s rfl (lsub_s rfl (lsub_s rfl (lsub_s rfl (lsub_s rfl (lsub_si (by (clear hQ C; (try simp only [bI_0] at *); first | (simp [jSumIf, bI_t2, bI_f2, *]; done) | (simp_all; done))) rfl (lsub_si (by (clear hQ C; (try simp only [bI_0] at *); first | (simp [jSumIf, bI_t2, bI_f2, *]; done) | (simp_all; done))) rfl (lsub_s rfl (lsub_e))))))))) ih_k
  · try dsimp only
    refine V.iload C dX5_shareOf_9 rfl ?_
    refine V.aload_n C dX5_shareOf_11 rfl ?_
    refine V.callVi C (ct_X0_size) gX5_shareOf_X0_size (n := 0) ⟨rfl, by decide, by decide, by decide +kernel⟩ rfl (q0 := 4) rfl rfl rfl rfl ⟨Nat.le_of_ble_eq_true rfl, Nat.le_of_ble_eq_true rfl⟩ ⟨rfl, rfl, Nat.zero_le _, Nat.zero_le _⟩ (Nat.le_of_ble_eq_true rfl) dX5_shareOf_12 ?_
    refine V.topi (y := nI N) (hN) ?_
    refine V.icmp_ge C (tgt := 71) dX5_shareOf_15 (by decide) (fun c_4 => ?_) (fun c_4 => ?_)
    · refine V.iload C dX5_shareOf_71 rfl ?_
      refine V.if_le C (tgt := 87) dX5_shareOf_73 (by decide) (fun c_5 => ?_) (fun c_5 => ?_)
      · refine V.iconst C (v := (-1)) dX5_shareOf_87 (by decide) ?_
        refine hQ _ _ _ _ _ (Or.inr (Or.inl ⟨_, _, dX5_shareOf_88, rfl, rfl, rfl, rfl⟩)) ⟨?_, rfl⟩
        (clear hQ C; (try simp only [bI_0] at *); first | (simp [jShare, bI_t2, bI_f2, *]; done) | (simp_all; done))
      · refine V.bipush C (v := nI 100) dX5_shareOf_76 (by decide) ?_
        refine V.iload C dX5_shareOf_78 rfl ?_
        refine V.imul C dX5_shareOf_80 ?_
        refine V.iload C dX5_shareOf_81 rfl ?_
        refine V.idiv C dX5_shareOf_83 (ne_pos (by assumption)) ?_
        refine V.goto C (tgt := 88) dX5_shareOf_84 (by decide) ?_
        refine hQ _ _ _ _ _ (Or.inr (Or.inl ⟨_, _, dX5_shareOf_88, rfl, rfl, rfl, rfl⟩)) ⟨?_, rfl⟩
        (clear hQ C; (try simp only [bI_0] at *); first | (simp [jShare, bI_t2, bI_f2, *]; done) | (simp_all; done))
    · exfalso
      exact absurd c_4 (nI_nlt (Nat.le_refl _) (by omega))
set_option maxRecDepth 100000 in
set_option maxHeartbeats 4000000 in
theorem ct_X5_of_6 {l : Launch} {D : va_G} {tys : List (ClassId × FieldType)} {cI : ClassId} {h : Nat → Nat} {σ : Nat → Nat → Int32} (hT : tys[0]? = some (cI, .int)) {i : Nat} (hi : i < 40) : Cd l D tys yX5_of wsX5_of ({ frames := 0, cells := 0, slots := 0, locals := 0 } : Room) (SW cI h σ) [.ref (h 6), .int (nI i)] (some (.int (σ 25 i))) (SW cI h σ) := by
  refine Ct.of [some (.ref (h 6)), some (.int (nI i))] (by decide) rfl rfl (Nat.le_of_ble_eq_true rfl) rfl (fun κ C hQ => ?_)
  have iX5 : ∀ z ∈ u_ws RX5 TX5 1, z ∈ wsX5_of := by decide +kernel
  refine V.aload_n C dX5_of_0 rfl ?_
  refine V.get C (q0 := 6) (k := 0) rfl rfl (by decide) iX5 (by decide +kernel) rfl rfl dX5_of_1 ?_
  refine V.iload_n C dX5_of_4 rfl ?_
  refine V.iald C (q0 := 25) (t0 := 0) rfl hT (rfl) (by omega) (by omega) dX5_of_5 ?_
  refine hQ _ _ _ _ _ (Or.inr (Or.inl ⟨_, _, dX5_of_6, rfl, rfl, rfl, rfl⟩)) ⟨?_, rfl⟩
  rfl
set_option maxRecDepth 100000 in
set_option maxHeartbeats 4000000 in
theorem ct_X5_sumOf_6 {l : Launch} {D : va_G} {tys : List (ClassId × FieldType)} {cI : ClassId} {h : Nat → Nat} {σ : Nat → Nat → Int32} (hT : tys[0]? = some (cI, .int)) {g : Nat} {N : Nat} (hN : σ 4 0 = nI N) (hN40 : N ≤ 40) (hce : ∀ i, i < N → Nn (σ 18 i) 6) (hg : g < 5) : Cd l D tys yX5_sumOf wsX5_sumOf ({ frames := 2, cells := 0, slots := 0, locals := 41 } : Room) (SW cI h σ) [.ref (h 6), .ref (h 4), .int (nI g)] (some (.int (jSumG σ 25 N g))) (SW cI h σ) := by
  refine Ct.of [some (.ref (h 6)), some (.ref (h 4)), some (.int (nI g)), none, none] (by decide) rfl rfl (Nat.le_of_ble_eq_true rfl) rfl (fun κ C hQ => ?_)
  have iX5 : ∀ z ∈ u_ws RX5 TX5 1, z ∈ wsX5_sumOf := by decide +kernel
  refine V.iconst C (v := nI 0) dX5_sumOf_0 (by decide) ?_
  refine V.istore_n C dX5_sumOf_1 (by decide) rfl ?_
  dsimp only [List.set, Fin.val]
  refine V.iconst C (v := nI 0) dX5_sumOf_2 (by decide) ?_
  refine V.istore C dX5_sumOf_3 (by decide) rfl ?_
  dsimp only [List.set]
  refine V.loop (N) (fun k => SW cI h σ) (fun k => [some (.ref (h 6)), some (.ref (h 4)), some (.int (nI g)), some (.int (jSumIf (fun i => jIsIn (jC σ i) g) (σ 25) k)), some (.int (nI k))]) (fun k hk ih_k => ?_) ?_ (rfl) (lsub_s rfl (lsub_s rfl (lsub_s rfl (lsub_s rfl (lsub_s rfl (lsub_e))))))
  · try dsimp only
    refine V.iload C dX5_sumOf_5 rfl ?_
    refine V.aload_n C dX5_sumOf_7 rfl ?_
    refine V.callVi C (ct_X0_size) gX5_sumOf_X0_size (n := 0) ⟨rfl, by decide, by decide, by decide +kernel⟩ rfl (q0 := 4) rfl rfl rfl rfl ⟨Nat.le_of_ble_eq_true rfl, Nat.le_of_ble_eq_true rfl⟩ ⟨rfl, rfl, Nat.zero_le _, Nat.zero_le _⟩ (Nat.le_of_ble_eq_true rfl) dX5_sumOf_8 ?_
    refine V.topi (y := nI N) (hN) ?_
    refine V.icmp_ge C (tgt := 43) dX5_sumOf_11 (by decide) (fun c_1 => ?_) (fun c_1 => ?_)
    · exfalso
      exact c_1 (nI_lt hk (by omega))
    · refine V.aload_n C dX5_sumOf_14 rfl ?_
      refine V.iload C dX5_sumOf_15 rfl ?_
      refine V.callVi C (ct_X0_cellOf hT (by omega)) gX5_sumOf_X0_cellOf (n := 1) ⟨rfl, by decide, by decide, by decide +kernel⟩ rfl (q0 := 4) rfl rfl rfl rfl ⟨Nat.le_of_ble_eq_true rfl, Nat.le_of_ble_eq_true rfl⟩ ⟨rfl, rfl, Nat.zero_le _, Nat.zero_le _⟩ (Nat.le_of_ble_eq_true rfl) dX5_sumOf_17 ?_
      refine V.topi (y := nI (jC σ k)) ((hce k hk).1) ?_
      refine V.iload_n C dX5_sumOf_20 rfl ?_
      refine V.callSNi C (ct_X6_isIn (hce k hk).2 hg) gX5_sumOf_X6_isIn_n42 (fun _ q => q.2.2.1) (by decide +kernel) (by decide +kernel) (n := 2) ⟨by decide, by decide, by decide +kernel⟩ rfl rfl rfl ⟨Nat.le_of_ble_eq_true rfl, Nat.le_of_ble_eq_true rfl⟩ ⟨rfl, rfl, Nat.zero_le _, Nat.zero_le _⟩ (Nat.le_of_ble_eq_true rfl) dX5_sumOf_21 ?_
      refine V.if_eq C (tgt := 37) dX5_sumOf_24 (by decide) (fun c_2 => ?_) (fun c_2 => ?_)
      · refine V.iinc C (v := nI (k + 1)) dX5_sumOf_37 rfl (nI_inc k) (by decide) rfl ?_
        dsimp only [List.set]
        refine V.goto C (tgt := 5) dX5_sumOf_40 (by decide) ?_
        exact V.sub (M := [some (.ref (h 6)), some (.ref (h 4)), some (.int (nI g)), some (.int (jSumIf (fun i => jIsIn (jC σ i) g) (σ 25) (k + 1))), some (.int (nI (k + 1)))]) (lsub_s rfl (lsub_s rfl (lsub_s rfl (lsub_si (by (clear hQ C; (try simp only [bI_0] at *); first | (simp [jSumIf, jC, bI_t2, bI_f2, *]; done) | (simp_all; done))) rfl (lsub_s rfl (lsub_e)))))) ih_k
      · refine V.iload_n C dX5_sumOf_27 rfl ?_
        refine V.aload_n C dX5_sumOf_28 rfl ?_
        refine V.get C (q0 := 6) (k := 0) rfl rfl (by decide) iX5 (by decide +kernel) rfl rfl dX5_sumOf_29 ?_
        refine V.iload C dX5_sumOf_32 rfl ?_
        refine V.iald C (q0 := 25) (t0 := 0) rfl hT (rfl) (by omega) (by omega) dX5_sumOf_34 ?_
        refine V.iadd C dX5_sumOf_35 ?_
        refine V.istore_n C dX5_sumOf_36 (by decide) rfl ?_
        dsimp only [List.set, Fin.val]
        refine V.iinc C (v := nI (k + 1)) dX5_sumOf_37 rfl (nI_inc k) (by decide) rfl ?_
        dsimp only [List.set]
        refine V.goto C (tgt := 5) dX5_sumOf_40 (by decide) ?_
        exact V.sub (M := [some (.ref (h 6)), some (.ref (h 4)), some (.int (nI g)), some (.int (jSumIf (fun i => jIsIn (jC σ i) g) (σ 25) (k + 1))), some (.int (nI (k + 1)))]) (lsub_s rfl (lsub_s rfl (lsub_s rfl (lsub_si (by (clear hQ C; (try simp only [bI_0] at *); first | (simp [jSumIf, jC, bI_t2, bI_f2, *]; done) | (simp_all; done))) rfl (lsub_s rfl (lsub_e)))))) ih_k
  · try dsimp only
    refine V.iload C dX5_sumOf_5 rfl ?_
    refine V.aload_n C dX5_sumOf_7 rfl ?_
    refine V.callVi C (ct_X0_size) gX5_sumOf_X0_size (n := 0) ⟨rfl, by decide, by decide, by decide +kernel⟩ rfl (q0 := 4) rfl rfl rfl rfl ⟨Nat.le_of_ble_eq_true rfl, Nat.le_of_ble_eq_true rfl⟩ ⟨rfl, rfl, Nat.zero_le _, Nat.zero_le _⟩ (Nat.le_of_ble_eq_true rfl) dX5_sumOf_8 ?_
    refine V.topi (y := nI N) (hN) ?_
    refine V.icmp_ge C (tgt := 43) dX5_sumOf_11 (by decide) (fun c_3 => ?_) (fun c_3 => ?_)
    · refine V.iload_n C dX5_sumOf_43 rfl ?_
      refine hQ _ _ _ _ _ (Or.inr (Or.inl ⟨_, _, dX5_sumOf_44, rfl, rfl, rfl, rfl⟩)) ⟨?_, rfl⟩
      rfl
    · exfalso
      exact absurd c_3 (nI_nlt (Nat.le_refl _) (by omega))
set_option maxRecDepth 100000 in
set_option maxHeartbeats 4000000 in
theorem ct_X5_scale_6 {l : Launch} {D : va_G} {tys : List (ClassId × FieldType)} {cI : ClassId} {h : Nat → Nat} {σ : Nat → Nat → Int32} (hT : tys[0]? = some (cI, .int)) {g : Nat} {m : Int32} {N : Nat} (hN : σ 4 0 = nI N) (hN40 : N ≤ 40) (hce : ∀ i, i < N → Nn (σ 18 i) 6) (hg : g < 5) : Cd l D tys yX5_scale wsX5_scale ({ frames := 3, cells := 0, slots := 0, locals := 65 } : Room) (SW cI h σ) [.ref (h 6), .ref (h 4), .int (nI g), .int m] (none) (SW cI h (jScale σ 25 N g m)) := by
  refine Ct.of [some (.ref (h 6)), some (.ref (h 4)), some (.int (nI g)), some (.int m), none, none] (by decide) rfl rfl (Nat.le_of_ble_eq_true rfl) rfl (fun κ C hQ => ?_)
  have iX5 : ∀ z ∈ u_ws RX5 TX5 1, z ∈ wsX5_scale := by decide +kernel
  refine V.aload_n C dX5_scale_0 rfl ?_
  refine V.aload_n C dX5_scale_1 rfl ?_
  refine V.iload_n C dX5_scale_2 rfl ?_
  refine V.callVi C (ct_X5_sumOf_6 hT hN (by omega) hce hg) gX5_scale_X5_sumOf (n := 2) ⟨rfl, by decide, by decide, by decide +kernel⟩ rfl (q0 := 6) rfl rfl rfl rfl ⟨Nat.le_of_ble_eq_true rfl, Nat.le_of_ble_eq_true rfl⟩ ⟨rfl, rfl, Nat.zero_le _, Nat.zero_le _⟩ (Nat.le_of_ble_eq_true rfl) dX5_scale_3 ?_
  refine V.istore C dX5_scale_6 (by decide) rfl ?_
  dsimp only [List.set]
  refine V.iload C dX5_scale_8 rfl ?_
  refine V.if_gt C (tgt := 14) dX5_scale_10 (by decide) (fun c_1 => ?_) (fun c_1 => ?_)
  · refine V.iconst C (v := nI 0) dX5_scale_14 (by decide) ?_
    refine V.istore C dX5_scale_15 (by decide) rfl ?_
    dsimp only [List.set]
    refine V.loop (N) (fun k => SW cI h (jSc σ 25 g m (jSumG σ 25 N g) k)) (fun k => [some (.ref (h 6)), some (.ref (h 4)), some (.int (nI g)), some (.int m), some (.int (jSumG σ 25 N g)), some (.int (nI k))]) (fun k hk ih_k => ?_) ?_ (rfl) (lsub_s rfl (lsub_s rfl (lsub_s rfl (lsub_s rfl (lsub_s rfl (lsub_s rfl (lsub_e)))))))
    · try dsimp only
      refine V.iload C dX5_scale_17 rfl ?_
      refine V.aload_n C dX5_scale_19 rfl ?_
      refine V.callVi C (ct_X0_size) gX5_scale_X0_size (n := 0) ⟨rfl, by decide, by decide, by decide +kernel⟩ rfl (q0 := 4) rfl rfl rfl rfl ⟨Nat.le_of_ble_eq_true rfl, Nat.le_of_ble_eq_true rfl⟩ ⟨rfl, rfl, Nat.zero_le _, Nat.zero_le _⟩ (Nat.le_of_ble_eq_true rfl) dX5_scale_20 ?_
      refine V.topi (y := nI N) ((congrFun (jSc_ne σ g m _ (by decide) _) 0).trans hN) ?_
      refine V.icmp_ge C (tgt := 64) dX5_scale_23 (by decide) (fun c_2 => ?_) (fun c_2 => ?_)
      · exfalso
        exact c_2 (nI_lt hk (by omega))
      · refine V.aload_n C dX5_scale_26 rfl ?_
        refine V.iload C dX5_scale_27 rfl ?_
        refine V.callVi C (ct_X0_cellOf hT (by omega)) gX5_scale_X0_cellOf (n := 1) ⟨rfl, by decide, by decide, by decide +kernel⟩ rfl (q0 := 4) rfl rfl rfl rfl ⟨Nat.le_of_ble_eq_true rfl, Nat.le_of_ble_eq_true rfl⟩ ⟨rfl, rfl, Nat.zero_le _, Nat.zero_le _⟩ (Nat.le_of_ble_eq_true rfl) dX5_scale_29 ?_
        refine V.topi (y := nI (jC σ k)) (by rw [jSc_ne σ g m _ (by decide) k]; exact (hce k hk).1) ?_
        refine V.iload_n C dX5_scale_32 rfl ?_
        refine V.callSNi C (ct_X6_isIn (hce k hk).2 hg) gX5_scale_X6_isIn_n42 (fun _ q => q.2.2.1) (by decide +kernel) (by decide +kernel) (n := 2) ⟨by decide, by decide, by decide +kernel⟩ rfl rfl rfl ⟨Nat.le_of_ble_eq_true rfl, Nat.le_of_ble_eq_true rfl⟩ ⟨rfl, rfl, Nat.zero_le _, Nat.zero_le _⟩ (Nat.le_of_ble_eq_true rfl) dX5_scale_33 ?_
        refine V.if_eq C (tgt := 58) dX5_scale_36 (by decide) (fun c_3 => ?_) (fun c_3 => ?_)
        · refine V.iinc C (v := nI (k + 1)) dX5_scale_58 rfl (nI_inc k) (by decide) rfl ?_
          dsimp only [List.set]
          refine V.goto C (tgt := 17) dX5_scale_61 (by decide) ?_
          refine V.world (w' := SW cI h (jSc σ 25 g m (jSumG σ 25 N g) (k + 1))) (by (clear hQ C; (try simp only [bI_0] at *); first | (simp [jSc, jC, bI_t2, bI_f2, *]; done) | (simp_all; done))) ?_
          exact V.sub (M := [some (.ref (h 6)), some (.ref (h 4)), some (.int (nI g)), some (.int m), some (.int (jSumG σ 25 N g)), some (.int (nI (k + 1)))]) (lsub_s rfl (lsub_s rfl (lsub_s rfl (lsub_s rfl (lsub_s rfl (lsub_s rfl (lsub_e))))))) ih_k
        · refine V.aload_n C dX5_scale_39 rfl ?_
          refine V.get C (q0 := 6) (k := 0) rfl rfl (by decide) iX5 (by decide +kernel) rfl rfl dX5_scale_40 ?_
          refine V.iload C dX5_scale_43 rfl ?_
          refine V.aload_n C dX5_scale_45 rfl ?_
          refine V.get C (q0 := 6) (k := 0) rfl rfl (by decide) iX5 (by decide +kernel) rfl rfl dX5_scale_46 ?_
          refine V.iload C dX5_scale_49 rfl ?_
          refine V.iald C (q0 := 25) (t0 := 0) rfl hT (rfl) (by omega) (by omega) dX5_scale_51 ?_
          refine V.iload_n C dX5_scale_52 rfl ?_
          refine V.imul C dX5_scale_53 ?_
          refine V.iload C dX5_scale_54 rfl ?_
          refine V.idiv C dX5_scale_56 (ne_pos (by assumption)) ?_
          refine V.iast C (q0 := 25) (t0 := 0) (w' := SW cI h (sW (jSc σ 25 g m (jSumG σ 25 N g) k) 25 k (jSc σ 25 g m (jSumG σ 25 N g) k 25 k * m / jSumG σ 25 N g))) rfl hT (rfl) (by omega) (by omega) rfl dX5_scale_57 ?_
          refine V.iinc C (v := nI (k + 1)) dX5_scale_58 rfl (nI_inc k) (by decide) rfl ?_
          dsimp only [List.set]
          refine V.goto C (tgt := 17) dX5_scale_61 (by decide) ?_
          refine V.world (w' := SW cI h (jSc σ 25 g m (jSumG σ 25 N g) (k + 1))) (by (clear hQ C; (try simp only [bI_0] at *); first | (simp [jSc, jC, bI_t2, bI_f2, *]; done) | (simp_all; done))) ?_
          exact V.sub (M := [some (.ref (h 6)), some (.ref (h 4)), some (.int (nI g)), some (.int m), some (.int (jSumG σ 25 N g)), some (.int (nI (k + 1)))]) (lsub_s rfl (lsub_s rfl (lsub_s rfl (lsub_s rfl (lsub_s rfl (lsub_s rfl (lsub_e))))))) ih_k
    · try dsimp only
      refine V.iload C dX5_scale_17 rfl ?_
      refine V.aload_n C dX5_scale_19 rfl ?_
      refine V.callVi C (ct_X0_size) gX5_scale_X0_size (n := 0) ⟨rfl, by decide, by decide, by decide +kernel⟩ rfl (q0 := 4) rfl rfl rfl rfl ⟨Nat.le_of_ble_eq_true rfl, Nat.le_of_ble_eq_true rfl⟩ ⟨rfl, rfl, Nat.zero_le _, Nat.zero_le _⟩ (Nat.le_of_ble_eq_true rfl) dX5_scale_20 ?_
      refine V.topi (y := nI N) ((congrFun (jSc_ne σ g m _ (by decide) _) 0).trans hN) ?_
      refine V.icmp_ge C (tgt := 64) dX5_scale_23 (by decide) (fun c_4 => ?_) (fun c_4 => ?_)
      · exact hQ _ _ _ _ _ (Or.inl ⟨dX5_scale_64, rfl, rfl, rfl⟩) ⟨rfl, by rw [jScale, if_pos (by assumption)]⟩
      · exfalso
        exact absurd c_4 (nI_nlt (Nat.le_refl _) (by omega))
  · exact hQ _ _ _ _ _ (Or.inl ⟨dX5_scale_13, rfl, rfl, rfl⟩) ⟨rfl, by rw [jScale, if_neg (by assumption)]⟩
set_option maxRecDepth 100000 in
set_option maxHeartbeats 4000000 in
theorem ct_X5_weigh_6 {l : Launch} {D : va_G} {tys : List (ClassId × FieldType)} {cI : ClassId} {h : Nat → Nat} {σ : Nat → Nat → Int32} (hT : tys[0]? = some (cI, .int)) {n : Nat} {N : Nat} (hN : σ 4 0 = nI N) (hN40 : N ≤ 40) (hce : ∀ i, i < N → Nn (σ 18 i) 6) (hn : n ≤ 9) : Cd l D tys yX5_weigh wsX5_weigh ({ frames := 4, cells := 0, slots := 0, locals := 90 } : Room) (SW cI h σ) [.ref (h 6), .ref (h 4), .ref (h 2), .int (nI n)] (none) (SW cI h (jWeigh σ 25 N n)) := by
  refine Ct.of [some (.ref (h 6)), some (.ref (h 4)), some (.ref (h 2)), some (.int (nI n)), none, none] (by decide) rfl rfl (Nat.le_of_ble_eq_true rfl) rfl (fun κ C hQ => ?_)
  have iX5 : ∀ z ∈ u_ws RX5 TX5 1, z ∈ wsX5_weigh := by decide +kernel
  refine V.iconst C (v := nI 0) dX5_weigh_0 (by decide) ?_
  refine V.istore C dX5_weigh_1 (by decide) rfl ?_
  dsimp only [List.set]
  refine V.loop (N) (fun k => SW cI h (jW0 σ 25 k)) (fun k => [some (.ref (h 6)), some (.ref (h 4)), some (.ref (h 2)), some (.int (nI n)), some (.int (nI k)), none]) (fun k hk ih_k => ?_) ?_ (rfl) (lsub_s rfl (lsub_s rfl (lsub_s rfl (lsub_s rfl (lsub_s rfl (lsub_n (lsub_e)))))))
  · try dsimp only
    refine V.iload C dX5_weigh_3 rfl ?_
    refine V.aload_n C dX5_weigh_5 rfl ?_
    refine V.callVi C (ct_X0_size) gX5_weigh_X0_size (n := 0) ⟨rfl, by decide, by decide, by decide +kernel⟩ rfl (q0 := 4) rfl rfl rfl rfl ⟨Nat.le_of_ble_eq_true rfl, Nat.le_of_ble_eq_true rfl⟩ ⟨rfl, rfl, Nat.zero_le _, Nat.zero_le _⟩ (Nat.le_of_ble_eq_true rfl) dX5_weigh_6 ?_
    refine V.topi (y := nI N) ((congrFun (jW0_ne σ (by decide) _) 0).trans hN) ?_
    refine V.icmp_ge C (tgt := 41) dX5_weigh_9 (by decide) (fun c_1 => ?_) (fun c_1 => ?_)
    · exfalso
      exact c_1 (nI_lt hk (by omega))
    · refine V.aload_n C dX5_weigh_12 rfl ?_
      refine V.get C (q0 := 6) (k := 0) rfl rfl (by decide) iX5 (by decide +kernel) rfl rfl dX5_weigh_13 ?_
      refine V.iload C dX5_weigh_16 rfl ?_
      refine V.aload_n C dX5_weigh_18 rfl ?_
      refine V.iload C dX5_weigh_19 rfl ?_
      refine V.callVi C (ct_X0_isComplete hT (by omega)) gX5_weigh_X0_isComplete (n := 1) ⟨rfl, by decide, by decide, by decide +kernel⟩ rfl (q0 := 4) rfl rfl rfl rfl ⟨Nat.le_of_ble_eq_true rfl, Nat.le_of_ble_eq_true rfl⟩ ⟨rfl, rfl, Nat.zero_le _, Nat.zero_le _⟩ (Nat.le_of_ble_eq_true rfl) dX5_weigh_21 ?_
      refine V.topi (y := bI (decide (σ 19 k = nI 1))) (by rw [jW0_ne σ (by decide) k]) ?_
      refine V.if_eq C (tgt := 33) dX5_weigh_24 (by decide) (fun c_2 => ?_) (fun c_2 => ?_)
      · refine V.iconst C (v := nI 0) dX5_weigh_33 (by decide) ?_
        refine V.iast C (q0 := 25) (t0 := 0) (w' := _) rfl hT (rfl) (by omega) (by omega) rfl dX5_weigh_34 ?_
        refine V.iinc C (v := nI (k + 1)) dX5_weigh_35 rfl (nI_inc k) (by decide) rfl ?_
        dsimp only [List.set]
        refine V.goto C (tgt := 3) dX5_weigh_38 (by decide) ?_
        refine V.world (w' := SW cI h (jW0 σ 25 (k + 1))) (by rw [jW0]; split <;> first | rfl | (exfalso; simp_all [bI_0])) ?_
        exact V.sub (M := [some (.ref (h 6)), some (.ref (h 4)), some (.ref (h 2)), some (.int (nI n)), some (.int (nI (k + 1))), none]) (lsub_s rfl (lsub_s rfl (lsub_s rfl (lsub_s rfl (lsub_s rfl (lsub_n (lsub_e))))))) ih_k
      · refine V.sipush C (v := nI 1000) dX5_weigh_27 (by decide) ?_
        refine V.goto C (tgt := 34) dX5_weigh_30 (by decide) ?_
        refine V.iast C (q0 := 25) (t0 := 0) (w' := _) rfl hT (rfl) (by omega) (by omega) rfl dX5_weigh_34 ?_
        refine V.iinc C (v := nI (k + 1)) dX5_weigh_35 rfl (nI_inc k) (by decide) rfl ?_
        dsimp only [List.set]
        refine V.goto C (tgt := 3) dX5_weigh_38 (by decide) ?_
        refine V.world (w' := SW cI h (jW0 σ 25 (k + 1))) (by rw [jW0]; split <;> first | rfl | (exfalso; simp_all [bI_0])) ?_
        exact V.sub (M := [some (.ref (h 6)), some (.ref (h 4)), some (.ref (h 2)), some (.int (nI n)), some (.int (nI (k + 1))), none]) (lsub_s rfl (lsub_s rfl (lsub_s rfl (lsub_s rfl (lsub_s rfl (lsub_n (lsub_e))))))) ih_k
  · try dsimp only
    refine V.iload C dX5_weigh_3 rfl ?_
    refine V.aload_n C dX5_weigh_5 rfl ?_
    refine V.callVi C (ct_X0_size) gX5_weigh_X0_size (n := 0) ⟨rfl, by decide, by decide, by decide +kernel⟩ rfl (q0 := 4) rfl rfl rfl rfl ⟨Nat.le_of_ble_eq_true rfl, Nat.le_of_ble_eq_true rfl⟩ ⟨rfl, rfl, Nat.zero_le _, Nat.zero_le _⟩ (Nat.le_of_ble_eq_true rfl) dX5_weigh_6 ?_
    refine V.topi (y := nI N) ((congrFun (jW0_ne σ (by decide) _) 0).trans hN) ?_
    refine V.icmp_ge C (tgt := 41) dX5_weigh_9 (by decide) (fun c_3 => ?_) (fun c_3 => ?_)
    · refine V.iconst C (v := nI 0) dX5_weigh_41 (by decide) ?_
      refine V.istore C dX5_weigh_42 (by decide) rfl ?_
      dsimp only [List.set]
      refine V.loop (n) (fun k => SW cI h (jRd (jW0 σ 25 N) 25 N k)) (fun k => [some (.ref (h 6)), some (.ref (h 4)), some (.ref (h 2)), some (.int (nI n)), some (.int (nI k)), none]) (fun k hk ih_k => ?_) ?_ (rfl) (lsub_s rfl (lsub_s rfl (lsub_s rfl (lsub_s rfl (lsub_s rfl (lsub_n (lsub_e)))))))
      · try dsimp only
        refine V.iload C dX5_weigh_44 rfl ?_
        refine V.iload_n C dX5_weigh_46 rfl ?_
        refine V.icmp_ge C (tgt := 84) dX5_weigh_47 (by decide) (fun c_4 => ?_) (fun c_4 => ?_)
        · exfalso
          exact c_4 (nI_lt hk (by omega))
        · refine V.iconst C (v := nI 0) dX5_weigh_50 (by decide) ?_
          refine V.istore C dX5_weigh_51 (by decide) rfl ?_
          dsimp only [List.set]
          refine V.loop (5) (fun g => SW cI h (jGr (jRd (jW0 σ 25 N) 25 N k) 25 N g)) (fun g => [some (.ref (h 6)), some (.ref (h 4)), some (.ref (h 2)), some (.int (nI n)), some (.int (nI k)), some (.int (nI g))]) (fun g hg ih_g => ?_) ?_ (rfl) (lsub_s rfl (lsub_s rfl (lsub_s rfl (lsub_s rfl (lsub_s rfl (lsub_s rfl (lsub_e)))))))
          · try dsimp only
            refine V.iload C dX5_weigh_53 rfl ?_
            refine V.iconst C (v := nI 5) dX5_weigh_55 (by decide) ?_
            refine V.icmp_ge C (tgt := 78) dX5_weigh_56 (by decide) (fun c_5 => ?_) (fun c_5 => ?_)
            · exfalso
              exact c_5 (nI_lt hg (by decide))
            · refine V.aload_n C dX5_weigh_59 rfl ?_
              refine V.aload_n C dX5_weigh_60 rfl ?_
              refine V.iload C dX5_weigh_61 rfl ?_
              refine V.aload_n C dX5_weigh_63 rfl ?_
              refine V.iload C dX5_weigh_64 rfl ?_
              refine V.callVi C (ct_X3_marginOf hT hg) gX5_weigh_X3_marginOf (n := 1) ⟨rfl, by decide, by decide, by decide +kernel⟩ rfl (q0 := 2) rfl rfl rfl rfl ⟨Nat.le_of_ble_eq_true rfl, Nat.le_of_ble_eq_true rfl⟩ ⟨rfl, rfl, Nat.zero_le _, Nat.zero_le _⟩ (Nat.le_of_ble_eq_true rfl) dX5_weigh_66 ?_
              refine V.callVv C (ct_X5_scale_6 hT ((congrFun ((jGr_ne _ N (by decide) g).trans ((jRd_ne _ N (by decide) k).trans (jW0_ne σ (by decide) N))) 0).trans hN) (by omega) (fun i hi => by rw [((jGr_ne _ N (by decide) g).trans ((jRd_ne _ N (by decide) k).trans (jW0_ne σ (by decide) N)))]; exact hce i hi) hg) gX5_weigh_X5_scale (n := 3) ⟨rfl, by decide, by decide, by decide +kernel⟩ rfl (q0 := 6) rfl rfl rfl rfl ⟨Nat.le_of_ble_eq_true rfl, Nat.le_of_ble_eq_true rfl⟩ ⟨rfl, rfl, Nat.zero_le _, Nat.zero_le _⟩ (Nat.le_of_ble_eq_true rfl) dX5_weigh_69 ?_
              refine V.iinc C (v := nI (g + 1)) dX5_weigh_72 rfl (nI_inc g) (by decide) rfl ?_
              dsimp only [List.set]
              refine V.goto C (tgt := 53) dX5_weigh_75 (by decide) ?_
              refine V.world (w' := SW cI h (jGr (jRd (jW0 σ 25 N) 25 N k) 25 N (g + 1))) (rfl) ?_
              exact V.sub (M := [some (.ref (h 6)), some (.ref (h 4)), some (.ref (h 2)), some (.int (nI n)), some (.int (nI k)), some (.int (nI (g + 1)))]) (lsub_s rfl (lsub_s rfl (lsub_s rfl (lsub_s rfl (lsub_s rfl (lsub_s rfl (lsub_e))))))) ih_g
          · try dsimp only
            refine V.iload C dX5_weigh_53 rfl ?_
            refine V.iconst C (v := nI 5) dX5_weigh_55 (by decide) ?_
            refine V.icmp_ge C (tgt := 78) dX5_weigh_56 (by decide) (fun c_6 => ?_) (fun c_6 => ?_)
            · refine V.iinc C (v := nI (k + 1)) dX5_weigh_78 rfl (nI_inc k) (by decide) rfl ?_
              dsimp only [List.set]
              refine V.goto C (tgt := 44) dX5_weigh_81 (by decide) ?_
              refine V.world (w' := SW cI h (jRd (jW0 σ 25 N) 25 N (k + 1))) (rfl) ?_
              exact V.sub (M := [some (.ref (h 6)), some (.ref (h 4)), some (.ref (h 2)), some (.int (nI n)), some (.int (nI (k + 1))), none]) (lsub_s rfl (lsub_s rfl (lsub_s rfl (lsub_s rfl (lsub_s rfl (lsub_n (lsub_e))))))) ih_k
            · exfalso
              exact absurd c_6 (nI_nlt (Nat.le_refl _) (by decide))
      · try dsimp only
        refine V.iload C dX5_weigh_44 rfl ?_
        refine V.iload_n C dX5_weigh_46 rfl ?_
        refine V.icmp_ge C (tgt := 84) dX5_weigh_47 (by decide) (fun c_7 => ?_) (fun c_7 => ?_)
        · exact hQ _ _ _ _ _ (Or.inl ⟨dX5_weigh_84, rfl, rfl, rfl⟩) ⟨rfl, rfl⟩
        · exfalso
          exact absurd c_7 (nI_nlt (Nat.le_refl _) (by omega))
    · exfalso
      exact absurd c_3 (nI_nlt (Nat.le_refl _) (by omega))
set_option maxRecDepth 100000 in
set_option maxHeartbeats 4000000 in
theorem ct_X5_farthest_6 {l : Launch} {D : va_G} {tys : List (ClassId × FieldType)} {cI : ClassId} {h : Nat → Nat} {σ : Nat → Nat → Int32} (hT : tys[0]? = some (cI, .int)) {N : Nat} (hN : σ 4 0 = nI N) (hN40 : N ≤ 40) (hce : ∀ i, i < N → Nn (σ 18 i) 6) : Cd l D tys yX5_farthest wsX5_farthest ({ frames := 3, cells := 0, slots := 0, locals := 65 } : Room) (SW cI h σ) [.ref (h 6), .ref (h 4), .ref (h 2)] (some (.int (jFar σ 25 N 5))) (SW cI h σ) := by
  refine Ct.of [some (.ref (h 6)), some (.ref (h 4)), some (.ref (h 2)), none, none, none] (by decide) rfl rfl (Nat.le_of_ble_eq_true rfl) rfl (fun κ C hQ => ?_)
  refine V.iconst C (v := nI 0) dX5_farthest_0 (by decide) ?_
  refine V.istore_n C dX5_farthest_1 (by decide) rfl ?_
  dsimp only [List.set, Fin.val]
  refine V.iconst C (v := nI 0) dX5_farthest_2 (by decide) ?_
  refine V.istore C dX5_farthest_3 (by decide) rfl ?_
  dsimp only [List.set]
  refine V.loop (5) (fun k => SW cI h σ) (fun k => [some (.ref (h 6)), some (.ref (h 4)), some (.ref (h 2)), some (.int (jFar σ 25 N k)), some (.int (nI k)), none]) (fun k hk ih_k => ?_) ?_ (rfl) (lsub_s rfl (lsub_s rfl (lsub_s rfl (lsub_s rfl (lsub_s rfl (lsub_n (lsub_e)))))))
  · try dsimp only
    refine V.iload C dX5_farthest_5 rfl ?_
    refine V.iconst C (v := nI 5) dX5_farthest_7 (by decide) ?_
    refine V.icmp_ge C (tgt := 48) dX5_farthest_8 (by decide) (fun c_1 => ?_) (fun c_1 => ?_)
    · exfalso
      exact c_1 (nI_lt hk (by decide))
    · refine V.aload_n C dX5_farthest_11 rfl ?_
      refine V.aload_n C dX5_farthest_12 rfl ?_
      refine V.iload C dX5_farthest_13 rfl ?_
      refine V.callVi C (ct_X5_sumOf_6 hT hN (by omega) hce hk) gX5_farthest_X5_sumOf (n := 2) ⟨rfl, by decide, by decide, by decide +kernel⟩ rfl (q0 := 6) rfl rfl rfl rfl ⟨Nat.le_of_ble_eq_true rfl, Nat.le_of_ble_eq_true rfl⟩ ⟨rfl, rfl, Nat.zero_le _, Nat.zero_le _⟩ (Nat.le_of_ble_eq_true rfl) dX5_farthest_15 ?_
      refine V.istore C dX5_farthest_18 (by decide) rfl ?_
      dsimp only [List.set]
      refine V.iload C dX5_farthest_20 rfl ?_
      refine V.if_le C (tgt := 42) dX5_farthest_22 (by decide) (fun c_2 => ?_) (fun c_2 => ?_)
      · refine V.iinc C (v := nI (k + 1)) dX5_farthest_42 rfl (nI_inc k) (by decide) rfl ?_
        dsimp only [List.set]
        refine V.goto C (tgt := 5) dX5_farthest_45 (by decide) ?_
        exact V.sub (M := [some (.ref (h 6)), some (.ref (h 4)), some (.ref (h 2)), some (.int (jFar σ 25 N (k + 1))), some (.int (nI (k + 1))), none]) (lsub_s rfl (lsub_s rfl (lsub_s rfl (lsub_si (by (clear hQ C; (try simp only [bI_0] at *); first | (simp [jFar, bI_t2, bI_f2, *]; done) | (simp_all; done))) rfl (lsub_s rfl (lsub_n (lsub_e))))))) ih_k
      · refine V.iload_n C dX5_farthest_25 rfl ?_
        refine V.iload C dX5_farthest_26 rfl ?_
        refine V.aload_n C dX5_farthest_28 rfl ?_
        refine V.iload C dX5_farthest_29 rfl ?_
        refine V.callVi C (ct_X3_marginOf hT hk) gX5_farthest_X3_marginOf (n := 1) ⟨rfl, by decide, by decide, by decide +kernel⟩ rfl (q0 := 2) rfl rfl rfl rfl ⟨Nat.le_of_ble_eq_true rfl, Nat.le_of_ble_eq_true rfl⟩ ⟨rfl, rfl, Nat.zero_le _, Nat.zero_le _⟩ (Nat.le_of_ble_eq_true rfl) dX5_farthest_31 ?_
        refine V.isub C dX5_farthest_34 ?_
        refine V.mabs C (by decide +kernel) (by decide +kernel) (by decide +kernel) (by decide +kernel) (by decide) (Nat.le_of_ble_eq_true rfl) (Nat.zero_le _) (Nat.zero_le _) dX5_farthest_35 ?_
        refine V.mmax C (by decide +kernel) (by decide +kernel) (by decide +kernel) (by decide +kernel) (by decide) (Nat.le_of_ble_eq_true rfl) (Nat.zero_le _) (Nat.zero_le _) dX5_farthest_38 ?_
        refine V.istore_n C dX5_farthest_41 (by decide) rfl ?_
        dsimp only [List.set, Fin.val]
        refine V.iinc C (v := nI (k + 1)) dX5_farthest_42 rfl (nI_inc k) (by decide) rfl ?_
        dsimp only [List.set]
        refine V.goto C (tgt := 5) dX5_farthest_45 (by decide) ?_
        exact V.sub (M := [some (.ref (h 6)), some (.ref (h 4)), some (.ref (h 2)), some (.int (jFar σ 25 N (k + 1))), some (.int (nI (k + 1))), none]) (lsub_s rfl (lsub_s rfl (lsub_s rfl (lsub_si (by (clear hQ C; (try simp only [bI_0] at *); first | (simp [jFar, bI_t2, bI_f2, *]; done) | (simp_all; done))) rfl (lsub_s rfl (lsub_n (lsub_e))))))) ih_k
  · try dsimp only
    refine V.iload C dX5_farthest_5 rfl ?_
    refine V.iconst C (v := nI 5) dX5_farthest_7 (by decide) ?_
    refine V.icmp_ge C (tgt := 48) dX5_farthest_8 (by decide) (fun c_3 => ?_) (fun c_3 => ?_)
    · refine V.iload_n C dX5_farthest_48 rfl ?_
      refine hQ _ _ _ _ _ (Or.inr (Or.inl ⟨_, _, dX5_farthest_49, rfl, rfl, rfl, rfl⟩)) ⟨?_, rfl⟩
      rfl
    · exfalso
      exact absurd c_3 (nI_nlt (Nat.le_refl _) (by decide))
set_option maxRecDepth 100000 in
set_option maxHeartbeats 4000000 in
theorem ct_X5_shareOf_6 {l : Launch} {D : va_G} {tys : List (ClassId × FieldType)} {cI : ClassId} {h : Nat → Nat} {σ : Nat → Nat → Int32} (hT : tys[0]? = some (cI, .int)) {q : Nat} {a A : Int32} {N : Nat} (hN : σ 4 0 = nI N) (hN40 : N ≤ 40) (hce : ∀ i, i < N → Nn (σ 18 i) 6) (hq : q < 10) : Cd l D tys yX5_shareOf wsX5_shareOf ({ frames := 2, cells := 0, slots := 0, locals := 45 } : Room) (SW cI h σ) [.ref (h 6), .ref (h 4), .int (nI q), .int a, .int A] (some (.int (jShare σ 25 N q a A))) (SW cI h σ) := by
  refine Ct.of [some (.ref (h 6)), some (.ref (h 4)), some (.int (nI q)), some (.int a), some (.int A), none, none, none] (by decide) rfl rfl (Nat.le_of_ble_eq_true rfl) rfl (fun κ C hQ => ?_)
  have iX5 : ∀ z ∈ u_ws RX5 TX5 1, z ∈ wsX5_shareOf := by decide +kernel
  refine V.iconst C (v := nI 0) dX5_shareOf_0 (by decide) ?_
  refine V.istore C dX5_shareOf_1 (by decide) rfl ?_
  dsimp only [List.set]
  refine V.iconst C (v := nI 0) dX5_shareOf_3 (by decide) ?_
  refine V.istore C dX5_shareOf_4 (by decide) rfl ?_
  dsimp only [List.set]
  refine V.iconst C (v := nI 0) dX5_shareOf_6 (by decide) ?_
  refine V.istore C dX5_shareOf_7 (by decide) rfl ?_
  dsimp only [List.set]
  refine V.loop (N) (fun k => SW cI h σ) (fun k => [some (.ref (h 6)), some (.ref (h 4)), some (.int (nI q)), some (.int a), some (.int A), some (.int (jSumIf (jCounted σ q A) (σ 25) k)), some (.int (jSumIf (fun i => jCounted σ q A i && decide (jGiven σ i q = a)) (σ 25) k)), some (.int (nI k))]) (fun k hk ih_k => ?_) ?_ (rfl) (lsub_s rfl (lsub_s rfl (lsub_s rfl (lsub_s rfl (lsub_s rfl (lsub_s rfl (lsub_s rfl (lsub_s rfl (lsub_e)))))))))
  · try dsimp only
    refine V.iload C dX5_shareOf_9 rfl ?_
    refine V.aload_n C dX5_shareOf_11 rfl ?_
    refine V.callVi C (ct_X0_size) gX5_shareOf_X0_size (n := 0) ⟨rfl, by decide, by decide, by decide +kernel⟩ rfl (q0 := 4) rfl rfl rfl rfl ⟨Nat.le_of_ble_eq_true rfl, Nat.le_of_ble_eq_true rfl⟩ ⟨rfl, rfl, Nat.zero_le _, Nat.zero_le _⟩ (Nat.le_of_ble_eq_true rfl) dX5_shareOf_12 ?_
    refine V.topi (y := nI N) (hN) ?_
    refine V.icmp_ge C (tgt := 71) dX5_shareOf_15 (by decide) (fun c_1 => ?_) (fun c_1 => ?_)
    · exfalso
      exact c_1 (nI_lt hk (by omega))
    · refine V.aload_n C dX5_shareOf_18 rfl ?_
      refine V.iload C dX5_shareOf_19 rfl ?_
      refine V.iload_n C dX5_shareOf_21 rfl ?_
      refine V.iload C dX5_shareOf_22 rfl ?_
      refine V.callVi C (ct_X0_isCounted hT (by omega) hq (hce k hk)) gX5_shareOf_X0_isCounted (n := 3) ⟨rfl, by decide, by decide, by decide +kernel⟩ rfl (q0 := 4) rfl rfl rfl rfl ⟨Nat.le_of_ble_eq_true rfl, Nat.le_of_ble_eq_true rfl⟩ ⟨rfl, rfl, Nat.zero_le _, Nat.zero_le _⟩ (Nat.le_of_ble_eq_true rfl) dX5_shareOf_24 ?_
      refine V.if_eq C (tgt := 65) dX5_shareOf_27 (by decide) (fun c_2 => ?_) (fun c_2 => ?_)
      · refine V.iinc C (v := nI (k + 1)) dX5_shareOf_65 rfl (nI_inc k) (by decide) rfl ?_
        dsimp only [List.set]
        refine V.goto C (tgt := 9) dX5_shareOf_68 (by decide) ?_
        exact V.sub (M := [some (.ref (h 6)), some (.ref (h 4)), some (.int (nI q)), some (.int a), some (.int A), some (.int (jSumIf (jCounted σ q A) (σ 25) (k + 1))), some (.int (jSumIf (fun i => jCounted σ q A i && decide (jGiven σ i q = a)) (σ 25) (k + 1))), some (.int (nI (k + 1)))]) (lsub_s rfl (lsub_s rfl (lsub_s rfl (lsub_s rfl (lsub_s rfl (lsub_si (by (clear hQ C; (try simp only [bI_0] at *); first | (simp [jSumIf, bI_t2, bI_f2, *]; done) | (simp_all; done))) rfl (lsub_si (by (clear hQ C; (try simp only [bI_0] at *); first | (simp [jSumIf, bI_t2, bI_f2, *]; done) | (simp_all; done))) rfl (lsub_s rfl (lsub_e))))))))) ih_k
      · refine V.iload C dX5_shareOf_30 rfl ?_
        refine V.aload_n C dX5_shareOf_32 rfl ?_
        refine V.get C (q0 := 6) (k := 0) rfl rfl (by decide) iX5 (by decide +kernel) rfl rfl dX5_shareOf_33 ?_
        refine V.iload C dX5_shareOf_36 rfl ?_
        refine V.iald C (q0 := 25) (t0 := 0) rfl hT (rfl) (by omega) (by omega) dX5_shareOf_38 ?_
        refine V.iadd C dX5_shareOf_39 ?_
        refine V.istore C dX5_shareOf_40 (by decide) rfl ?_
        dsimp only [List.set]
        refine V.aload_n C dX5_shareOf_42 rfl ?_
        refine V.iload C dX5_shareOf_43 rfl ?_
        refine V.iload_n C dX5_shareOf_45 rfl ?_
        refine V.callVi C (ct_X0_answerTo hT (by omega) hq) gX5_shareOf_X0_answerTo (n := 2) ⟨rfl, by decide, by decide, by decide +kernel⟩ rfl (q0 := 4) rfl rfl rfl rfl ⟨Nat.le_of_ble_eq_true rfl, Nat.le_of_ble_eq_true rfl⟩ ⟨rfl, rfl, Nat.zero_le _, Nat.zero_le _⟩ (Nat.le_of_ble_eq_true rfl) dX5_shareOf_46 ?_
        refine V.iload_n C dX5_shareOf_49 rfl ?_
        refine V.icmp_ne C (tgt := 65) dX5_shareOf_50 (by decide) (fun c_3 => ?_) (fun c_3 => ?_)
        · refine V.iinc C (v := nI (k + 1)) dX5_shareOf_65 rfl (nI_inc k) (by decide) rfl ?_
          dsimp only [List.set]
          refine V.goto C (tgt := 9) dX5_shareOf_68 (by decide) ?_
          exact V.sub (M := [some (.ref (h 6)), some (.ref (h 4)), some (.int (nI q)), some (.int a), some (.int A), some (.int (jSumIf (jCounted σ q A) (σ 25) (k + 1))), some (.int (jSumIf (fun i => jCounted σ q A i && decide (jGiven σ i q = a)) (σ 25) (k + 1))), some (.int (nI (k + 1)))]) (lsub_s rfl (lsub_s rfl (lsub_s rfl (lsub_s rfl (lsub_s rfl (lsub_si (by (clear hQ C; (try simp only [bI_0] at *); first | (simp [jSumIf, bI_t2, bI_f2, *]; done) | (simp_all; done))) rfl (lsub_si (by (clear hQ C; (try simp only [bI_0] at *); first | (simp [jSumIf, bI_t2, bI_f2, *]; done) | (simp_all; done))) rfl (lsub_s rfl (lsub_e))))))))) ih_k
        · refine V.iload C dX5_shareOf_53 rfl ?_
          refine V.aload_n C dX5_shareOf_55 rfl ?_
          refine V.get C (q0 := 6) (k := 0) rfl rfl (by decide) iX5 (by decide +kernel) rfl rfl dX5_shareOf_56 ?_
          refine V.iload C dX5_shareOf_59 rfl ?_
          refine V.iald C (q0 := 25) (t0 := 0) rfl hT (rfl) (by omega) (by omega) dX5_shareOf_61 ?_
          refine V.iadd C dX5_shareOf_62 ?_
          refine V.istore C dX5_shareOf_63 (by decide) rfl ?_
          dsimp only [List.set]
          refine V.iinc C (v := nI (k + 1)) dX5_shareOf_65 rfl (nI_inc k) (by decide) rfl ?_
          dsimp only [List.set]
          refine V.goto C (tgt := 9) dX5_shareOf_68 (by decide) ?_
          exact V.sub (M := [some (.ref (h 6)), some (.ref (h 4)), some (.int (nI q)), some (.int a), some (.int A), some (.int (jSumIf (jCounted σ q A) (σ 25) (k + 1))), some (.int (jSumIf (fun i => jCounted σ q A i && decide (jGiven σ i q = a)) (σ 25) (k + 1))), some (.int (nI (k + 1)))]) (lsub_s rfl (lsub_s rfl (lsub_s rfl (lsub_s rfl (lsub_s rfl (lsub_si (by (clear hQ C; (try simp only [bI_0] at *); first | (simp [jSumIf, bI_t2, bI_f2, *]; done) | (simp_all; done))) rfl (lsub_si (by (clear hQ C; (try simp only [bI_0] at *); first | (simp [jSumIf, bI_t2, bI_f2, *]; done) | (simp_all; done))) rfl (lsub_s rfl (lsub_e))))))))) ih_k
  · try dsimp only
    refine V.iload C dX5_shareOf_9 rfl ?_
    refine V.aload_n C dX5_shareOf_11 rfl ?_
    refine V.callVi C (ct_X0_size) gX5_shareOf_X0_size (n := 0) ⟨rfl, by decide, by decide, by decide +kernel⟩ rfl (q0 := 4) rfl rfl rfl rfl ⟨Nat.le_of_ble_eq_true rfl, Nat.le_of_ble_eq_true rfl⟩ ⟨rfl, rfl, Nat.zero_le _, Nat.zero_le _⟩ (Nat.le_of_ble_eq_true rfl) dX5_shareOf_12 ?_
    refine V.topi (y := nI N) (hN) ?_
    refine V.icmp_ge C (tgt := 71) dX5_shareOf_15 (by decide) (fun c_4 => ?_) (fun c_4 => ?_)
    · refine V.iload C dX5_shareOf_71 rfl ?_
      refine V.if_le C (tgt := 87) dX5_shareOf_73 (by decide) (fun c_5 => ?_) (fun c_5 => ?_)
      · refine V.iconst C (v := (-1)) dX5_shareOf_87 (by decide) ?_
        refine hQ _ _ _ _ _ (Or.inr (Or.inl ⟨_, _, dX5_shareOf_88, rfl, rfl, rfl, rfl⟩)) ⟨?_, rfl⟩
        (clear hQ C; (try simp only [bI_0] at *); first | (simp [jShare, bI_t2, bI_f2, *]; done) | (simp_all; done))
      · refine V.bipush C (v := nI 100) dX5_shareOf_76 (by decide) ?_
        refine V.iload C dX5_shareOf_78 rfl ?_
        refine V.imul C dX5_shareOf_80 ?_
        refine V.iload C dX5_shareOf_81 rfl ?_
        refine V.idiv C dX5_shareOf_83 (ne_pos (by assumption)) ?_
        refine V.goto C (tgt := 88) dX5_shareOf_84 (by decide) ?_
        refine hQ _ _ _ _ _ (Or.inr (Or.inl ⟨_, _, dX5_shareOf_88, rfl, rfl, rfl, rfl⟩)) ⟨?_, rfl⟩
        (clear hQ C; (try simp only [bI_0] at *); first | (simp [jShare, bI_t2, bI_f2, *]; done) | (simp_all; done))
    · exfalso
      exact absurd c_4 (nI_nlt (Nat.le_refl _) (by omega))
