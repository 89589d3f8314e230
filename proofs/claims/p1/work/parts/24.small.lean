set_option maxRecDepth 100000 in
set_option maxHeartbeats 4000000 in
theorem ct_X6_aOf {l : Launch} {D : va_G} {tys : List (ClassId × FieldType)} {w : va_W} {c : Nat} (hc : c < 6) : Cd l D tys yX6_aOf wsX6_aOf ({ frames := 0, cells := 0, slots := 0, locals := 0 } : Room) (w) [.int (nI c)] (some (.int (nI (c / 2)))) (w) := by
  refine Ct.of [some (.int (nI c))] (by decide) rfl rfl (Nat.le_of_ble_eq_true rfl) rfl (fun κ C hQ => ?_)
  refine V.iload_n C dX6_aOf_0 rfl ?_
  refine V.iconst C (v := nI 2) dX6_aOf_1 (by decide) ?_
  refine V.idiv C dX6_aOf_2 (by decide) ?_
  refine hQ _ _ _ _ _ (Or.inr (Or.inl ⟨_, _, dX6_aOf_3, rfl, rfl, rfl, rfl⟩)) ⟨?_, rfl⟩
  rw [jAof c hc]
set_option maxRecDepth 100000 in
set_option maxHeartbeats 4000000 in
theorem ct_X6_bOf {l : Launch} {D : va_G} {tys : List (ClassId × FieldType)} {w : va_W} {c : Nat} (hc : c < 6) : Cd l D tys yX6_bOf wsX6_bOf ({ frames := 0, cells := 0, slots := 0, locals := 0 } : Room) (w) [.int (nI c)] (some (.int (nI (c % 2)))) (w) := by
  refine Ct.of [some (.int (nI c))] (by decide) rfl rfl (Nat.le_of_ble_eq_true rfl) rfl (fun κ C hQ => ?_)
  refine V.iload_n C dX6_bOf_0 rfl ?_
  refine V.iconst C (v := nI 2) dX6_bOf_1 (by decide) ?_
  refine V.irem C dX6_bOf_2 (by decide) ?_
  refine hQ _ _ _ _ _ (Or.inr (Or.inl ⟨_, _, dX6_bOf_3, rfl, rfl, rfl, rfl⟩)) ⟨?_, rfl⟩
  rw [jBof c hc]
set_option maxRecDepth 100000 in
set_option maxHeartbeats 4000000 in
theorem ct_X6_isA {l : Launch} {D : va_G} {tys : List (ClassId × FieldType)} {w : va_W} {a : Int32} : Cd l D tys yX6_isA wsX6_isA ({ frames := 0, cells := 0, slots := 0, locals := 0 } : Room) (w) [.int a] (some (.int (bI (!decide (a < 0) && decide (a < nI 3))))) (w) := by
  refine Ct.of [some (.int a)] (by decide) rfl rfl (Nat.le_of_ble_eq_true rfl) rfl (fun κ C hQ => ?_)
  refine V.iload_n C dX6_isA_0 rfl ?_
  refine V.if_lt C (tgt := 13) dX6_isA_1 (by decide) (fun c_1 => ?_) (fun c_1 => ?_)
  · refine V.iconst C (v := nI 0) dX6_isA_13 (by decide) ?_
    refine hQ _ _ _ _ _ (Or.inr (Or.inl ⟨_, _, dX6_isA_14, rfl, (by first | rfl | exact nar_bI _), rfl, rfl⟩)) ⟨?_, rfl⟩
    (clear hQ C; (try simp only [bI_0] at *); first | (simp [bI_t2, bI_f2, *]; done) | (simp_all; done))
  · refine V.iload_n C dX6_isA_4 rfl ?_
    refine V.iconst C (v := nI 3) dX6_isA_5 (by decide) ?_
    refine V.icmp_ge C (tgt := 13) dX6_isA_6 (by decide) (fun c_2 => ?_) (fun c_2 => ?_)
    · refine V.iconst C (v := nI 0) dX6_isA_13 (by decide) ?_
      refine hQ _ _ _ _ _ (Or.inr (Or.inl ⟨_, _, dX6_isA_14, rfl, (by first | rfl | exact nar_bI _), rfl, rfl⟩)) ⟨?_, rfl⟩
      (clear hQ C; (try simp only [bI_0] at *); first | (simp [bI_t2, bI_f2, *]; done) | (simp_all; done))
    · refine V.iconst C (v := nI 1) dX6_isA_9 (by decide) ?_
      refine V.goto C (tgt := 14) dX6_isA_10 (by decide) ?_
      refine hQ _ _ _ _ _ (Or.inr (Or.inl ⟨_, _, dX6_isA_14, rfl, (by first | rfl | exact nar_bI _), rfl, rfl⟩)) ⟨?_, rfl⟩
      (clear hQ C; (try simp only [bI_0] at *); first | (simp [bI_t2, bI_f2, *]; done) | (simp_all; done))
set_option maxRecDepth 100000 in
set_option maxHeartbeats 4000000 in
theorem ct_X6_isB {l : Launch} {D : va_G} {tys : List (ClassId × FieldType)} {w : va_W} {a : Int32} : Cd l D tys yX6_isB wsX6_isB ({ frames := 0, cells := 0, slots := 0, locals := 0 } : Room) (w) [.int a] (some (.int (bI (!decide (a < 0) && decide (a < nI 2))))) (w) := by
  refine Ct.of [some (.int a)] (by decide) rfl rfl (Nat.le_of_ble_eq_true rfl) rfl (fun κ C hQ => ?_)
  refine V.iload_n C dX6_isB_0 rfl ?_
  refine V.if_lt C (tgt := 13) dX6_isB_1 (by decide) (fun c_1 => ?_) (fun c_1 => ?_)
  · refine V.iconst C (v := nI 0) dX6_isB_13 (by decide) ?_
    refine hQ _ _ _ _ _ (Or.inr (Or.inl ⟨_, _, dX6_isB_14, rfl, (by first | rfl | exact nar_bI _), rfl, rfl⟩)) ⟨?_, rfl⟩
    (clear hQ C; (try simp only [bI_0] at *); first | (simp [bI_t2, bI_f2, *]; done) | (simp_all; done))
  · refine V.iload_n C dX6_isB_4 rfl ?_
    refine V.iconst C (v := nI 2) dX6_isB_5 (by decide) ?_
    refine V.icmp_ge C (tgt := 13) dX6_isB_6 (by decide) (fun c_2 => ?_) (fun c_2 => ?_)
    · refine V.iconst C (v := nI 0) dX6_isB_13 (by decide) ?_
      refine hQ _ _ _ _ _ (Or.inr (Or.inl ⟨_, _, dX6_isB_14, rfl, (by first | rfl | exact nar_bI _), rfl, rfl⟩)) ⟨?_, rfl⟩
      (clear hQ C; (try simp only [bI_0] at *); first | (simp [bI_t2, bI_f2, *]; done) | (simp_all; done))
    · refine V.iconst C (v := nI 1) dX6_isB_9 (by decide) ?_
      refine V.goto C (tgt := 14) dX6_isB_10 (by decide) ?_
      refine hQ _ _ _ _ _ (Or.inr (Or.inl ⟨_, _, dX6_isB_14, rfl, (by first | rfl | exact nar_bI _), rfl, rfl⟩)) ⟨?_, rfl⟩
      (clear hQ C; (try simp only [bI_0] at *); first | (simp [bI_t2, bI_f2, *]; done) | (simp_all; done))
set_option maxRecDepth 100000 in
set_option maxHeartbeats 4000000 in
theorem ct_X6_cellAt {l : Launch} {D : va_G} {tys : List (ClassId × FieldType)} {w : va_W} {a b : Nat} : Cd l D tys yX6_cellAt wsX6_cellAt ({ frames := 0, cells := 0, slots := 0, locals := 0 } : Room) (w) [.int (nI a), .int (nI b)] (some (.int (nI (a * 2 + b)))) (w) := by
  refine Ct.of [some (.int (nI a)), some (.int (nI b))] (by decide) rfl rfl (Nat.le_of_ble_eq_true rfl) rfl (fun κ C hQ => ?_)
  refine V.iload_n C dX6_cellAt_0 rfl ?_
  refine V.iconst C (v := nI 2) dX6_cellAt_1 (by decide) ?_
  refine V.imul C dX6_cellAt_2 ?_
  refine V.iload_n C dX6_cellAt_3 rfl ?_
  refine V.iadd C dX6_cellAt_4 ?_
  refine hQ _ _ _ _ _ (Or.inr (Or.inl ⟨_, _, dX6_cellAt_5, rfl, rfl, rfl, rfl⟩)) ⟨?_, rfl⟩
  rw [nI_mul, nI_add]
set_option maxRecDepth 100000 in
set_option maxHeartbeats 4000000 in
theorem ct_X6_isIn {l : Launch} {D : va_G} {tys : List (ClassId × FieldType)} {w : va_W} {c g : Nat} (hc : c < 6) (hg : g < 5) : Cd l D tys yX6_isIn wsX6_isIn ({ frames := 1, cells := 0, slots := 0, locals := 20 } : Room) (w) [.int (nI c), .int (nI g)] (some (.int (bI (jIsIn c g)))) (w) := by
  refine Ct.of [some (.int (nI c)), some (.int (nI g))] (by decide) rfl rfl (Nat.le_of_ble_eq_true rfl) rfl (fun κ C hQ => ?_)
  refine V.iload_n C dX6_isIn_0 rfl ?_
  refine V.iconst C (v := nI 3) dX6_isIn_1 (by decide) ?_
  refine V.icmp_ge C (tgt := 21) dX6_isIn_2 (by decide) (fun c_1 => ?_) (fun c_1 => ?_)
  · refine V.iload_n C dX6_isIn_21 rfl ?_
    refine V.callSi C (ct_X6_bOf hc) gX6_isIn_X6_bOf (n := 1) ⟨rfl, by decide, by decide, by decide +kernel⟩ rfl rfl rfl ⟨Nat.le_of_ble_eq_true rfl, Nat.le_of_ble_eq_true rfl⟩ ⟨rfl, rfl, Nat.zero_le _, Nat.zero_le _⟩ (Nat.le_of_ble_eq_true rfl) dX6_isIn_22 ?_
    refine V.iload_n C dX6_isIn_25 rfl ?_
    refine V.iconst C (v := nI 3) dX6_isIn_26 (by decide) ?_
    refine V.isub C dX6_isIn_27 ?_
    refine V.topi (y := nI (g - 3)) (nI_sub (by have := c_1; rw [nI_ltI (by omega) (by omega)] at this; omega)) ?_
    refine V.icmp_ne C (tgt := 35) dX6_isIn_28 (by decide) (fun c_2 => ?_) (fun c_2 => ?_)
    · refine V.iconst C (v := nI 0) dX6_isIn_35 (by decide) ?_
      refine hQ _ _ _ _ _ (Or.inr (Or.inl ⟨_, _, dX6_isIn_36, rfl, (by first | rfl | exact nar_bI _), rfl, rfl⟩)) ⟨?_, rfl⟩
      (have := (show ∀ c, c < 6 → ∀ g, g < 5 → ((nI g < nI 3) ↔ g < 3) ∧ ((nI (c / 2) = nI g) ↔ c / 2 = g) ∧ ((nI (c % 2) = nI (g - 3)) ↔ c % 2 = g - 3) by decide +kernel) c hc g hg; simp only [this.1, this.2.1, this.2.2] at *; (clear hQ C; (try simp only [bI_0] at *); first | (simp [jIsIn, bI_t2, bI_f2, *]; done) | (simp_all; done)))
    · refine V.iconst C (v := nI 1) dX6_isIn_31 (by decide) ?_
      refine V.goto C (tgt := 36) dX6_isIn_32 (by decide) ?_
      refine hQ _ _ _ _ _ (Or.inr (Or.inl ⟨_, _, dX6_isIn_36, rfl, (by first | rfl | exact nar_bI _), rfl, rfl⟩)) ⟨?_, rfl⟩
      (have := (show ∀ c, c < 6 → ∀ g, g < 5 → ((nI g < nI 3) ↔ g < 3) ∧ ((nI (c / 2) = nI g) ↔ c / 2 = g) ∧ ((nI (c % 2) = nI (g - 3)) ↔ c % 2 = g - 3) by decide +kernel) c hc g hg; simp only [this.1, this.2.1, this.2.2] at *; (clear hQ C; (try simp only [bI_0] at *); first | (simp [jIsIn, bI_t2, bI_f2, *]; done) | (simp_all; done)))
  · refine V.iload_n C dX6_isIn_5 rfl ?_
    refine V.callSi C (ct_X6_aOf hc) gX6_isIn_X6_aOf (n := 1) ⟨rfl, by decide, by decide, by decide +kernel⟩ rfl rfl rfl ⟨Nat.le_of_ble_eq_true rfl, Nat.le_of_ble_eq_true rfl⟩ ⟨rfl, rfl, Nat.zero_le _, Nat.zero_le _⟩ (Nat.le_of_ble_eq_true rfl) dX6_isIn_6 ?_
    refine V.iload_n C dX6_isIn_9 rfl ?_
    refine V.icmp_ne C (tgt := 17) dX6_isIn_10 (by decide) (fun c_3 => ?_) (fun c_3 => ?_)
    · refine V.iconst C (v := nI 0) dX6_isIn_17 (by decide) ?_
      refine V.goto C (tgt := 36) dX6_isIn_18 (by decide) ?_
      refine hQ _ _ _ _ _ (Or.inr (Or.inl ⟨_, _, dX6_isIn_36, rfl, (by first | rfl | exact nar_bI _), rfl, rfl⟩)) ⟨?_, rfl⟩
      (have := (show ∀ c, c < 6 → ∀ g, g < 5 → ((nI g < nI 3) ↔ g < 3) ∧ ((nI (c / 2) = nI g) ↔ c / 2 = g) ∧ ((nI (c % 2) = nI (g - 3)) ↔ c % 2 = g - 3) by decide +kernel) c hc g hg; simp only [this.1, this.2.1, this.2.2] at *; (clear hQ C; (try simp only [bI_0] at *); first | (simp [jIsIn, bI_t2, bI_f2, *]; done) | (simp_all; done)))
    · refine V.iconst C (v := nI 1) dX6_isIn_13 (by decide) ?_
      refine V.goto C (tgt := 36) dX6_isIn_14 (by decide) ?_
      refine hQ _ _ _ _ _ (Or.inr (Or.inl ⟨_, _, dX6_isIn_36, rfl, (by first | rfl | exact nar_bI _), rfl, rfl⟩)) ⟨?_, rfl⟩
      (have := (show ∀ c, c < 6 → ∀ g, g < 5 → ((nI g < nI 3) ↔ g < 3) ∧ ((nI (c / 2) = nI g) ↔ c / 2 = g) ∧ ((nI (c % 2) = nI (g - 3)) ↔ c % 2 = g - 3) by decide +kernel) c hc g hg; simp only [this.1, this.2.1, this.2.2] at *; (clear hQ C; (try simp only [bI_0] at *); first | (simp [jIsIn, bI_t2, bI_f2, *]; done) | (simp_all; done)))
set_option maxRecDepth 100000 in
set_option maxHeartbeats 4000000 in
theorem ct_X3_marginOf {l : Launch} {D : va_G} {tys : List (ClassId × FieldType)} {cI : ClassId} {h : Nat → Nat} {σ : Nat → Nat → Int32} (hT : tys[0]? = some (cI, .int)) {g : Nat} (hg : g < 5) : Cd l D tys yX3_marginOf wsX3_marginOf ({ frames := 2, cells := 0, slots := 0, locals := 41 } : Room) (SW cI h σ) [.ref (h 2), .int (nI g)] (some (.int (jMargin σ g))) (SW cI h σ) := by
  refine Ct.of [some (.ref (h 2)), some (.int (nI g)), none, none] (by decide) rfl rfl (Nat.le_of_ble_eq_true rfl) rfl (fun κ C hQ => ?_)
  have iX3 : ∀ z ∈ u_ws RX3 TX3 3, z ∈ wsX3_marginOf := by decide +kernel
  refine V.iconst C (v := nI 0) dX3_marginOf_0 (by decide) ?_
  refine V.istore_n C dX3_marginOf_1 (by decide) rfl ?_
  dsimp only [List.set, Fin.val]
  refine V.iconst C (v := nI 0) dX3_marginOf_2 (by decide) ?_
  refine V.istore_n C dX3_marginOf_3 (by decide) rfl ?_
  dsimp only [List.set, Fin.val]
  refine V.loop (6) (fun k => SW cI h σ) (fun k => [some (.ref (h 2)), some (.int (nI g)), some (.int (jSumIf (fun c => jIsIn c g) (σ 11) k)), some (.int (nI k))]) (fun k hk ih_k => ?_) ?_ (rfl) (lsub_s rfl (lsub_s rfl (lsub_s rfl (lsub_s rfl (lsub_e)))))
  · try dsimp only
    refine V.iload_n C dX3_marginOf_4 rfl ?_
    refine V.bipush C (v := nI 6) dX3_marginOf_5 (by decide) ?_
    refine V.icmp_ge C (tgt := 33) dX3_marginOf_7 (by decide) (fun c_1 => ?_) (fun c_1 => ?_)
    · exfalso
      exact c_1 (nI_lt hk (by decide))
    · refine V.iload_n C dX3_marginOf_10 rfl ?_
      refine V.iload_n C dX3_marginOf_11 rfl ?_
      refine V.callSNi C (ct_X6_isIn hk hg) gX3_marginOf_X6_isIn_n34 (fun _ q => q.2.1) (by decide +kernel) (by decide +kernel) (n := 2) ⟨by decide, by decide, by decide +kernel⟩ rfl rfl rfl ⟨Nat.le_of_ble_eq_true rfl, Nat.le_of_ble_eq_true rfl⟩ ⟨rfl, rfl, Nat.zero_le _, Nat.zero_le _⟩ (Nat.le_of_ble_eq_true rfl) dX3_marginOf_12 ?_
      refine V.if_eq C (tgt := 27) dX3_marginOf_15 (by decide) (fun c_2 => ?_) (fun c_2 => ?_)
      · refine V.iinc C (v := nI (k + 1)) dX3_marginOf_27 rfl (nI_inc k) (by decide) rfl ?_
        dsimp only [List.set]
        refine V.goto C (tgt := 4) dX3_marginOf_30 (by decide) ?_
        exact V.sub (M := [some (.ref (h 2)), some (.int (nI g)), some (.int (jSumIf (fun c => jIsIn c g) (σ 11) (k + 1))), some (.int (nI (k + 1)))]) (lsub_s rfl (lsub_s rfl (lsub_si (by (clear hQ C; (try simp only [bI_0] at *); first | (simp [jSumIf, bI_t2, bI_f2, *]; done) | (simp_all; done))) rfl (lsub_s rfl (lsub_e))))) ih_k
      · refine V.iload_n C dX3_marginOf_18 rfl ?_
        refine V.aload_n C dX3_marginOf_19 rfl ?_
        refine V.get C (q0 := 2) (k := 1) rfl rfl (by decide) iX3 (by decide +kernel) rfl rfl dX3_marginOf_20 ?_
        refine V.iload_n C dX3_marginOf_23 rfl ?_
        refine V.iald C (q0 := 11) (t0 := 0) rfl hT (rfl) (by omega) (by omega) dX3_marginOf_24 ?_
        refine V.iadd C dX3_marginOf_25 ?_
        refine V.istore_n C dX3_marginOf_26 (by decide) rfl ?_
        dsimp only [List.set, Fin.val]
        refine V.iinc C (v := nI (k + 1)) dX3_marginOf_27 rfl (nI_inc k) (by decide) rfl ?_
        dsimp only [List.set]
        refine V.goto C (tgt := 4) dX3_marginOf_30 (by decide) ?_
        exact V.sub (M := [some (.ref (h 2)), some (.int (nI g)), some (.int (jSumIf (fun c => jIsIn c g) (σ 11) (k + 1))), some (.int (nI (k + 1)))]) (lsub_s rfl (lsub_s rfl (lsub_si (by (clear hQ C; (try simp only [bI_0] at *); first | (simp [jSumIf, bI_t2, bI_f2, *]; done) | (simp_all; done))) rfl (lsub_s rfl (lsub_e))))) ih_k
  · try dsimp only
    refine V.iload_n C dX3_marginOf_4 rfl ?_
    refine V.bipush C (v := nI 6) dX3_marginOf_5 (by decide) ?_
    refine V.icmp_ge C (tgt := 33) dX3_marginOf_7 (by decide) (fun c_3 => ?_) (fun c_3 => ?_)
    · refine V.sipush C (v := nI 1000) dX3_marginOf_33 (by decide) ?_
      refine V.iload_n C dX3_marginOf_36 rfl ?_
      refine V.imul C dX3_marginOf_37 ?_
      refine hQ _ _ _ _ _ (Or.inr (Or.inl ⟨_, _, dX3_marginOf_38, rfl, rfl, rfl, rfl⟩)) ⟨?_, rfl⟩
      rfl
    · exfalso
      exact absurd c_3 (nI_nlt (Nat.le_refl _) (by decide))
