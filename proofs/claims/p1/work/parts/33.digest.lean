set_option maxRecDepth 100000 in
set_option maxHeartbeats 4000000 in
theorem ct_X6_digestCells {l : Launch} {D : va_G} {tys : List (ClassId × FieldType)} {cI : ClassId} {h : Nat → Nat} {σ : Nat → Nat → Int32} (hT : tys[0]? = some (cI, .int)) {d : Int64} {N : Nat} (hN : σ 4 0 = nI N) (hN40 : N ≤ 40) {P : Nat} (hP : σ 3 0 = nI P) (hP24 : P ≤ 24) (hpc : ∀ p, p < P → Nn (σ 13 p) 6) : Cd l D tys yX6_digestCells wsX6_digestCells ({ frames := 6, cells := 0, slots := 0, locals := 139 } : Room) (SW cI h σ) [.ref (h 0), .long d] (some (.long (jDgCells σ P d))) (SW cI h σ) := by
  refine Ct.of [some (.ref (h 0)), some (.long d), none, none, none, none, none, none] (by decide) rfl rfl (Nat.le_of_ble_eq_true rfl) rfl (fun κ C hQ => ?_)
  refine V.lload_n C dX6_digestCells_0 rfl ?_
  refine V.lstore_n C dX6_digestCells_1 (by decide) rfl ?_
  dsimp only [List.set, Fin.val]
  refine V.iconst C (v := nI 0) dX6_digestCells_2 (by decide) ?_
  refine V.istore C dX6_digestCells_3 (by decide) rfl ?_
  dsimp only [List.set]
  refine V.loop (3) (fun a => SW cI h σ) (fun a => [some (.ref (h 0)), some (.long d), none, some (.long (jDgI (fun a d => jDgI (fun b d => jDg (fun k => jOfCell σ P (a * 2 + b) k) d 5) d 2) d a)), none, some (.int (nI a)), none, none]) (fun a ha ih_a => ?_) ?_ (rfl) (lsub_s rfl (lsub_s rfl (lsub_n (lsub_sl (jDgI_0 _ _) rfl (lsub_n (lsub_s rfl (lsub_n (lsub_n (lsub_e)))))))))
  · try dsimp only
    refine V.iload C dX6_digestCells_5 rfl ?_
    refine V.iconst C (v := nI 3) dX6_digestCells_7 (by decide) ?_
    refine V.icmp_ge C (tgt := 65) dX6_digestCells_8 (by decide) (fun c_1 => ?_) (fun c_1 => ?_)
    · exfalso
      exact c_1 (nI_lt ha (by decide))
    · refine V.iconst C (v := nI 0) dX6_digestCells_11 (by decide) ?_
      refine V.istore C dX6_digestCells_12 (by decide) rfl ?_
      dsimp only [List.set]
      refine V.loop (2) (fun b => SW cI h σ) (fun b => [some (.ref (h 0)), some (.long d), none, some (.long (jDgI (fun b d => jDg (fun k => jOfCell σ P (a * 2 + b) k) d 5) (jDgI (fun a d => jDgI (fun b d => jDg (fun k => jOfCell σ P (a * 2 + b) k) d 5) d 2) d a) b)), none, some (.int (nI a)), some (.int (nI b)), none]) (fun b hb ih_b => ?_) ?_ (rfl) (lsub_s rfl (lsub_s rfl (lsub_n (lsub_sl (jDgI_0 _ _) rfl (lsub_n (lsub_s rfl (lsub_s rfl (lsub_n (lsub_e)))))))))
      · try dsimp only
        refine V.iload C dX6_digestCells_14 rfl ?_
        refine V.iconst C (v := nI 2) dX6_digestCells_16 (by decide) ?_
        refine V.icmp_ge C (tgt := 59) dX6_digestCells_17 (by decide) (fun c_2 => ?_) (fun c_2 => ?_)
        · exfalso
          exact c_2 (nI_lt hb (by decide))
        · refine V.iconst C (v := nI 0) dX6_digestCells_20 (by decide) ?_
          refine V.istore C dX6_digestCells_21 (by decide) rfl ?_
          dsimp only [List.set]
          refine V.loop (5) (fun k => SW cI h σ) (fun k => [some (.ref (h 0)), some (.long d), none, some (.long (jDg (fun k => jOfCell σ P (a * 2 + b) k) (jDgI (fun b d => jDg (fun k => jOfCell σ P (a * 2 + b) k) d 5) (jDgI (fun a d => jDgI (fun b d => jDg (fun k => jOfCell σ P (a * 2 + b) k) d 5) d 2) d a) b) k)), none, some (.int (nI a)), some (.int (nI b)), some (.int (nI k))]) (fun k hk ih_k => ?_) ?_ (rfl) (lsub_s rfl (lsub_s rfl (lsub_n (lsub_sl (jDg_0 _ _) rfl (lsub_n (lsub_s rfl (lsub_s rfl (lsub_s rfl (lsub_e)))))))))
          · try dsimp only
            refine V.iload C dX6_digestCells_23 rfl ?_
            refine V.iconst C (v := nI 4) dX6_digestCells_25 (by decide) ?_
            refine V.icmp_gt C (tgt := 53) dX6_digestCells_26 (by decide) (fun c_3 => ?_) (fun c_3 => ?_)
            · exfalso
              exact absurd c_3 (nI_nlt (show k ≤ 4 by omega) (by decide))
            · refine V.lload_n C dX6_digestCells_29 rfl ?_
              refine V.ldc2_w C (v := 31) (by decide +kernel) dX6_digestCells_30 ?_
              refine V.lmul C dX6_digestCells_33 ?_
              refine V.aload_n C dX6_digestCells_34 rfl ?_
              refine V.iload C dX6_digestCells_35 rfl ?_
              refine V.iload C dX6_digestCells_37 rfl ?_
              refine V.iload C dX6_digestCells_39 rfl ?_
              refine V.callVi C (ct_X6_ofCell (a := a) (b := b) (k := k) hT hN hN40 hP hP24 hpc (by omega) (by omega) (by omega)) gX6_digestCells_X6_ofCell (n := 3) ⟨rfl, by decide, by decide, by decide +kernel⟩ rfl (q0 := 0) rfl rfl rfl rfl ⟨Nat.le_of_ble_eq_true rfl, Nat.le_of_ble_eq_true rfl⟩ ⟨rfl, rfl, Nat.zero_le _, Nat.zero_le _⟩ (Nat.le_of_ble_eq_true rfl) dX6_digestCells_41 ?_
              refine V.i2l C dX6_digestCells_44 ?_
              refine V.ladd C dX6_digestCells_45 ?_
              refine V.lstore_n C dX6_digestCells_46 (by decide) rfl ?_
              dsimp only [List.set, Fin.val]
              refine V.iinc C (v := nI (k + 1)) dX6_digestCells_47 rfl (nI_inc k) (by decide) rfl ?_
              dsimp only [List.set]
              refine V.goto C (tgt := 23) dX6_digestCells_50 (by decide) ?_
              exact V.sub (M := [some (.ref (h 0)), some (.long d), none, some (.long (jDg (fun k => jOfCell σ P (a * 2 + b) k) (jDgI (fun b d => jDg (fun k => jOfCell σ P (a * 2 + b) k) d 5) (jDgI (fun a d => jDgI (fun b d => jDg (fun k => jOfCell σ P (a * 2 + b) k) d 5) d 2) d a) b) (k + 1))), none, some (.int (nI a)), some (.int (nI b)), some (.int (nI (k + 1)))]) (lsub_s rfl (lsub_s rfl (lsub_n (lsub_sl (jDg_s _ _ _) rfl (lsub_n (lsub_s rfl (lsub_s rfl (lsub_s rfl (lsub_e))))))))) ih_k
          · try dsimp only
            refine V.iload C dX6_digestCells_23 rfl ?_
            refine V.iconst C (v := nI 4) dX6_digestCells_25 (by decide) ?_
            refine V.icmp_gt C (tgt := 53) dX6_digestCells_26 (by decide) (fun c_4 => ?_) (fun c_4 => ?_)
            · refine V.iinc C (v := nI (b + 1)) dX6_digestCells_53 rfl (nI_inc b) (by decide) rfl ?_
              dsimp only [List.set]
              refine V.goto C (tgt := 14) dX6_digestCells_56 (by decide) ?_
              exact V.sub (M := [some (.ref (h 0)), some (.long d), none, some (.long (jDgI (fun b d => jDg (fun k => jOfCell σ P (a * 2 + b) k) d 5) (jDgI (fun a d => jDgI (fun b d => jDg (fun k => jOfCell σ P (a * 2 + b) k) d 5) d 2) d a) (b + 1))), none, some (.int (nI a)), some (.int (nI (b + 1))), none]) (lsub_s rfl (lsub_s rfl (lsub_n (lsub_sl (jDgI_s _ _ _) rfl (lsub_n (lsub_s rfl (lsub_s rfl (lsub_n (lsub_e))))))))) ih_b
            · exfalso
              exact c_4 (nI_lt (show 4 < 5 by omega) (by decide))
      · try dsimp only
        refine V.iload C dX6_digestCells_14 rfl ?_
        refine V.iconst C (v := nI 2) dX6_digestCells_16 (by decide) ?_
        refine V.icmp_ge C (tgt := 59) dX6_digestCells_17 (by decide) (fun c_5 => ?_) (fun c_5 => ?_)
        · refine V.iinc C (v := nI (a + 1)) dX6_digestCells_59 rfl (nI_inc a) (by decide) rfl ?_
          dsimp only [List.set]
          refine V.goto C (tgt := 5) dX6_digestCells_62 (by decide) ?_
          exact V.sub (M := [some (.ref (h 0)), some (.long d), none, some (.long (jDgI (fun a d => jDgI (fun b d => jDg (fun k => jOfCell σ P (a * 2 + b) k) d 5) d 2) d (a + 1))), none, some (.int (nI (a + 1))), none, none]) (lsub_s rfl (lsub_s rfl (lsub_n (lsub_sl (jDgI_s _ _ _) rfl (lsub_n (lsub_s rfl (lsub_n (lsub_n (lsub_e))))))))) ih_a
        · exfalso
          exact absurd c_5 (nI_nlt (Nat.le_refl _) (by decide))
  · try dsimp only
    refine V.iload C dX6_digestCells_5 rfl ?_
    refine V.iconst C (v := nI 3) dX6_digestCells_7 (by decide) ?_
    refine V.icmp_ge C (tgt := 65) dX6_digestCells_8 (by decide) (fun c_6 => ?_) (fun c_6 => ?_)
    · refine V.lload_n C dX6_digestCells_65 rfl ?_
      refine hQ _ _ _ _ _ (Or.inr (Or.inr ⟨_, dX6_digestCells_66, rfl, rfl, rfl⟩)) ⟨?_, rfl⟩
      rfl
    · exfalso
      exact absurd c_6 (nI_nlt (Nat.le_refl _) (by decide))
set_option maxRecDepth 100000 in
set_option maxHeartbeats 4000000 in
theorem ct_X6_digestPeople {l : Launch} {D : va_G} {tys : List (ClassId × FieldType)} {cI : ClassId} {h : Nat → Nat} {σ : Nat → Nat → Int32} (hT : tys[0]? = some (cI, .int)) {d : Int64} {N : Nat} (hN : σ 4 0 = nI N) (hN40 : N ≤ 40) {P : Nat} (hP : σ 3 0 = nI P) (hP24 : P ≤ 24) (hpc : ∀ p, p < P → Nn (σ 13 p) 6) : Cd l D tys yX6_digestPeople wsX6_digestPeople ({ frames := 5, cells := 0, slots := 0, locals := 114 } : Room) (SW cI h σ) [.ref (h 0), .long d] (some (.long (jDgPeople σ P d))) (SW cI h σ) := by
  refine Ct.of [some (.ref (h 0)), some (.long d), none, none, none, none, none] (by decide) rfl rfl (Nat.le_of_ble_eq_true rfl) rfl (fun κ C hQ => ?_)
  have iX6 : ∀ z ∈ u_ws RX6 TX6 8, z ∈ wsX6_digestPeople := by decide +kernel
  refine V.lload_n C dX6_digestPeople_0 rfl ?_
  refine V.lstore_n C dX6_digestPeople_1 (by decide) rfl ?_
  dsimp only [List.set, Fin.val]
  refine V.iconst C (v := nI 0) dX6_digestPeople_2 (by decide) ?_
  refine V.istore C dX6_digestPeople_3 (by decide) rfl ?_
  dsimp only [List.set]
  refine V.loop (P) (fun a => SW cI h σ) (fun a => [some (.ref (h 0)), some (.long d), none, some (.long (jDgI (fun p d => jDg (fun k => jOfPerson σ p k) d 6) d a)), none, some (.int (nI a)), none]) (fun a ha ih_a => ?_) ?_ (rfl) (lsub_s rfl (lsub_s rfl (lsub_n (lsub_sl (jDgI_0 _ _) rfl (lsub_n (lsub_s rfl (lsub_n (lsub_e))))))))
  · try dsimp only
    refine V.iload C dX6_digestPeople_5 rfl ?_
    refine V.aload_n C dX6_digestPeople_7 rfl ?_
    refine V.get C (q0 := 0) (k := 2) rfl rfl (by decide) iX6 (by decide +kernel) rfl rfl dX6_digestPeople_8 ?_
    refine V.callVi C (ct_X1_size) gX6_digestPeople_X1_size (n := 0) ⟨rfl, by decide, by decide, by decide +kernel⟩ rfl (q0 := 3) rfl rfl rfl rfl ⟨Nat.le_of_ble_eq_true rfl, Nat.le_of_ble_eq_true rfl⟩ ⟨rfl, rfl, Nat.zero_le _, Nat.zero_le _⟩ (Nat.le_of_ble_eq_true rfl) dX6_digestPeople_11 ?_
    refine V.topi (y := nI P) (hP) ?_
    refine V.icmp_ge C (tgt := 54) dX6_digestPeople_14 (by decide) (fun c_1 => ?_) (fun c_1 => ?_)
    · exfalso
      exact c_1 (nI_lt ha (by omega))
    · refine V.iconst C (v := nI 0) dX6_digestPeople_17 (by decide) ?_
      refine V.istore C dX6_digestPeople_18 (by decide) rfl ?_
      dsimp only [List.set]
      refine V.loop (6) (fun k => SW cI h σ) (fun k => [some (.ref (h 0)), some (.long d), none, some (.long (jDg (fun k => jOfPerson σ a k) (jDgI (fun p d => jDg (fun k => jOfPerson σ p k) d 6) d a) k)), none, some (.int (nI a)), some (.int (nI k))]) (fun k hk ih_k => ?_) ?_ (rfl) (lsub_s rfl (lsub_s rfl (lsub_n (lsub_sl (jDg_0 _ _) rfl (lsub_n (lsub_s rfl (lsub_s rfl (lsub_e))))))))
      · try dsimp only
        refine V.iload C dX6_digestPeople_20 rfl ?_
        refine V.iconst C (v := nI 5) dX6_digestPeople_22 (by decide) ?_
        refine V.icmp_gt C (tgt := 48) dX6_digestPeople_23 (by decide) (fun c_2 => ?_) (fun c_2 => ?_)
        · exfalso
          exact absurd c_2 (nI_nlt (show k ≤ 5 by omega) (by decide))
        · refine V.lload_n C dX6_digestPeople_26 rfl ?_
          refine V.ldc2_w C (v := 31) (by decide +kernel) dX6_digestPeople_27 ?_
          refine V.lmul C dX6_digestPeople_30 ?_
          refine V.aload_n C dX6_digestPeople_31 rfl ?_
          refine V.iload C dX6_digestPeople_32 rfl ?_
          refine V.iload C dX6_digestPeople_34 rfl ?_
          refine V.callVi C (ct_X6_ofPerson (j := a) (k := k) hT hN hN40 hP hP24 hpc (by omega) (by omega)) gX6_digestPeople_X6_ofPerson (n := 2) ⟨rfl, by decide, by decide, by decide +kernel⟩ rfl (q0 := 0) rfl rfl rfl rfl ⟨Nat.le_of_ble_eq_true rfl, Nat.le_of_ble_eq_true rfl⟩ ⟨rfl, rfl, Nat.zero_le _, Nat.zero_le _⟩ (Nat.le_of_ble_eq_true rfl) dX6_digestPeople_36 ?_
          refine V.i2l C dX6_digestPeople_39 ?_
          refine V.ladd C dX6_digestPeople_40 ?_
          refine V.lstore_n C dX6_digestPeople_41 (by decide) rfl ?_
          dsimp only [List.set, Fin.val]
          refine V.iinc C (v := nI (k + 1)) dX6_digestPeople_42 rfl (nI_inc k) (by decide) rfl ?_
          dsimp only [List.set]
          refine V.goto C (tgt := 20) dX6_digestPeople_45 (by decide) ?_
          exact V.sub (M := [some (.ref (h 0)), some (.long d), none, some (.long (jDg (fun k => jOfPerson σ a k) (jDgI (fun p d => jDg (fun k => jOfPerson σ p k) d 6) d a) (k + 1))), none, some (.int (nI a)), some (.int (nI (k + 1)))]) (lsub_s rfl (lsub_s rfl (lsub_n (lsub_sl (jDg_s _ _ _) rfl (lsub_n (lsub_s rfl (lsub_s rfl (lsub_e)))))))) ih_k
      · try dsimp only
        refine V.iload C dX6_digestPeople_20 rfl ?_
        refine V.iconst C (v := nI 5) dX6_digestPeople_22 (by decide) ?_
        refine V.icmp_gt C (tgt := 48) dX6_digestPeople_23 (by decide) (fun c_3 => ?_) (fun c_3 => ?_)
        · refine V.iinc C (v := nI (a + 1)) dX6_digestPeople_48 rfl (nI_inc a) (by decide) rfl ?_
          dsimp only [List.set]
          refine V.goto C (tgt := 5) dX6_digestPeople_51 (by decide) ?_
          exact V.sub (M := [some (.ref (h 0)), some (.long d), none, some (.long (jDgI (fun p d => jDg (fun k => jOfPerson σ p k) d 6) d (a + 1))), none, some (.int (nI (a + 1))), none]) (lsub_s rfl (lsub_s rfl (lsub_n (lsub_sl (jDgI_s _ _ _) rfl (lsub_n (lsub_s rfl (lsub_n (lsub_e)))))))) ih_a
        · exfalso
          exact c_3 (nI_lt (show 5 < 6 by omega) (by decide))
  · try dsimp only
    refine V.iload C dX6_digestPeople_5 rfl ?_
    refine V.aload_n C dX6_digestPeople_7 rfl ?_
    refine V.get C (q0 := 0) (k := 2) rfl rfl (by decide) iX6 (by decide +kernel) rfl rfl dX6_digestPeople_8 ?_
    refine V.callVi C (ct_X1_size) gX6_digestPeople_X1_size (n := 0) ⟨rfl, by decide, by decide, by decide +kernel⟩ rfl (q0 := 3) rfl rfl rfl rfl ⟨Nat.le_of_ble_eq_true rfl, Nat.le_of_ble_eq_true rfl⟩ ⟨rfl, rfl, Nat.zero_le _, Nat.zero_le _⟩ (Nat.le_of_ble_eq_true rfl) dX6_digestPeople_11 ?_
    refine V.topi (y := nI P) (hP) ?_
    refine V.icmp_ge C (tgt := 54) dX6_digestPeople_14 (by decide) (fun c_4 => ?_) (fun c_4 => ?_)
    · refine V.lload_n C dX6_digestPeople_54 rfl ?_
      refine hQ _ _ _ _ _ (Or.inr (Or.inr ⟨_, dX6_digestPeople_55, rfl, rfl, rfl⟩)) ⟨?_, rfl⟩
      rfl
    · exfalso
      exact absurd c_4 (nI_nlt (Nat.le_refl _) (by omega))
set_option maxRecDepth 100000 in
set_option maxHeartbeats 4000000 in
theorem ct_X6_digestInterviews {l : Launch} {D : va_G} {tys : List (ClassId × FieldType)} {cI : ClassId} {h : Nat → Nat} {σ : Nat → Nat → Int32} (hT : tys[0]? = some (cI, .int)) {d : Int64} {N : Nat} (hN : σ 4 0 = nI N) (hN40 : N ≤ 40) {Q : Nat} (hQz : σ 1 0 = nI Q) (hQ10 : Q ≤ 10) : Cd l D tys yX6_digestInterviews wsX6_digestInterviews ({ frames := 4, cells := 0, slots := 0, locals := 89 } : Room) (SW cI h σ) [.ref (h 0), .long d] (some (.long (jDgIvs σ N Q d))) (SW cI h σ) := by
  refine Ct.of [some (.ref (h 0)), some (.long d), none, none, none, none, none] (by decide) rfl rfl (Nat.le_of_ble_eq_true rfl) rfl (fun κ C hQ => ?_)
  have iX6 : ∀ z ∈ u_ws RX6 TX6 8, z ∈ wsX6_digestInterviews := by decide +kernel
  refine V.lload_n C dX6_digestInterviews_0 rfl ?_
  refine V.lstore_n C dX6_digestInterviews_1 (by decide) rfl ?_
  dsimp only [List.set, Fin.val]
  refine V.iconst C (v := nI 0) dX6_digestInterviews_2 (by decide) ?_
  refine V.istore C dX6_digestInterviews_3 (by decide) rfl ?_
  dsimp only [List.set]
  refine V.loop (N) (fun a => SW cI h σ) (fun a => [some (.ref (h 0)), some (.long d), none, some (.long (jDgI (fun i d => jDg (fun q => jGiven σ i q) (jDg (fun k => jOfIv σ i k) d 7) Q) d a)), none, some (.int (nI a)), none]) (fun a ha ih_a => ?_) ?_ (rfl) (lsub_s rfl (lsub_s rfl (lsub_n (lsub_sl (jDgI_0 _ _) rfl (lsub_n (lsub_s rfl (lsub_n (lsub_e))))))))
  · try dsimp only
    refine V.iload C dX6_digestInterviews_5 rfl ?_
    refine V.aload_n C dX6_digestInterviews_7 rfl ?_
    refine V.get C (q0 := 0) (k := 3) rfl rfl (by decide) iX6 (by decide +kernel) rfl rfl dX6_digestInterviews_8 ?_
    refine V.callVi C (ct_X0_size) gX6_digestInterviews_X0_size (n := 0) ⟨rfl, by decide, by decide, by decide +kernel⟩ rfl (q0 := 4) rfl rfl rfl rfl ⟨Nat.le_of_ble_eq_true rfl, Nat.le_of_ble_eq_true rfl⟩ ⟨rfl, rfl, Nat.zero_le _, Nat.zero_le _⟩ (Nat.le_of_ble_eq_true rfl) dX6_digestInterviews_11 ?_
    refine V.topi (y := nI N) (hN) ?_
    refine V.icmp_ge C (tgt := 92) dX6_digestInterviews_14 (by decide) (fun c_1 => ?_) (fun c_1 => ?_)
    · exfalso
      exact c_1 (nI_lt ha (by omega))
    · refine V.iconst C (v := nI 0) dX6_digestInterviews_17 (by decide) ?_
      refine V.istore C dX6_digestInterviews_18 (by decide) rfl ?_
      dsimp only [List.set]
      refine V.loop (7) (fun k => SW cI h σ) (fun k => [some (.ref (h 0)), some (.long d), none, some (.long (jDg (fun k => jOfIv σ a k) (jDgI (fun i d => jDg (fun q => jGiven σ i q) (jDg (fun k => jOfIv σ i k) d 7) Q) d a) k)), none, some (.int (nI a)), some (.int (nI k))]) (fun k hk ih_k => ?_) ?_ (rfl) (lsub_s rfl (lsub_s rfl (lsub_n (lsub_sl (jDg_0 _ _) rfl (lsub_n (lsub_s rfl (lsub_s rfl (lsub_e))))))))
      · try dsimp only
        refine V.iload C dX6_digestInterviews_20 rfl ?_
        refine V.bipush C (v := nI 6) dX6_digestInterviews_22 (by decide) ?_
        refine V.icmp_gt C (tgt := 49) dX6_digestInterviews_24 (by decide) (fun c_2 => ?_) (fun c_2 => ?_)
        · exfalso
          exact absurd c_2 (nI_nlt (show k ≤ 6 by omega) (by decide))
        · refine V.lload_n C dX6_digestInterviews_27 rfl ?_
          refine V.ldc2_w C (v := 31) (by decide +kernel) dX6_digestInterviews_28 ?_
          refine V.lmul C dX6_digestInterviews_31 ?_
          refine V.aload_n C dX6_digestInterviews_32 rfl ?_
          refine V.iload C dX6_digestInterviews_33 rfl ?_
          refine V.iload C dX6_digestInterviews_35 rfl ?_
          refine V.callVi C (ct_X6_ofInterview (i := a) (k := k) hT hN hN40 (by omega) (by omega)) gX6_digestInterviews_X6_ofInterview (n := 2) ⟨rfl, by decide, by decide, by decide +kernel⟩ rfl (q0 := 0) rfl rfl rfl rfl ⟨Nat.le_of_ble_eq_true rfl, Nat.le_of_ble_eq_true rfl⟩ ⟨rfl, rfl, Nat.zero_le _, Nat.zero_le _⟩ (Nat.le_of_ble_eq_true rfl) dX6_digestInterviews_37 ?_
          refine V.i2l C dX6_digestInterviews_40 ?_
          refine V.ladd C dX6_digestInterviews_41 ?_
          refine V.lstore_n C dX6_digestInterviews_42 (by decide) rfl ?_
          dsimp only [List.set, Fin.val]
          refine V.iinc C (v := nI (k + 1)) dX6_digestInterviews_43 rfl (nI_inc k) (by decide) rfl ?_
          dsimp only [List.set]
          refine V.goto C (tgt := 20) dX6_digestInterviews_46 (by decide) ?_
          exact V.sub (M := [some (.ref (h 0)), some (.long d), none, some (.long (jDg (fun k => jOfIv σ a k) (jDgI (fun i d => jDg (fun q => jGiven σ i q) (jDg (fun k => jOfIv σ i k) d 7) Q) d a) (k + 1))), none, some (.int (nI a)), some (.int (nI (k + 1)))]) (lsub_s rfl (lsub_s rfl (lsub_n (lsub_sl (jDg_s _ _ _) rfl (lsub_n (lsub_s rfl (lsub_s rfl (lsub_e)))))))) ih_k
      · try dsimp only
        refine V.iload C dX6_digestInterviews_20 rfl ?_
        refine V.bipush C (v := nI 6) dX6_digestInterviews_22 (by decide) ?_
        refine V.icmp_gt C (tgt := 49) dX6_digestInterviews_24 (by decide) (fun c_3 => ?_) (fun c_3 => ?_)
        · refine V.iconst C (v := nI 0) dX6_digestInterviews_49 (by decide) ?_
          refine V.istore C dX6_digestInterviews_50 (by decide) rfl ?_
          dsimp only [List.set]
          refine V.loop (Q) (fun q => SW cI h σ) (fun q => [some (.ref (h 0)), some (.long d), none, some (.long (jDg (fun q => jGiven σ a q) (jDg (fun k => jOfIv σ a k) (jDgI (fun i d => jDg (fun q => jGiven σ i q) (jDg (fun k => jOfIv σ i k) d 7) Q) d a) 7) q)), none, some (.int (nI a)), some (.int (nI q))]) (fun q hq ih_q => ?_) ?_ (rfl) (lsub_s rfl (lsub_s rfl (lsub_n (lsub_sl (jDg_0 _ _) rfl (lsub_n (lsub_s rfl (lsub_s rfl (lsub_e))))))))
          · try dsimp only
            refine V.iload C dX6_digestInterviews_52 rfl ?_
            refine V.aload_n C dX6_digestInterviews_54 rfl ?_
            refine V.get C (q0 := 0) (k := 0) rfl rfl (by decide) iX6 (by decide +kernel) rfl rfl dX6_digestInterviews_55 ?_
            refine V.callVi C (ct_X2_size) gX6_digestInterviews_X2_size (n := 0) ⟨rfl, by decide, by decide, by decide +kernel⟩ rfl (q0 := 1) rfl rfl rfl rfl ⟨Nat.le_of_ble_eq_true rfl, Nat.le_of_ble_eq_true rfl⟩ ⟨rfl, rfl, Nat.zero_le _, Nat.zero_le _⟩ (Nat.le_of_ble_eq_true rfl) dX6_digestInterviews_58 ?_
            refine V.topi (y := nI Q) (hQz) ?_
            refine V.icmp_ge C (tgt := 86) dX6_digestInterviews_61 (by decide) (fun c_4 => ?_) (fun c_4 => ?_)
            · exfalso
              exact c_4 (nI_lt hq (by omega))
            · refine V.lload_n C dX6_digestInterviews_64 rfl ?_
              refine V.ldc2_w C (v := 31) (by decide +kernel) dX6_digestInterviews_65 ?_
              refine V.lmul C dX6_digestInterviews_68 ?_
              refine V.aload_n C dX6_digestInterviews_69 rfl ?_
              refine V.iload C dX6_digestInterviews_70 rfl ?_
              refine V.iload C dX6_digestInterviews_72 rfl ?_
              refine V.callVi C (ct_X6_given (i := a) (q := q) hT hN hN40 hQz hQ10 (by omega) (by omega)) gX6_digestInterviews_X6_given (n := 2) ⟨rfl, by decide, by decide, by decide +kernel⟩ rfl (q0 := 0) rfl rfl rfl rfl ⟨Nat.le_of_ble_eq_true rfl, Nat.le_of_ble_eq_true rfl⟩ ⟨rfl, rfl, Nat.zero_le _, Nat.zero_le _⟩ (Nat.le_of_ble_eq_true rfl) dX6_digestInterviews_74 ?_
              refine V.i2l C dX6_digestInterviews_77 ?_
              refine V.ladd C dX6_digestInterviews_78 ?_
              refine V.lstore_n C dX6_digestInterviews_79 (by decide) rfl ?_
              dsimp only [List.set, Fin.val]
              refine V.iinc C (v := nI (q + 1)) dX6_digestInterviews_80 rfl (nI_inc q) (by decide) rfl ?_
              dsimp only [List.set]
              refine V.goto C (tgt := 52) dX6_digestInterviews_83 (by decide) ?_
              exact V.sub (M := [some (.ref (h 0)), some (.long d), none, some (.long (jDg (fun q => jGiven σ a q) (jDg (fun k => jOfIv σ a k) (jDgI (fun i d => jDg (fun q => jGiven σ i q) (jDg (fun k => jOfIv σ i k) d 7) Q) d a) 7) (q + 1))), none, some (.int (nI a)), some (.int (nI (q + 1)))]) (lsub_s rfl (lsub_s rfl (lsub_n (lsub_sl (jDg_s _ _ _) rfl (lsub_n (lsub_s rfl (lsub_s rfl (lsub_e)))))))) ih_q
          · try dsimp only
            refine V.iload C dX6_digestInterviews_52 rfl ?_
            refine V.aload_n C dX6_digestInterviews_54 rfl ?_
            refine V.get C (q0 := 0) (k := 0) rfl rfl (by decide) iX6 (by decide +kernel) rfl rfl dX6_digestInterviews_55 ?_
            refine V.callVi C (ct_X2_size) gX6_digestInterviews_X2_size (n := 0) ⟨rfl, by decide, by decide, by decide +kernel⟩ rfl (q0 := 1) rfl rfl rfl rfl ⟨Nat.le_of_ble_eq_true rfl, Nat.le_of_ble_eq_true rfl⟩ ⟨rfl, rfl, Nat.zero_le _, Nat.zero_le _⟩ (Nat.le_of_ble_eq_true rfl) dX6_digestInterviews_58 ?_
            refine V.topi (y := nI Q) (hQz) ?_
            refine V.icmp_ge C (tgt := 86) dX6_digestInterviews_61 (by decide) (fun c_5 => ?_) (fun c_5 => ?_)
            · refine V.iinc C (v := nI (a + 1)) dX6_digestInterviews_86 rfl (nI_inc a) (by decide) rfl ?_
              dsimp only [List.set]
              refine V.goto C (tgt := 5) dX6_digestInterviews_89 (by decide) ?_
              exact V.sub (M := [some (.ref (h 0)), some (.long d), none, some (.long (jDgI (fun i d => jDg (fun q => jGiven σ i q) (jDg (fun k => jOfIv σ i k) d 7) Q) d (a + 1))), none, some (.int (nI (a + 1))), none]) (lsub_s rfl (lsub_s rfl (lsub_n (lsub_sl (jDgI_s _ _ _) rfl (lsub_n (lsub_s rfl (lsub_n (lsub_e)))))))) ih_a
            · exfalso
              exact absurd c_5 (nI_nlt (Nat.le_refl _) (by omega))
        · exfalso
          exact c_3 (nI_lt (show 6 < 7 by omega) (by decide))
  · try dsimp only
    refine V.iload C dX6_digestInterviews_5 rfl ?_
    refine V.aload_n C dX6_digestInterviews_7 rfl ?_
    refine V.get C (q0 := 0) (k := 3) rfl rfl (by decide) iX6 (by decide +kernel) rfl rfl dX6_digestInterviews_8 ?_
    refine V.callVi C (ct_X0_size) gX6_digestInterviews_X0_size (n := 0) ⟨rfl, by decide, by decide, by decide +kernel⟩ rfl (q0 := 4) rfl rfl rfl rfl ⟨Nat.le_of_ble_eq_true rfl, Nat.le_of_ble_eq_true rfl⟩ ⟨rfl, rfl, Nat.zero_le _, Nat.zero_le _⟩ (Nat.le_of_ble_eq_true rfl) dX6_digestInterviews_11 ?_
    refine V.topi (y := nI N) (hN) ?_
    refine V.icmp_ge C (tgt := 92) dX6_digestInterviews_14 (by decide) (fun c_6 => ?_) (fun c_6 => ?_)
    · refine V.lload_n C dX6_digestInterviews_92 rfl ?_
      refine hQ _ _ _ _ _ (Or.inr (Or.inr ⟨_, dX6_digestInterviews_93, rfl, rfl, rfl⟩)) ⟨?_, rfl⟩
      rfl
    · exfalso
      exact absurd c_6 (nI_nlt (Nat.le_refl _) (by omega))
set_option maxRecDepth 100000 in
set_option maxHeartbeats 4000000 in
theorem ct_X6_digestQuestions {l : Launch} {D : va_G} {tys : List (ClassId × FieldType)} {cI : ClassId} {h : Nat → Nat} {σ : Nat → Nat → Int32} (hT : tys[0]? = some (cI, .int)) {d : Int64} {N : Nat} (hN : σ 4 0 = nI N) (hN40 : N ≤ 40) (hce : ∀ i, i < N → Nn (σ 18 i) 6) {Q : Nat} (hQz : σ 1 0 = nI Q) (hQ10 : Q ≤ 10) (hA : ∀ f, f < Q → Nn (σ 8 f) 6) (hW : ∀ f a, f < Q → a < 5 → jWay σ f a = -1 ∨ Nn (jWay σ f a) 10) : Cd l D tys yX6_digestQuestions wsX6_digestQuestions ({ frames := 4, cells := 0, slots := 0, locals := 95 } : Room) (SW cI h σ) [.ref (h 0), .long d] (some (.long (jDgQs σ N Q d Q))) (SW cI h (jStQ σ Q Q)) := by
  refine Ct.of [some (.ref (h 0)), some (.long d), none, none, none, none, none] (by decide) rfl rfl (Nat.le_of_ble_eq_true rfl) rfl (fun κ C hQ => ?_)
  have iX6 : ∀ z ∈ u_ws RX6 TX6 8, z ∈ wsX6_digestQuestions := by decide +kernel
  refine V.lload_n C dX6_digestQuestions_0 rfl ?_
  refine V.lstore_n C dX6_digestQuestions_1 (by decide) rfl ?_
  dsimp only [List.set, Fin.val]
  refine V.iconst C (v := nI 0) dX6_digestQuestions_2 (by decide) ?_
  refine V.istore C dX6_digestQuestions_3 (by decide) rfl ?_
  dsimp only [List.set]
  refine V.loop (Q) (fun q => SW cI h (jStQ σ Q q)) (fun q => [some (.ref (h 0)), some (.long d), none, some (.long (jDgQs σ N Q d q)), none, some (.int (nI q)), none]) (fun q hq ih_q => ?_) ?_ (rfl) (lsub_s rfl (lsub_s rfl (lsub_n (lsub_s rfl (lsub_n (lsub_s rfl (lsub_n (lsub_e))))))))
  · try dsimp only
    refine V.iload C dX6_digestQuestions_5 rfl ?_
    refine V.aload_n C dX6_digestQuestions_7 rfl ?_
    refine V.get C (q0 := 0) (k := 0) rfl rfl (by decide) iX6 (by decide +kernel) rfl rfl dX6_digestQuestions_8 ?_
    refine V.callVi C (ct_X2_size) gX6_digestQuestions_X2_size (n := 0) ⟨rfl, by decide, by decide, by decide +kernel⟩ rfl (q0 := 1) rfl rfl rfl rfl ⟨Nat.le_of_ble_eq_true rfl, Nat.le_of_ble_eq_true rfl⟩ ⟨rfl, rfl, Nat.zero_le _, Nat.zero_le _⟩ (Nat.le_of_ble_eq_true rfl) dX6_digestQuestions_11 ?_
    refine V.topi (y := nI Q) ((congrFun (jStQ_ne σ Q (by decide) _) 0).trans hQz) ?_
    refine V.icmp_ge C (tgt := 77) dX6_digestQuestions_14 (by decide) (fun c_1 => ?_) (fun c_1 => ?_)
    · exfalso
      exact c_1 (nI_lt hq (by omega))
    · refine V.iconst C (v := nI 0) dX6_digestQuestions_17 (by decide) ?_
      refine V.istore C dX6_digestQuestions_18 (by decide) rfl ?_
      dsimp only [List.set]
      refine V.loop (jA σ q) (fun a => SW cI h (jStQ σ Q q)) (fun a => [some (.ref (h 0)), some (.long d), none, some (.long (jDg (fun a => jShare (jStQ σ Q q) 24 N q (nI a) (-1)) (jDgQs σ N Q d q) a)), none, some (.int (nI q)), some (.int (nI a))]) (fun a ha ih_a => ?_) ?_ (rfl) (lsub_s rfl (lsub_s rfl (lsub_n (lsub_sl (jDg_0 _ _) rfl (lsub_n (lsub_s rfl (lsub_s rfl (lsub_e))))))))
      · try dsimp only
        refine V.iload C dX6_digestQuestions_20 rfl ?_
        refine V.aload_n C dX6_digestQuestions_22 rfl ?_
        refine V.get C (q0 := 0) (k := 0) rfl rfl (by decide) iX6 (by decide +kernel) rfl rfl dX6_digestQuestions_23 ?_
        refine V.iload C dX6_digestQuestions_26 rfl ?_
        refine V.callVi C (ct_X2_answersOf hT (by omega)) gX6_digestQuestions_X2_answersOf (n := 1) ⟨rfl, by decide, by decide, by decide +kernel⟩ rfl (q0 := 1) rfl rfl rfl rfl ⟨Nat.le_of_ble_eq_true rfl, Nat.le_of_ble_eq_true rfl⟩ ⟨rfl, rfl, Nat.zero_le _, Nat.zero_le _⟩ (Nat.le_of_ble_eq_true rfl) dX6_digestQuestions_28 ?_
        refine V.topi (y := nI (jA σ q)) (by rw [(jStQ_ne σ Q (by decide) _)]; exact (hA q hq).1) ?_
        refine V.icmp_ge C (tgt := 57) dX6_digestQuestions_31 (by decide) (fun c_2 => ?_) (fun c_2 => ?_)
        · exfalso
          exact c_2 (nI_lt ha (by have : jA σ q < 6 := (hA q hq).2; omega))
        · refine V.lload_n C dX6_digestQuestions_34 rfl ?_
          refine V.ldc2_w C (v := 31) (by decide +kernel) dX6_digestQuestions_35 ?_
          refine V.lmul C dX6_digestQuestions_38 ?_
          refine V.aload_n C dX6_digestQuestions_39 rfl ?_
          refine V.iload C dX6_digestQuestions_40 rfl ?_
          refine V.iload C dX6_digestQuestions_42 rfl ?_
          refine V.iconst C (v := (-1)) dX6_digestQuestions_44 (by decide) ?_
          refine V.callVi C (ct_X6_share (σ := jStQ σ Q q) (q := q) (a := a) hT ((congrFun (jStQ_ne σ Q (by decide) _) 0).trans hN) hN40 (fun i hi => by rw [(jStQ_ne σ Q (by decide) _)]; exact hce i hi) ((congrFun (jStQ_ne σ Q (by decide) _) 0).trans hQz) hQ10 (fun f hf => by rw [(jStQ_ne σ Q (by decide) _)]; exact hA f hf) (by omega) (by unfold jA; rw [(jStQ_ne σ Q (by decide) _)]; exact ha)) gX6_digestQuestions_X6_share (n := 3) ⟨rfl, by decide, by decide, by decide +kernel⟩ rfl (q0 := 0) rfl rfl rfl rfl ⟨Nat.le_of_ble_eq_true rfl, Nat.le_of_ble_eq_true rfl⟩ ⟨rfl, rfl, Nat.zero_le _, Nat.zero_le _⟩ (Nat.le_of_ble_eq_true rfl) dX6_digestQuestions_45 ?_
          refine V.i2l C dX6_digestQuestions_48 ?_
          refine V.ladd C dX6_digestQuestions_49 ?_
          refine V.lstore_n C dX6_digestQuestions_50 (by decide) rfl ?_
          dsimp only [List.set, Fin.val]
          refine V.iinc C (v := nI (a + 1)) dX6_digestQuestions_51 rfl (nI_inc a) (by decide) rfl ?_
          dsimp only [List.set]
          refine V.goto C (tgt := 20) dX6_digestQuestions_54 (by decide) ?_
          exact V.sub (M := [some (.ref (h 0)), some (.long d), none, some (.long (jDg (fun a => jShare (jStQ σ Q q) 24 N q (nI a) (-1)) (jDgQs σ N Q d q) (a + 1))), none, some (.int (nI q)), some (.int (nI (a + 1)))]) (lsub_s rfl (lsub_s rfl (lsub_n (lsub_sl (jDg_s _ _ _) rfl (lsub_n (lsub_s rfl (lsub_s rfl (lsub_e)))))))) ih_a
      · try dsimp only
        refine V.iload C dX6_digestQuestions_20 rfl ?_
        refine V.aload_n C dX6_digestQuestions_22 rfl ?_
        refine V.get C (q0 := 0) (k := 0) rfl rfl (by decide) iX6 (by decide +kernel) rfl rfl dX6_digestQuestions_23 ?_
        refine V.iload C dX6_digestQuestions_26 rfl ?_
        refine V.callVi C (ct_X2_answersOf hT (by omega)) gX6_digestQuestions_X2_answersOf (n := 1) ⟨rfl, by decide, by decide, by decide +kernel⟩ rfl (q0 := 1) rfl rfl rfl rfl ⟨Nat.le_of_ble_eq_true rfl, Nat.le_of_ble_eq_true rfl⟩ ⟨rfl, rfl, Nat.zero_le _, Nat.zero_le _⟩ (Nat.le_of_ble_eq_true rfl) dX6_digestQuestions_28 ?_
        refine V.topi (y := nI (jA σ q)) (by rw [(jStQ_ne σ Q (by decide) _)]; exact (hA q hq).1) ?_
        refine V.icmp_ge C (tgt := 57) dX6_digestQuestions_31 (by decide) (fun c_3 => ?_) (fun c_3 => ?_)
        · refine V.lload_n C dX6_digestQuestions_57 rfl ?_
          refine V.ldc2_w C (v := 31) (by decide +kernel) dX6_digestQuestions_58 ?_
          refine V.lmul C dX6_digestQuestions_61 ?_
          refine V.aload_n C dX6_digestQuestions_62 rfl ?_
          refine V.iload C dX6_digestQuestions_63 rfl ?_
          refine V.callVi C (ct_X6_shortest (σ := jStQ σ Q q) hT ((congrFun (jStQ_ne σ Q (by decide) _) 0).trans hQz) hQ10 (fun f hf => by rw [(jStQ_ne σ Q (by decide) _)]; exact hA f hf) (fun f a hf ha => by rw [jWay_StQ]; exact hW f a hf ha) (by omega)) gX6_digestQuestions_X6_shortest (n := 1) ⟨rfl, by decide, by decide, by decide +kernel⟩ rfl (q0 := 0) rfl rfl rfl rfl ⟨Nat.le_of_ble_eq_true rfl, Nat.le_of_ble_eq_true rfl⟩ ⟨rfl, rfl, Nat.zero_le _, Nat.zero_le _⟩ (Nat.le_of_ble_eq_true rfl) dX6_digestQuestions_65 ?_
          refine V.i2l C dX6_digestQuestions_68 ?_
          refine V.ladd C dX6_digestQuestions_69 ?_
          refine V.lstore_n C dX6_digestQuestions_70 (by decide) rfl ?_
          dsimp only [List.set, Fin.val]
          refine V.iinc C (v := nI (q + 1)) dX6_digestQuestions_71 rfl (nI_inc q) (by decide) rfl ?_
          dsimp only [List.set]
          refine V.goto C (tgt := 5) dX6_digestQuestions_74 (by decide) ?_
          refine V.world (w' := SW cI h (jStQ σ Q (q + 1))) (rfl) ?_
          exact V.sub (M := [some (.ref (h 0)), some (.long d), none, some (.long (jDgQs σ N Q d (q + 1))), none, some (.int (nI (q + 1))), none]) (lsub_s rfl (lsub_s rfl (lsub_n (lsub_s rfl (lsub_n (lsub_s rfl (lsub_n (lsub_e)))))))) ih_q
        · exfalso
          exact absurd c_3 (nI_nlt (Nat.le_refl _) (by have : jA σ q < 6 := (hA q hq).2; omega))
  · try dsimp only
    refine V.iload C dX6_digestQuestions_5 rfl ?_
    refine V.aload_n C dX6_digestQuestions_7 rfl ?_
    refine V.get C (q0 := 0) (k := 0) rfl rfl (by decide) iX6 (by decide +kernel) rfl rfl dX6_digestQuestions_8 ?_
    refine V.callVi C (ct_X2_size) gX6_digestQuestions_X2_size (n := 0) ⟨rfl, by decide, by decide, by decide +kernel⟩ rfl (q0 := 1) rfl rfl rfl rfl ⟨Nat.le_of_ble_eq_true rfl, Nat.le_of_ble_eq_true rfl⟩ ⟨rfl, rfl, Nat.zero_le _, Nat.zero_le _⟩ (Nat.le_of_ble_eq_true rfl) dX6_digestQuestions_11 ?_
    refine V.topi (y := nI Q) ((congrFun (jStQ_ne σ Q (by decide) _) 0).trans hQz) ?_
    refine V.icmp_ge C (tgt := 77) dX6_digestQuestions_14 (by decide) (fun c_4 => ?_) (fun c_4 => ?_)
    · refine V.lload_n C dX6_digestQuestions_77 rfl ?_
      refine hQ _ _ _ _ _ (Or.inr (Or.inr ⟨_, dX6_digestQuestions_78, rfl, rfl, rfl⟩)) ⟨?_, rfl⟩
      rfl
    · exfalso
      exact absurd c_4 (nI_nlt (Nat.le_refl _) (by omega))
set_option maxRecDepth 100000 in
set_option maxHeartbeats 4000000 in
theorem ct_X6_digest {l : Launch} {D : va_G} {tys : List (ClassId × FieldType)} {cI : ClassId} {h : Nat → Nat} {σ : Nat → Nat → Int32} (hT : tys[0]? = some (cI, .int)) {N : Nat} (hN : σ 4 0 = nI N) (hN40 : N ≤ 40) (hce : ∀ i, i < N → Nn (σ 18 i) 6) {P : Nat} (hP : σ 3 0 = nI P) (hP24 : P ≤ 24) (hpc : ∀ p, p < P → Nn (σ 13 p) 6) {Q : Nat} (hQz : σ 1 0 = nI Q) (hQ10 : Q ≤ 10) (hA : ∀ f, f < Q → Nn (σ 8 f) 6) (hW : ∀ f a, f < Q → a < 5 → jWay σ f a = -1 ∨ Nn (jWay σ f a) 10) : Cd l D tys yX6_digest wsX6_digest ({ frames := 7, cells := 0, slots := 0, locals := 166 } : Room) (SW cI h σ) [.ref (h 0)] (some (.long (jDigest σ N P Q))) (SW cI h (jStQ σ Q Q)) := by
  refine Ct.of [some (.ref (h 0)), none, none, none] (by decide) rfl rfl (Nat.le_of_ble_eq_true rfl) rfl (fun κ C hQ => ?_)
  refine V.ldc2_w C (v := 58114) (by decide +kernel) dX6_digest_0 ?_
  refine V.lstore_n C dX6_digest_3 (by decide) rfl ?_
  dsimp only [List.set, Fin.val]
  refine V.iconst C (v := nI 0) dX6_digest_4 (by decide) ?_
  refine V.istore_n C dX6_digest_5 (by decide) rfl ?_
  dsimp only [List.set, Fin.val]
  refine V.loop (12) (fun k => SW cI h σ) (fun k => [some (.ref (h 0)), some (.long (jDg (fun k => jMany σ N P k) 58114 k)), none, some (.int (nI k))]) (fun k hk ih_k => ?_) ?_ (rfl) (lsub_s rfl (lsub_s rfl (lsub_n (lsub_s rfl (lsub_e)))))
  · try dsimp only
    refine V.iload_n C dX6_digest_6 rfl ?_
    refine V.bipush C (v := nI 11) dX6_digest_7 (by decide) ?_
    refine V.icmp_gt C (tgt := 31) dX6_digest_9 (by decide) (fun c_1 => ?_) (fun c_1 => ?_)
    · exfalso
      exact absurd c_1 (nI_nlt (show k ≤ 11 by omega) (by decide))
    · refine V.lload_n C dX6_digest_12 rfl ?_
      refine V.ldc2_w C (v := 31) (by decide +kernel) dX6_digest_13 ?_
      refine V.lmul C dX6_digest_16 ?_
      refine V.aload_n C dX6_digest_17 rfl ?_
      refine V.iload_n C dX6_digest_18 rfl ?_
      refine V.callVi C (ct_X6_many (k := k) hT hN hN40 hP hP24 hpc (by omega)) gX6_digest_X6_many (n := 1) ⟨rfl, by decide, by decide, by decide +kernel⟩ rfl (q0 := 0) rfl rfl rfl rfl ⟨Nat.le_of_ble_eq_true rfl, Nat.le_of_ble_eq_true rfl⟩ ⟨rfl, rfl, Nat.zero_le _, Nat.zero_le _⟩ (Nat.le_of_ble_eq_true rfl) dX6_digest_19 ?_
      refine V.i2l C dX6_digest_22 ?_
      refine V.ladd C dX6_digest_23 ?_
      refine V.lstore_n C dX6_digest_24 (by decide) rfl ?_
      dsimp only [List.set, Fin.val]
      refine V.iinc C (v := nI (k + 1)) dX6_digest_25 rfl (nI_inc k) (by decide) rfl ?_
      dsimp only [List.set]
      refine V.goto C (tgt := 6) dX6_digest_28 (by decide) ?_
      exact V.sub (M := [some (.ref (h 0)), some (.long (jDg (fun k => jMany σ N P k) 58114 (k + 1))), none, some (.int (nI (k + 1)))]) (lsub_s rfl (lsub_s rfl (lsub_n (lsub_s rfl (lsub_e))))) ih_k
  · try dsimp only
    refine V.iload_n C dX6_digest_6 rfl ?_
    refine V.bipush C (v := nI 11) dX6_digest_7 (by decide) ?_
    refine V.icmp_gt C (tgt := 31) dX6_digest_9 (by decide) (fun c_2 => ?_) (fun c_2 => ?_)
    · refine V.aload_n C dX6_digest_31 rfl ?_
      refine V.lload_n C dX6_digest_32 rfl ?_
      refine V.callVi C (ct_X6_digestCells hT hN hN40 hP hP24 hpc) gX6_digest_X6_digestCells (n := 1) ⟨rfl, by decide, by decide, by decide +kernel⟩ rfl (q0 := 0) rfl rfl rfl rfl ⟨Nat.le_of_ble_eq_true rfl, Nat.le_of_ble_eq_true rfl⟩ ⟨rfl, rfl, Nat.zero_le _, Nat.zero_le _⟩ (Nat.le_of_ble_eq_true rfl) dX6_digest_33 ?_
      refine V.lstore_n C dX6_digest_36 (by decide) rfl ?_
      dsimp only [List.set, Fin.val]
      refine V.aload_n C dX6_digest_37 rfl ?_
      refine V.lload_n C dX6_digest_38 rfl ?_
      refine V.callVi C (ct_X6_digestPeople hT hN hN40 hP hP24 hpc) gX6_digest_X6_digestPeople (n := 1) ⟨rfl, by decide, by decide, by decide +kernel⟩ rfl (q0 := 0) rfl rfl rfl rfl ⟨Nat.le_of_ble_eq_true rfl, Nat.le_of_ble_eq_true rfl⟩ ⟨rfl, rfl, Nat.zero_le _, Nat.zero_le _⟩ (Nat.le_of_ble_eq_true rfl) dX6_digest_39 ?_
      refine V.lstore_n C dX6_digest_42 (by decide) rfl ?_
      dsimp only [List.set, Fin.val]
      refine V.aload_n C dX6_digest_43 rfl ?_
      refine V.lload_n C dX6_digest_44 rfl ?_
      refine V.callVi C (ct_X6_digestInterviews hT hN hN40 hQz hQ10) gX6_digest_X6_digestInterviews (n := 1) ⟨rfl, by decide, by decide, by decide +kernel⟩ rfl (q0 := 0) rfl rfl rfl rfl ⟨Nat.le_of_ble_eq_true rfl, Nat.le_of_ble_eq_true rfl⟩ ⟨rfl, rfl, Nat.zero_le _, Nat.zero_le _⟩ (Nat.le_of_ble_eq_true rfl) dX6_digest_45 ?_
      refine V.lstore_n C dX6_digest_48 (by decide) rfl ?_
      dsimp only [List.set, Fin.val]
      refine V.aload_n C dX6_digest_49 rfl ?_
      refine V.lload_n C dX6_digest_50 rfl ?_
      refine V.callVi C (ct_X6_digestQuestions hT hN hN40 hce hQz hQ10 hA hW) gX6_digest_X6_digestQuestions (n := 1) ⟨rfl, by decide, by decide, by decide +kernel⟩ rfl (q0 := 0) rfl rfl rfl rfl ⟨Nat.le_of_ble_eq_true rfl, Nat.le_of_ble_eq_true rfl⟩ ⟨rfl, rfl, Nat.zero_le _, Nat.zero_le _⟩ (Nat.le_of_ble_eq_true rfl) dX6_digest_51 ?_
      refine V.lstore_n C dX6_digest_54 (by decide) rfl ?_
      dsimp only [List.set, Fin.val]
      refine V.lload_n C dX6_digest_55 rfl ?_
      refine V.ldc2_w C (v := 31) (by decide +kernel) dX6_digest_56 ?_
      refine V.lmul C dX6_digest_59 ?_
      refine V.aload_n C dX6_digest_60 rfl ?_
      refine V.callVi C (ct_X6_next hT ((congrFun (jStQ_ne σ Q (by decide) Q) 0).trans hN) hN40 ((congrFun (jStQ_ne σ Q (by decide) Q) 0).trans hP) hP24 (fun p hp => by rw [jStQ_ne σ Q (by decide) Q]; exact hpc p hp)) gX6_digest_X6_next (n := 0) ⟨rfl, by decide, by decide, by decide +kernel⟩ rfl (q0 := 0) rfl rfl rfl rfl ⟨Nat.le_of_ble_eq_true rfl, Nat.le_of_ble_eq_true rfl⟩ ⟨rfl, rfl, Nat.zero_le _, Nat.zero_le _⟩ (Nat.le_of_ble_eq_true rfl) dX6_digest_61 ?_
      refine V.i2l C dX6_digest_64 ?_
      refine V.ladd C dX6_digest_65 ?_
      refine V.lstore_n C dX6_digest_66 (by decide) rfl ?_
      dsimp only [List.set, Fin.val]
      refine V.lload_n C dX6_digest_67 rfl ?_
      refine V.ldc2_w C (v := 31) (by decide +kernel) dX6_digest_68 ?_
      refine V.lmul C dX6_digest_71 ?_
      refine V.aload_n C dX6_digest_72 rfl ?_
      refine V.callVi C (ct_X6_off hT ((congrFun (jStQ_ne σ Q (by decide) Q) 0).trans hN) hN40 (fun i hi => by rw [jStQ_ne σ Q (by decide) Q]; exact hce i hi)) gX6_digest_X6_off (n := 0) ⟨rfl, by decide, by decide, by decide +kernel⟩ rfl (q0 := 0) rfl rfl rfl rfl ⟨Nat.le_of_ble_eq_true rfl, Nat.le_of_ble_eq_true rfl⟩ ⟨rfl, rfl, Nat.zero_le _, Nat.zero_le _⟩ (Nat.le_of_ble_eq_true rfl) dX6_digest_73 ?_
      refine V.i2l C dX6_digest_76 ?_
      refine V.ladd C dX6_digest_77 ?_
      refine V.lstore_n C dX6_digest_78 (by decide) rfl ?_
      dsimp only [List.set, Fin.val]
      refine V.lload_n C dX6_digest_79 rfl ?_
      refine V.ldc2_w C (v := 31) (by decide +kernel) dX6_digest_80 ?_
      refine V.lmul C dX6_digest_83 ?_
      refine V.aload_n C dX6_digest_84 rfl ?_
      refine V.callVi C (ct_X6_cleaned hT ((congrFun (jStQ_ne σ Q (by decide) Q) 0).trans hN) hN40) gX6_digest_X6_cleaned (n := 0) ⟨rfl, by decide, by decide, by decide +kernel⟩ rfl (q0 := 0) rfl rfl rfl rfl ⟨Nat.le_of_ble_eq_true rfl, Nat.le_of_ble_eq_true rfl⟩ ⟨rfl, rfl, Nat.zero_le _, Nat.zero_le _⟩ (Nat.le_of_ble_eq_true rfl) dX6_digest_85 ?_
      refine V.i2l C dX6_digest_88 ?_
      refine V.ladd C dX6_digest_89 ?_
      refine V.lstore_n C dX6_digest_90 (by decide) rfl ?_
      dsimp only [List.set, Fin.val]
      refine V.lload_n C dX6_digest_91 rfl ?_
      refine V.ldc2_w C (v := 31) (by decide +kernel) dX6_digest_92 ?_
      refine V.lmul C dX6_digest_95 ?_
      refine V.aload_n C dX6_digest_96 rfl ?_
      refine V.iconst C (v := nI 3) dX6_digest_97 (by decide) ?_
      refine V.callVi C (ct_X6_nextIn hT ((congrFun (jStQ_ne σ Q (by decide) Q) 0).trans hN) hN40 ((congrFun (jStQ_ne σ Q (by decide) Q) 0).trans hP) hP24 (fun p hp => by rw [jStQ_ne σ Q (by decide) Q]; exact hpc p hp) (by omega)) gX6_digest_X6_nextIn (n := 1) ⟨rfl, by decide, by decide, by decide +kernel⟩ rfl (q0 := 0) rfl rfl rfl rfl ⟨Nat.le_of_ble_eq_true rfl, Nat.le_of_ble_eq_true rfl⟩ ⟨rfl, rfl, Nat.zero_le _, Nat.zero_le _⟩ (Nat.le_of_ble_eq_true rfl) dX6_digest_98 ?_
      refine V.i2l C dX6_digest_101 ?_
      refine V.ladd C dX6_digest_102 ?_
      refine hQ _ _ _ _ _ (Or.inr (Or.inr ⟨_, dX6_digest_103, rfl, rfl, rfl⟩)) ⟨?_, rfl⟩
      rfl
    · exfalso
      exact c_2 (nI_lt (show 11 < 12 by omega) (by decide))
