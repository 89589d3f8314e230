set_option maxRecDepth 100000 in
set_option maxHeartbeats 4000000 in
theorem ct_X2_stepsFrom {l : Launch} {D : va_G} {tys : List (ClassId × FieldType)} {cI : ClassId} {h : Nat → Nat} {σ : Nat → Nat → Int32} (hT : tys[0]? = some (cI, .int)) {q : Nat} {Q : Nat} (hQz : σ 1 0 = nI Q) (hQ10 : Q ≤ 10) (hq : q < Q) (hA : ∀ f, f < Q → Nn (σ 8 f) 6) (hW : ∀ f a, f < Q → a < 5 → jWay σ f a = -1 ∨ Nn (jWay σ f a) 10) : Cd l D tys yX2_stepsFrom wsX2_stepsFrom ({ frames := 2, cells := 0, slots := 0, locals := 44 } : Room) (SW cI h σ) [.ref (h 1), .int (nI q)] (some (.int (jShort σ Q q))) (SW cI h (jSteps σ Q (Q - q))) := by
  refine Ct.of [some (.ref (h 1)), some (.int (nI q)), none, none, none, none] (by decide) rfl rfl (Nat.le_of_ble_eq_true rfl) rfl (fun κ C hQ => ?_)
  have iX2 : ∀ z ∈ u_ws RX2 TX2 5, z ∈ wsX2_stepsFrom := by decide +kernel
  refine V.aload_n C dX2_stepsFrom_0 rfl ?_
  refine V.get C (q0 := 1) (k := 0) rfl rfl (by decide) iX2 (by decide +kernel) rfl rfl dX2_stepsFrom_1 ?_
  refine V.topi (hQz) ?_
  refine V.iconst C (v := nI 1) dX2_stepsFrom_4 (by decide) ?_
  refine V.isub C dX2_stepsFrom_5 ?_
  refine V.istore_n C dX2_stepsFrom_6 (by decide) rfl ?_
  dsimp only [List.set, Fin.val]
  refine V.loop (Q - q) (fun k => SW cI h (jSteps σ Q k)) (fun k => [some (.ref (h 1)), some (.int (nI q)), some (.int (nI (Q - k) - nI 1)), none, none, none]) (fun k hk ih_k => ?_) ?_ (rfl) (lsub_s rfl (lsub_s rfl (lsub_s rfl (lsub_n (lsub_n (lsub_n (lsub_e)))))))
  · try dsimp only
    rw [show nI (Q - k) - nI 1 = nI (Q - 1 - k) by rw [nI_sub (by omega)]; exact congrArg nI (by omega)]
    refine V.iload_n C dX2_stepsFrom_7 rfl ?_
    refine V.iload_n C dX2_stepsFrom_8 rfl ?_
    refine V.icmp_lt C (tgt := 81) dX2_stepsFrom_9 (by decide) (fun c_1 => ?_) (fun c_1 => ?_)
    · exfalso
      exact absurd c_1 (nI_nlt (by omega) (by omega))
    · refine V.bipush C (v := nI 10) dX2_stepsFrom_12 (by decide) ?_
      refine V.istore_n C dX2_stepsFrom_14 (by decide) rfl ?_
      dsimp only [List.set, Fin.val]
      refine V.iconst C (v := nI 0) dX2_stepsFrom_15 (by decide) ?_
      refine V.istore C dX2_stepsFrom_16 (by decide) rfl ?_
      dsimp only [List.set]
      refine V.loop ((σ 8 (Q - 1 - k)).toNatClampNeg) (fun a => SW cI h (jSteps σ Q k)) (fun a => [some (.ref (h 1)), some (.int (nI q)), some (.int (nI (Q - 1 - k))), some (.int (jLeast (jSteps σ Q k) (Q - 1 - k) a)), some (.int (nI a)), none]) (fun a ha ih_a => ?_) ?_ (rfl) (lsub_s rfl (lsub_s rfl (lsub_s rfl (lsub_s rfl (lsub_s rfl (lsub_n (lsub_e)))))))
      · try dsimp only
        refine V.iload C dX2_stepsFrom_18 rfl ?_
        refine V.aload_n C dX2_stepsFrom_20 rfl ?_
        refine V.get C (q0 := 1) (k := 2) rfl rfl (by decide) iX2 (by decide +kernel) rfl rfl dX2_stepsFrom_21 ?_
        refine V.iload_n C dX2_stepsFrom_24 rfl ?_
        refine V.iald C (q0 := 8) (t0 := 0) rfl hT (rfl) (by omega) (by omega) dX2_stepsFrom_25 ?_
        refine V.topi (y := nI (σ 8 (Q - 1 - k)).toNatClampNeg) (by rw [jSteps_ne σ Q (by decide)]; exact (hA _ (by omega)).1) ?_
        refine V.icmp_ge C (tgt := 68) dX2_stepsFrom_26 (by decide) (fun c_2 => ?_) (fun c_2 => ?_)
        · exfalso
          exact c_2 (nI_lt ha (by have := (hA (Q - 1 - k) (by omega)).2; omega))
        · refine V.aload_n C dX2_stepsFrom_29 rfl ?_
          refine V.iload_n C dX2_stepsFrom_30 rfl ?_
          refine V.iload C dX2_stepsFrom_31 rfl ?_
          refine V.callVi C (ct_X2_wayFrom hT (by omega) (by have := (hA (Q - 1 - k) (by omega)).2; omega)) gX2_stepsFrom_X2_wayFrom (n := 2) ⟨rfl, by decide, by decide, by decide +kernel⟩ rfl (q0 := 1) rfl rfl rfl rfl ⟨Nat.le_of_ble_eq_true rfl, Nat.le_of_ble_eq_true rfl⟩ ⟨rfl, rfl, Nat.zero_le _, Nat.zero_le _⟩ (Nat.le_of_ble_eq_true rfl) dX2_stepsFrom_33 ?_
          refine V.istore C dX2_stepsFrom_36 (by decide) rfl ?_
          dsimp only [List.set]
          refine V.iload_n C dX2_stepsFrom_38 rfl ?_
          refine V.iload C dX2_stepsFrom_39 rfl ?_
          refine V.iconst C (v := (-1)) dX2_stepsFrom_41 (by decide) ?_
          refine V.icmp_ne C (tgt := 49) dX2_stepsFrom_42 (by decide) (fun c_3 => ?_) (fun c_3 => ?_)
          · refine V.iconst C (v := nI 1) dX2_stepsFrom_49 (by decide) ?_
            refine V.aload_n C dX2_stepsFrom_50 rfl ?_
            refine V.get C (q0 := 1) (k := 4) rfl rfl (by decide) iX2 (by decide +kernel) rfl rfl dX2_stepsFrom_51 ?_
            refine V.iload C dX2_stepsFrom_54 rfl ?_
            refine V.iald C (q0 := 10) (t0 := 0) rfl hT ((((jWay_steps σ Q k (Q - 1 - k) a).symm ▸ hW (Q - 1 - k) a (by omega) (by have := (hA (Q - 1 - k) (by omega)).2; omega)).resolve_left (by assumption)).1) ((((jWay_steps σ Q k (Q - 1 - k) a).symm ▸ hW (Q - 1 - k) a (by omega) (by have := (hA (Q - 1 - k) (by omega)).2; omega)).resolve_left (by assumption)).2) (by omega) dX2_stepsFrom_56 ?_
            refine V.iadd C dX2_stepsFrom_57 ?_
            refine V.mmin C (by decide +kernel) (by decide +kernel) (by decide +kernel) (by decide +kernel) (by decide) (Nat.le_of_ble_eq_true rfl) (Nat.zero_le _) (Nat.zero_le _) dX2_stepsFrom_58 ?_
            refine V.istore_n C dX2_stepsFrom_61 (by decide) rfl ?_
            dsimp only [List.set, Fin.val]
            refine V.iinc C (v := nI (a + 1)) dX2_stepsFrom_62 rfl (nI_inc a) (by decide) rfl ?_
            dsimp only [List.set]
            refine V.goto C (tgt := 18) dX2_stepsFrom_65 (by decide) ?_
            exact V.sub (M := [some (.ref (h 1)), some (.int (nI q)), some (.int (nI (Q - 1 - k))), some (.int (jLeast (jSteps σ Q k) (Q - 1 - k) (a + 1))), some (.int (nI (a + 1))), none]) (lsub_s rfl (lsub_s rfl (lsub_s rfl (lsub_si (by (clear hQ C; (try simp only [bI_0] at *); first | (simp [jLeast, bI_t2, bI_f2, *]; done) | (simp_all; done))) rfl (lsub_s rfl (lsub_n (lsub_e))))))) ih_a
          · refine V.iconst C (v := nI 1) dX2_stepsFrom_45 (by decide) ?_
            refine V.goto C (tgt := 58) dX2_stepsFrom_46 (by decide) ?_
            refine V.mmin C (by decide +kernel) (by decide +kernel) (by decide +kernel) (by decide +kernel) (by decide) (Nat.le_of_ble_eq_true rfl) (Nat.zero_le _) (Nat.zero_le _) dX2_stepsFrom_58 ?_
            refine V.istore_n C dX2_stepsFrom_61 (by decide) rfl ?_
            dsimp only [List.set, Fin.val]
            refine V.iinc C (v := nI (a + 1)) dX2_stepsFrom_62 rfl (nI_inc a) (by decide) rfl ?_
            dsimp only [List.set]
            refine V.goto C (tgt := 18) dX2_stepsFrom_65 (by decide) ?_
            exact V.sub (M := [some (.ref (h 1)), some (.int (nI q)), some (.int (nI (Q - 1 - k))), some (.int (jLeast (jSteps σ Q k) (Q - 1 - k) (a + 1))), some (.int (nI (a + 1))), none]) (lsub_s rfl (lsub_s rfl (lsub_s rfl (lsub_si (by (clear hQ C; (try simp only [bI_0] at *); first | (simp [jLeast, bI_t2, bI_f2, *]; done) | (simp_all; done))) rfl (lsub_s rfl (lsub_n (lsub_e))))))) ih_a
      · try dsimp only
        refine V.iload C dX2_stepsFrom_18 rfl ?_
        refine V.aload_n C dX2_stepsFrom_20 rfl ?_
        refine V.get C (q0 := 1) (k := 2) rfl rfl (by decide) iX2 (by decide +kernel) rfl rfl dX2_stepsFrom_21 ?_
        refine V.iload_n C dX2_stepsFrom_24 rfl ?_
        refine V.iald C (q0 := 8) (t0 := 0) rfl hT (rfl) (by omega) (by omega) dX2_stepsFrom_25 ?_
        refine V.topi (y := nI (σ 8 (Q - 1 - k)).toNatClampNeg) (by rw [jSteps_ne σ Q (by decide)]; exact (hA _ (by omega)).1) ?_
        refine V.icmp_ge C (tgt := 68) dX2_stepsFrom_26 (by decide) (fun c_4 => ?_) (fun c_4 => ?_)
        · refine V.aload_n C dX2_stepsFrom_68 rfl ?_
          refine V.get C (q0 := 1) (k := 4) rfl rfl (by decide) iX2 (by decide +kernel) rfl rfl dX2_stepsFrom_69 ?_
          refine V.iload_n C dX2_stepsFrom_72 rfl ?_
          refine V.iload_n C dX2_stepsFrom_73 rfl ?_
          refine V.iast C (q0 := 10) (t0 := 0) (w' := SW cI h (jSteps σ Q (k + 1))) rfl hT (rfl) (by omega) (by omega) rfl dX2_stepsFrom_74 ?_
          refine V.iinc C (v := nI (Q - 1 - k) - nI 1) dX2_stepsFrom_75 rfl (by rw [show Int32.ofInt (-1) = -nI 1 by decide +kernel, ← Int32.sub_eq_add_neg]) (by decide) rfl ?_
          dsimp only [List.set]
          refine V.goto C (tgt := 7) dX2_stepsFrom_78 (by decide) ?_
          refine V.world (w' := SW cI h (jSteps σ Q (k + 1))) (rfl) ?_
          exact V.sub (M := [some (.ref (h 1)), some (.int (nI q)), some (.int (nI (Q - (k + 1)) - nI 1)), none, none, none]) (lsub_s rfl (lsub_s rfl (lsub_si (by rw [show Q - (k + 1) = Q - 1 - k by omega]) rfl (lsub_n (lsub_n (lsub_n (lsub_e))))))) ih_k
        · exfalso
          exact absurd c_4 (nI_nlt (Nat.le_refl _) (by have := (hA (Q - 1 - k) (by omega)).2; omega))
  · try dsimp only
    refine V.iload_n C dX2_stepsFrom_7 rfl ?_
    refine V.iload_n C dX2_stepsFrom_8 rfl ?_
    refine V.icmp_lt C (tgt := 81) dX2_stepsFrom_9 (by decide) (fun c_5 => ?_) (fun c_5 => ?_)
    · refine V.aload_n C dX2_stepsFrom_81 rfl ?_
      refine V.get C (q0 := 1) (k := 4) rfl rfl (by decide) iX2 (by decide +kernel) rfl rfl dX2_stepsFrom_82 ?_
      refine V.iload_n C dX2_stepsFrom_85 rfl ?_
      refine V.iald C (q0 := 10) (t0 := 0) rfl hT (rfl) (by omega) (by omega) dX2_stepsFrom_86 ?_
      refine hQ _ _ _ _ _ (Or.inr (Or.inl ⟨_, _, dX2_stepsFrom_87, rfl, rfl, rfl, rfl⟩)) ⟨?_, rfl⟩
      rfl
    · exfalso
      exact c_5 (by rw [show Q - (Q - q) = q by omega]; exact jPred q (by omega))
