set_option maxRecDepth 100000 in
set_option maxHeartbeats 8000000 in
theorem ct_L_isFair {l : Launch} {D : va_G} {tys : List (ClassId × FieldType)} {cI : ClassId} {h : Nat → Nat} {σ : Nat → Nat → Int32} (hT : tys[0]? = some (cI, .int)) {N P Q n : Nat} (hV : Inv σ N P Q n) {aA : Nat} {g : Nat → Int32} (hg : ∀ q, q < Q → g q = σ 8 q) : Ct l D tys yL_isFair wsL_isFair ({ frames := 8, cells := 1, slots := 24, locals := 178 } : Room) (SW cI h σ ++ [(aA, .inl (cI, Q, .inl g))]) [.ref (h 0), .int (nI P), .ref aA] (fun r x => r = some (.int (bI true)) ∧ x = SW cI h σ ++ [(aA, .inl (cI, Q, .inl g))]) := by
  refine Ct.of [some (.ref (h 0)), some (.int (nI P)), some (.ref aA), none, none, none, none, none, none, none, none, none] (by decide) rfl rfl (Nat.le_of_ble_eq_true rfl) rfl (fun κ C hQ => ?_)
  have hT0 := hT
  obtain ⟨⟨hN, hN40, hP, hP24, hQz, hQ10, hn0, hn9⟩, -⟩ := id hV
  have hpc := Inv_hpc hV.2.2.2.1
  have hce := Inv_hce hV.2.2.2.2.1 hV.2.2.2.1 hP24
  have hpe := Inv_hpe hV.2.2.2.2.1 hP24
  have hA := Inv_hA hV.2.1
  refine V.iload_n C dL_isFair_0 rfl ?_
  refine V.newarrayI C (N := P) hT (rfl) (by omega) (by decide +kernel) (Nat.le_of_ble_eq_true rfl) (by show 0 + P ≤ 24; omega) dL_isFair_1 (fun aO => ?_)
  refine V.world (w' := SW cI h σ ++ [(aA, .inl (cI, Q, .inl g)), (aO, .inl (cI, P, .inl (onR σ P (0))))]) (by rw [← onR_0]; rfl) ?_
  refine V.widen (k := 1) (n := 24) (by omega) (by omega) ?_
  refine V.astore_n C dL_isFair_3 (by decide) rfl ?_
  dsimp only [List.set, Fin.val]
  refine V.iconst C (v := nI 0) dL_isFair_4 (by decide) ?_
  refine V.istore C dL_isFair_5 (by decide) rfl ?_
  dsimp only [List.set]
  refine V.iconst C (v := nI 0) dL_isFair_7 (by decide) ?_
  refine V.istore C dL_isFair_8 (by decide) rfl ?_
  dsimp only [List.set]
  refine V.loop (N) (fun k => SW cI h σ ++ [(aA, .inl (cI, Q, .inl g)), (aO, .inl (cI, P, .inl (onR σ P (k))))]) (fun k => [some (.ref (h 0)), some (.int (nI P)), some (.ref aA), some (.ref aO), some (.int (jCnt (isS σ 1) k)), some (.int (nI k)), none, none, none, none, none, none]) (fun k hk ih_k => ?_) ?_ (rfl) (lsub_s rfl (lsub_s rfl (lsub_s rfl (lsub_s rfl (lsub_s rfl (lsub_s rfl (lsub_n (lsub_n (lsub_n (lsub_n (lsub_n (lsub_n (lsub_e)))))))))))))
  · try dsimp only
    refine V.iload C dL_isFair_10 rfl ?_
    refine V.aload_n C dL_isFair_12 rfl ?_
    refine V.callSXi C (X := _) (ct_L_interviews hT hV) rfl gL_isFair_L_interviews (n := 1) ⟨by decide, by decide, by decide +kernel⟩ rfl rfl ⟨Nat.le_of_ble_eq_true rfl, Nat.le_of_ble_eq_true rfl⟩ ⟨rfl, rfl, Nat.le_of_ble_eq_true rfl, Nat.le_of_ble_eq_true rfl⟩ (Nat.le_of_ble_eq_true rfl) rfl dL_isFair_13 ?_
    refine V.icmp_ge C (tgt := 170) dL_isFair_16 (by decide) (fun c_1 => ?_) (fun c_1 => ?_)
    · exfalso
      exact c_1 (nI_lt hk (by omega))
    · refine V.aload_n C dL_isFair_19 rfl ?_
      refine V.iload C dL_isFair_20 rfl ?_
      refine V.iconst C (v := nI 1) dL_isFair_22 (by decide) ?_
      refine V.callVXi C (X := _) (ct_X6_ofInterview (i := k) (k := 1) hT hN hN40 (by omega) (by omega)) rfl gL_isFair_X6_ofInterview (n := 2) ⟨rfl, by decide, by decide, by decide +kernel⟩ rfl (q0 := 0) rfl rfl rfl ⟨Nat.le_of_ble_eq_true rfl, Nat.le_of_ble_eq_true rfl⟩ ⟨rfl, rfl, Nat.le_of_ble_eq_true rfl, Nat.le_of_ble_eq_true rfl⟩ (Nat.le_of_ble_eq_true rfl) rfl dL_isFair_23 ?_
      refine V.topi (y := σ 19 k) (rfl) ?_
      refine V.istore C dL_isFair_26 (by decide) rfl ?_
      dsimp only [List.set]
      refine V.aload_n C dL_isFair_28 rfl ?_
      refine V.iload C dL_isFair_29 rfl ?_
      refine V.iconst C (v := nI 0) dL_isFair_31 (by decide) ?_
      refine V.callVXi C (X := _) (ct_X6_ofInterview (i := k) (k := 0) hT hN hN40 (by omega) (by omega)) rfl gL_isFair_X6_ofInterview (n := 2) ⟨rfl, by decide, by decide, by decide +kernel⟩ rfl (q0 := 0) rfl rfl rfl ⟨Nat.le_of_ble_eq_true rfl, Nat.le_of_ble_eq_true rfl⟩ ⟨rfl, rfl, Nat.le_of_ble_eq_true rfl, Nat.le_of_ble_eq_true rfl⟩ (Nat.le_of_ble_eq_true rfl) rfl dL_isFair_32 ?_
      refine V.topi (y := nI (jP σ k)) ((Inv_jP hV.2.2.2.2.1 hP24 hk).2) ?_
      refine V.istore C dL_isFair_35 (by decide) rfl ?_
      dsimp only [List.set]
      refine V.aload_n C dL_isFair_37 rfl ?_
      refine V.iload C dL_isFair_38 rfl ?_
      refine V.dup2 C dL_isFair_40 rfl rfl ?_
      refine V.iald C (q0 := 28) (t0 := 0) rfl hT (rfl) ((Inv_jP hV.2.2.2.2.1 hP24 hk).1) (by omega) dL_isFair_41 ?_
      refine V.iload C dL_isFair_42 rfl ?_
      refine V.iconst C (v := nI 2) dL_isFair_44 (by decide) ?_
      refine V.icmp_ge C (tgt := 52) dL_isFair_45 (by decide) (fun c_2 => ?_) (fun c_2 => ?_)
      · refine V.iconst C (v := nI 0) dL_isFair_52 (by decide) ?_
        refine V.iadd C dL_isFair_53 ?_
        refine V.iast C (q0 := 28) (t0 := 0) (w' := _) rfl hT (rfl) ((Inv_jP hV.2.2.2.2.1 hP24 hk).1) (by omega) rfl dL_isFair_54 ?_
        refine V.world (w' := SW cI h σ ++ [(aA, .inl (cI, Q, .inl g)), (aO, .inl (cI, P, .inl (onR σ P (k + 1))))]) (congrArg (fun f => SW cI h σ ++ [(aA, Sum.inl (cI, (Q, Sum.inl g))), (aO, Sum.inl (cI, (P, Sum.inl f)))]) (onR_s hV hk (by first | exact Or.inl ⟨by assumption, rfl⟩ | exact Or.inr ⟨by assumption, rfl⟩))) ?_
        refine V.iload C dL_isFair_55 rfl ?_
        refine V.iload C dL_isFair_57 rfl ?_
        refine V.iconst C (v := nI 1) dL_isFair_59 (by decide) ?_
        refine V.icmp_ne C (tgt := 67) dL_isFair_60 (by decide) (fun c_3 => ?_) (fun c_3 => ?_)
        · refine V.iconst C (v := nI 0) dL_isFair_67 (by decide) ?_
          refine V.iadd C dL_isFair_68 ?_
          refine V.topi (y := jCnt (isS σ 1) (k + 1)) (by first | exact cnt_t (isS_eq (by assumption)) | exact cnt_f (decide_eq_false (by assumption))) ?_
          refine V.istore C dL_isFair_69 (by decide) rfl ?_
          dsimp only [List.set]
          refine V.iload C dL_isFair_71 rfl ?_
          refine V.iconst C (v := nI 1) dL_isFair_73 (by decide) ?_
          refine V.icmp_eq C (tgt := 98) dL_isFair_74 (by decide) (fun c_4 => ?_) (fun c_4 => ?_)
          · refine V.iconst C (v := nI 0) dL_isFair_98 (by decide) ?_
            refine V.istore C dL_isFair_99 (by decide) rfl ?_
            dsimp only [List.set]
            refine V.iconst C (v := nI 0) dL_isFair_101 (by decide) ?_
            refine V.istore C dL_isFair_102 (by decide) rfl ?_
            dsimp only [List.set]
            refine V.loop (Q) (fun q => SW cI h σ ++ [(aA, .inl (cI, Q, .inl g)), (aO, .inl (cI, P, .inl (onR σ P (k + 1))))]) (fun q => [some (.ref (h 0)), some (.int (nI P)), some (.ref aA), some (.ref aO), some (.int (jCnt (isS σ 1) (k + 1))), some (.int (nI k)), none, none, some (.int (jCnt (fun q => decide (jGiven σ k q ≠ -1)) q)), some (.int (nI q)), none, none]) (fun q hq ih_q => ?_) ?_ (rfl) (lsub_s rfl (lsub_s rfl (lsub_s rfl (lsub_s rfl (lsub_s rfl (lsub_s rfl (lsub_n (lsub_n (lsub_s rfl (lsub_s rfl (lsub_n (lsub_n (lsub_e)))))))))))))
            · try dsimp only
              refine V.iload C dL_isFair_104 rfl ?_
              refine V.aload_n C dL_isFair_106 rfl ?_
              refine V.alen C (q0 := 27) (t0 := 0) rfl hT dL_isFair_107 ?_
              refine V.topi (y := nI Q) (rfl) ?_
              refine V.icmp_ge C (tgt := 138) dL_isFair_108 (by decide) (fun c_5 => ?_) (fun c_5 => ?_)
              · exfalso
                exact c_5 (nI_lt hq (by omega))
              · refine V.iload C dL_isFair_111 rfl ?_
                refine V.aload_n C dL_isFair_113 rfl ?_
                refine V.iload C dL_isFair_114 rfl ?_
                refine V.iload C dL_isFair_116 rfl ?_
                refine V.callVXi C (X := _) (ct_X6_given (i := k) (q := q) hT hN hN40 hQz hQ10 (by omega) (by omega)) rfl gL_isFair_X6_given (n := 2) ⟨rfl, by decide, by decide, by decide +kernel⟩ rfl (q0 := 0) rfl rfl rfl ⟨Nat.le_of_ble_eq_true rfl, Nat.le_of_ble_eq_true rfl⟩ ⟨rfl, rfl, Nat.le_of_ble_eq_true rfl, Nat.le_of_ble_eq_true rfl⟩ (Nat.le_of_ble_eq_true rfl) rfl dL_isFair_118 ?_
                refine V.topi (y := jGiven σ k q) (rfl) ?_
                refine V.if_ge C (tgt := 128) dL_isFair_121 (by decide) (fun c_6 => ?_) (fun c_6 => ?_)
                · refine V.iconst C (v := nI 1) dL_isFair_128 (by decide) ?_
                  refine V.iadd C dL_isFair_129 ?_
                  refine V.topi (y := jCnt (fun q => decide (jGiven σ k q ≠ -1)) (q + 1)) (by first | exact cnt_t (decide_eq_true ((given_b hV hk hq).mp (by assumption))) | exact cnt_f (decide_eq_false (fun z => (given_b hV hk hq).mpr z (by assumption)))) ?_
                  refine V.istore C dL_isFair_130 (by decide) rfl ?_
                  dsimp only [List.set]
                  refine V.iinc C (v := nI (q + 1)) dL_isFair_132 rfl (nI_inc q) (by decide) rfl ?_
                  dsimp only [List.set]
                  refine V.goto C (tgt := 104) dL_isFair_135 (by decide) ?_
                  exact V.sub (M := [some (.ref (h 0)), some (.int (nI P)), some (.ref aA), some (.ref aO), some (.int (jCnt (isS σ 1) (k + 1))), some (.int (nI k)), none, none, some (.int (jCnt (fun q => decide (jGiven σ k q ≠ -1)) (q + 1))), some (.int (nI (q + 1))), none, none]) (lsub_s rfl (lsub_s rfl (lsub_s rfl (lsub_s rfl (lsub_s rfl (lsub_s rfl (lsub_n (lsub_n (lsub_s rfl (lsub_s rfl (lsub_n (lsub_n (lsub_e))))))))))))) ih_q
                · refine V.iconst C (v := nI 0) dL_isFair_124 (by decide) ?_
                  refine V.goto C (tgt := 129) dL_isFair_125 (by decide) ?_
                  refine V.iadd C dL_isFair_129 ?_
                  refine V.topi (y := jCnt (fun q => decide (jGiven σ k q ≠ -1)) (q + 1)) (by first | exact cnt_t (decide_eq_true ((given_b hV hk hq).mp (by assumption))) | exact cnt_f (decide_eq_false (fun z => (given_b hV hk hq).mpr z (by assumption)))) ?_
                  refine V.istore C dL_isFair_130 (by decide) rfl ?_
                  dsimp only [List.set]
                  refine V.iinc C (v := nI (q + 1)) dL_isFair_132 rfl (nI_inc q) (by decide) rfl ?_
                  dsimp only [List.set]
                  refine V.goto C (tgt := 104) dL_isFair_135 (by decide) ?_
                  exact V.sub (M := [some (.ref (h 0)), some (.int (nI P)), some (.ref aA), some (.ref aO), some (.int (jCnt (isS σ 1) (k + 1))), some (.int (nI k)), none, none, some (.int (jCnt (fun q => decide (jGiven σ k q ≠ -1)) (q + 1))), some (.int (nI (q + 1))), none, none]) (lsub_s rfl (lsub_s rfl (lsub_s rfl (lsub_s rfl (lsub_s rfl (lsub_s rfl (lsub_n (lsub_n (lsub_s rfl (lsub_s rfl (lsub_n (lsub_n (lsub_e))))))))))))) ih_q
            · try dsimp only
              refine V.iload C dL_isFair_104 rfl ?_
              refine V.aload_n C dL_isFair_106 rfl ?_
              refine V.alen C (q0 := 27) (t0 := 0) rfl hT dL_isFair_107 ?_
              refine V.topi (y := nI Q) (rfl) ?_
              refine V.icmp_ge C (tgt := 138) dL_isFair_108 (by decide) (fun c_7 => ?_) (fun c_7 => ?_)
              · refine V.iload C dL_isFair_138 rfl ?_
                refine V.aload_n C dL_isFair_140 rfl ?_
                refine V.iload C dL_isFair_141 rfl ?_
                refine V.iconst C (v := nI 3) dL_isFair_143 (by decide) ?_
                refine V.callVXi C (X := _) (ct_X6_ofInterview (i := k) (k := 3) hT hN hN40 (by omega) (by omega)) rfl gL_isFair_X6_ofInterview (n := 2) ⟨rfl, by decide, by decide, by decide +kernel⟩ rfl (q0 := 0) rfl rfl rfl ⟨Nat.le_of_ble_eq_true rfl, Nat.le_of_ble_eq_true rfl⟩ ⟨rfl, rfl, Nat.le_of_ble_eq_true rfl, Nat.le_of_ble_eq_true rfl⟩ (Nat.le_of_ble_eq_true rfl) rfl dL_isFair_144 ?_
                refine V.topi (y := σ 21 k) (rfl) ?_
                refine V.icmp_ne C (tgt := 162) dL_isFair_147 (by decide) (fun c_8 => ?_) (fun c_8 => ?_)
                · exfalso
                  exact c_8 (secs_ok hV hk).1.symm
                · refine V.aload_n C dL_isFair_150 rfl ?_
                  refine V.iload C dL_isFair_151 rfl ?_
                  refine V.iconst C (v := nI 4) dL_isFair_153 (by decide) ?_
                  refine V.callVXi C (X := _) (ct_X6_ofInterview (i := k) (k := 4) hT hN hN40 (by omega) (by omega)) rfl gL_isFair_X6_ofInterview (n := 2) ⟨rfl, by decide, by decide, by decide +kernel⟩ rfl (q0 := 0) rfl rfl rfl ⟨Nat.le_of_ble_eq_true rfl, Nat.le_of_ble_eq_true rfl⟩ ⟨rfl, rfl, Nat.le_of_ble_eq_true rfl, Nat.le_of_ble_eq_true rfl⟩ (Nat.le_of_ble_eq_true rfl) rfl dL_isFair_154 ?_
                  refine V.topi (y := σ 22 k) (rfl) ?_
                  refine V.iload C dL_isFair_157 rfl ?_
                  refine V.icmp_ge C (tgt := 164) dL_isFair_159 (by decide) (fun c_9 => ?_) (fun c_9 => ?_)
                  · refine V.iinc C (v := nI (k + 1)) dL_isFair_164 rfl (nI_inc k) (by decide) rfl ?_
                    dsimp only [List.set]
                    refine V.goto C (tgt := 10) dL_isFair_167 (by decide) ?_
                    refine V.world (w' := SW cI h σ ++ [(aA, .inl (cI, Q, .inl g)), (aO, .inl (cI, P, .inl (onR σ P ((k + 1)))))]) (rfl) ?_
                    exact V.sub (M := [some (.ref (h 0)), some (.int (nI P)), some (.ref aA), some (.ref aO), some (.int (jCnt (isS σ 1) (k + 1))), some (.int (nI (k + 1))), none, none, none, none, none, none]) (lsub_s rfl (lsub_s rfl (lsub_s rfl (lsub_s rfl (lsub_s rfl (lsub_s rfl (lsub_n (lsub_n (lsub_n (lsub_n (lsub_n (lsub_n (lsub_e))))))))))))) ih_k
                  · exfalso
                    exact (secs_ok hV hk).2 c_9
              · exfalso
                exact absurd c_7 (nI_nlt (Nat.le_refl _) (by omega))
          · refine V.aload_n C dL_isFair_77 rfl ?_
            refine V.iload C dL_isFair_78 rfl ?_
            refine V.iconst C (v := nI 5) dL_isFair_80 (by decide) ?_
            refine V.callVXi C (X := _) (ct_X6_ofInterview (i := k) (k := 5) hT hN hN40 (by omega) (by omega)) rfl gL_isFair_X6_ofInterview (n := 2) ⟨rfl, by decide, by decide, by decide +kernel⟩ rfl (q0 := 0) rfl rfl rfl ⟨Nat.le_of_ble_eq_true rfl, Nat.le_of_ble_eq_true rfl⟩ ⟨rfl, rfl, Nat.le_of_ble_eq_true rfl, Nat.le_of_ble_eq_true rfl⟩ (Nat.le_of_ble_eq_true rfl) rfl dL_isFair_81 ?_
            refine V.aload_n C dL_isFair_84 rfl ?_
            refine V.iload C dL_isFair_85 rfl ?_
            refine V.bipush C (v := nI 6) dL_isFair_87 (by decide) ?_
            refine V.callVXi C (X := _) (ct_X6_ofInterview (i := k) (k := 6) hT hN hN40 (by omega) (by omega)) rfl gL_isFair_X6_ofInterview (n := 2) ⟨rfl, by decide, by decide, by decide +kernel⟩ rfl (q0 := 0) rfl rfl rfl ⟨Nat.le_of_ble_eq_true rfl, Nat.le_of_ble_eq_true rfl⟩ ⟨rfl, rfl, Nat.le_of_ble_eq_true rfl, Nat.le_of_ble_eq_true rfl⟩ (Nat.le_of_ble_eq_true rfl) rfl dL_isFair_89 ?_
            refine V.iadd C dL_isFair_92 ?_
            refine V.topi (y := 0) (not_done hV hk (by assumption)) ?_
            refine V.if_eq C (tgt := 98) dL_isFair_93 (by decide) (fun c_10 => ?_) (fun c_10 => ?_)
            · refine V.iconst C (v := nI 0) dL_isFair_98 (by decide) ?_
              refine V.istore C dL_isFair_99 (by decide) rfl ?_
              dsimp only [List.set]
              refine V.iconst C (v := nI 0) dL_isFair_101 (by decide) ?_
              refine V.istore C dL_isFair_102 (by decide) rfl ?_
              dsimp only [List.set]
              refine V.loop (Q) (fun q => SW cI h σ ++ [(aA, .inl (cI, Q, .inl g)), (aO, .inl (cI, P, .inl (onR σ P (k + 1))))]) (fun q => [some (.ref (h 0)), some (.int (nI P)), some (.ref aA), some (.ref aO), some (.int (jCnt (isS σ 1) (k + 1))), some (.int (nI k)), none, none, some (.int (jCnt (fun q => decide (jGiven σ k q ≠ -1)) q)), some (.int (nI q)), none, none]) (fun q hq ih_q => ?_) ?_ (rfl) (lsub_s rfl (lsub_s rfl (lsub_s rfl (lsub_s rfl (lsub_s rfl (lsub_s rfl (lsub_n (lsub_n (lsub_s rfl (lsub_s rfl (lsub_n (lsub_n (lsub_e)))))))))))))
              · try dsimp only
                refine V.iload C dL_isFair_104 rfl ?_
                refine V.aload_n C dL_isFair_106 rfl ?_
                refine V.alen C (q0 := 27) (t0 := 0) rfl hT dL_isFair_107 ?_
                refine V.topi (y := nI Q) (rfl) ?_
                refine V.icmp_ge C (tgt := 138) dL_isFair_108 (by decide) (fun c_11 => ?_) (fun c_11 => ?_)
                · exfalso
                  exact c_11 (nI_lt hq (by omega))
                · refine V.iload C dL_isFair_111 rfl ?_
                  refine V.aload_n C dL_isFair_113 rfl ?_
                  refine V.iload C dL_isFair_114 rfl ?_
                  refine V.iload C dL_isFair_116 rfl ?_
                  refine V.callVXi C (X := _) (ct_X6_given (i := k) (q := q) hT hN hN40 hQz hQ10 (by omega) (by omega)) rfl gL_isFair_X6_given (n := 2) ⟨rfl, by decide, by decide, by decide +kernel⟩ rfl (q0 := 0) rfl rfl rfl ⟨Nat.le_of_ble_eq_true rfl, Nat.le_of_ble_eq_true rfl⟩ ⟨rfl, rfl, Nat.le_of_ble_eq_true rfl, Nat.le_of_ble_eq_true rfl⟩ (Nat.le_of_ble_eq_true rfl) rfl dL_isFair_118 ?_
                  refine V.topi (y := jGiven σ k q) (rfl) ?_
                  refine V.if_ge C (tgt := 128) dL_isFair_121 (by decide) (fun c_12 => ?_) (fun c_12 => ?_)
                  · refine V.iconst C (v := nI 1) dL_isFair_128 (by decide) ?_
                    refine V.iadd C dL_isFair_129 ?_
                    refine V.topi (y := jCnt (fun q => decide (jGiven σ k q ≠ -1)) (q + 1)) (by first | exact cnt_t (decide_eq_true ((given_b hV hk hq).mp (by assumption))) | exact cnt_f (decide_eq_false (fun z => (given_b hV hk hq).mpr z (by assumption)))) ?_
                    refine V.istore C dL_isFair_130 (by decide) rfl ?_
                    dsimp only [List.set]
                    refine V.iinc C (v := nI (q + 1)) dL_isFair_132 rfl (nI_inc q) (by decide) rfl ?_
                    dsimp only [List.set]
                    refine V.goto C (tgt := 104) dL_isFair_135 (by decide) ?_
                    exact V.sub (M := [some (.ref (h 0)), some (.int (nI P)), some (.ref aA), some (.ref aO), some (.int (jCnt (isS σ 1) (k + 1))), some (.int (nI k)), none, none, some (.int (jCnt (fun q => decide (jGiven σ k q ≠ -1)) (q + 1))), some (.int (nI (q + 1))), none, none]) (lsub_s rfl (lsub_s rfl (lsub_s rfl (lsub_s rfl (lsub_s rfl (lsub_s rfl (lsub_n (lsub_n (lsub_s rfl (lsub_s rfl (lsub_n (lsub_n (lsub_e))))))))))))) ih_q
                  · refine V.iconst C (v := nI 0) dL_isFair_124 (by decide) ?_
                    refine V.goto C (tgt := 129) dL_isFair_125 (by decide) ?_
                    refine V.iadd C dL_isFair_129 ?_
                    refine V.topi (y := jCnt (fun q => decide (jGiven σ k q ≠ -1)) (q + 1)) (by first | exact cnt_t (decide_eq_true ((given_b hV hk hq).mp (by assumption))) | exact cnt_f (decide_eq_false (fun z => (given_b hV hk hq).mpr z (by assumption)))) ?_
                    refine V.istore C dL_isFair_130 (by decide) rfl ?_
                    dsimp only [List.set]
                    refine V.iinc C (v := nI (q + 1)) dL_isFair_132 rfl (nI_inc q) (by decide) rfl ?_
                    dsimp only [List.set]
                    refine V.goto C (tgt := 104) dL_isFair_135 (by decide) ?_
                    exact V.sub (M := [some (.ref (h 0)), some (.int (nI P)), some (.ref aA), some (.ref aO), some (.int (jCnt (isS σ 1) (k + 1))), some (.int (nI k)), none, none, some (.int (jCnt (fun q => decide (jGiven σ k q ≠ -1)) (q + 1))), some (.int (nI (q + 1))), none, none]) (lsub_s rfl (lsub_s rfl (lsub_s rfl (lsub_s rfl (lsub_s rfl (lsub_s rfl (lsub_n (lsub_n (lsub_s rfl (lsub_s rfl (lsub_n (lsub_n (lsub_e))))))))))))) ih_q
              · try dsimp only
                refine V.iload C dL_isFair_104 rfl ?_
                refine V.aload_n C dL_isFair_106 rfl ?_
                refine V.alen C (q0 := 27) (t0 := 0) rfl hT dL_isFair_107 ?_
                refine V.topi (y := nI Q) (rfl) ?_
                refine V.icmp_ge C (tgt := 138) dL_isFair_108 (by decide) (fun c_13 => ?_) (fun c_13 => ?_)
                · refine V.iload C dL_isFair_138 rfl ?_
                  refine V.aload_n C dL_isFair_140 rfl ?_
                  refine V.iload C dL_isFair_141 rfl ?_
                  refine V.iconst C (v := nI 3) dL_isFair_143 (by decide) ?_
                  refine V.callVXi C (X := _) (ct_X6_ofInterview (i := k) (k := 3) hT hN hN40 (by omega) (by omega)) rfl gL_isFair_X6_ofInterview (n := 2) ⟨rfl, by decide, by decide, by decide +kernel⟩ rfl (q0 := 0) rfl rfl rfl ⟨Nat.le_of_ble_eq_true rfl, Nat.le_of_ble_eq_true rfl⟩ ⟨rfl, rfl, Nat.le_of_ble_eq_true rfl, Nat.le_of_ble_eq_true rfl⟩ (Nat.le_of_ble_eq_true rfl) rfl dL_isFair_144 ?_
                  refine V.topi (y := σ 21 k) (rfl) ?_
                  refine V.icmp_ne C (tgt := 162) dL_isFair_147 (by decide) (fun c_14 => ?_) (fun c_14 => ?_)
                  · exfalso
                    exact c_14 (secs_ok hV hk).1.symm
                  · refine V.aload_n C dL_isFair_150 rfl ?_
                    refine V.iload C dL_isFair_151 rfl ?_
                    refine V.iconst C (v := nI 4) dL_isFair_153 (by decide) ?_
                    refine V.callVXi C (X := _) (ct_X6_ofInterview (i := k) (k := 4) hT hN hN40 (by omega) (by omega)) rfl gL_isFair_X6_ofInterview (n := 2) ⟨rfl, by decide, by decide, by decide +kernel⟩ rfl (q0 := 0) rfl rfl rfl ⟨Nat.le_of_ble_eq_true rfl, Nat.le_of_ble_eq_true rfl⟩ ⟨rfl, rfl, Nat.le_of_ble_eq_true rfl, Nat.le_of_ble_eq_true rfl⟩ (Nat.le_of_ble_eq_true rfl) rfl dL_isFair_154 ?_
                    refine V.topi (y := σ 22 k) (rfl) ?_
                    refine V.iload C dL_isFair_157 rfl ?_
                    refine V.icmp_ge C (tgt := 164) dL_isFair_159 (by decide) (fun c_15 => ?_) (fun c_15 => ?_)
                    · refine V.iinc C (v := nI (k + 1)) dL_isFair_164 rfl (nI_inc k) (by decide) rfl ?_
                      dsimp only [List.set]
                      refine V.goto C (tgt := 10) dL_isFair_167 (by decide) ?_
                      refine V.world (w' := SW cI h σ ++ [(aA, .inl (cI, Q, .inl g)), (aO, .inl (cI, P, .inl (onR σ P ((k + 1)))))]) (rfl) ?_
                      exact V.sub (M := [some (.ref (h 0)), some (.int (nI P)), some (.ref aA), some (.ref aO), some (.int (jCnt (isS σ 1) (k + 1))), some (.int (nI (k + 1))), none, none, none, none, none, none]) (lsub_s rfl (lsub_s rfl (lsub_s rfl (lsub_s rfl (lsub_s rfl (lsub_s rfl (lsub_n (lsub_n (lsub_n (lsub_n (lsub_n (lsub_n (lsub_e))))))))))))) ih_k
                    · exfalso
                      exact (secs_ok hV hk).2 c_15
                · exfalso
                  exact absurd c_13 (nI_nlt (Nat.le_refl _) (by omega))
            · exfalso
              exact c_10 rfl
        · refine V.iconst C (v := nI 1) dL_isFair_63 (by decide) ?_
          refine V.goto C (tgt := 68) dL_isFair_64 (by decide) ?_
          refine V.iadd C dL_isFair_68 ?_
          refine V.topi (y := jCnt (isS σ 1) (k + 1)) (by first | exact cnt_t (isS_eq (by assumption)) | exact cnt_f (decide_eq_false (by assumption))) ?_
          refine V.istore C dL_isFair_69 (by decide) rfl ?_
          dsimp only [List.set]
          refine V.iload C dL_isFair_71 rfl ?_
          refine V.iconst C (v := nI 1) dL_isFair_73 (by decide) ?_
          refine V.icmp_eq C (tgt := 98) dL_isFair_74 (by decide) (fun c_16 => ?_) (fun c_16 => ?_)
          · refine V.iconst C (v := nI 0) dL_isFair_98 (by decide) ?_
            refine V.istore C dL_isFair_99 (by decide) rfl ?_
            dsimp only [List.set]
            refine V.iconst C (v := nI 0) dL_isFair_101 (by decide) ?_
            refine V.istore C dL_isFair_102 (by decide) rfl ?_
            dsimp only [List.set]
            refine V.loop (Q) (fun q => SW cI h σ ++ [(aA, .inl (cI, Q, .inl g)), (aO, .inl (cI, P, .inl (onR σ P (k + 1))))]) (fun q => [some (.ref (h 0)), some (.int (nI P)), some (.ref aA), some (.ref aO), some (.int (jCnt (isS σ 1) (k + 1))), some (.int (nI k)), none, none, some (.int (jCnt (fun q => decide (jGiven σ k q ≠ -1)) q)), some (.int (nI q)), none, none]) (fun q hq ih_q => ?_) ?_ (rfl) (lsub_s rfl (lsub_s rfl (lsub_s rfl (lsub_s rfl (lsub_s rfl (lsub_s rfl (lsub_n (lsub_n (lsub_s rfl (lsub_s rfl (lsub_n (lsub_n (lsub_e)))))))))))))
            · try dsimp only
              refine V.iload C dL_isFair_104 rfl ?_
              refine V.aload_n C dL_isFair_106 rfl ?_
              refine V.alen C (q0 := 27) (t0 := 0) rfl hT dL_isFair_107 ?_
              refine V.topi (y := nI Q) (rfl) ?_
              refine V.icmp_ge C (tgt := 138) dL_isFair_108 (by decide) (fun c_17 => ?_) (fun c_17 => ?_)
              · exfalso
                exact c_17 (nI_lt hq (by omega))
              · refine V.iload C dL_isFair_111 rfl ?_
                refine V.aload_n C dL_isFair_113 rfl ?_
                refine V.iload C dL_isFair_114 rfl ?_
                refine V.iload C dL_isFair_116 rfl ?_
                refine V.callVXi C (X := _) (ct_X6_given (i := k) (q := q) hT hN hN40 hQz hQ10 (by omega) (by omega)) rfl gL_isFair_X6_given (n := 2) ⟨rfl, by decide, by decide, by decide +kernel⟩ rfl (q0 := 0) rfl rfl rfl ⟨Nat.le_of_ble_eq_true rfl, Nat.le_of_ble_eq_true rfl⟩ ⟨rfl, rfl, Nat.le_of_ble_eq_true rfl, Nat.le_of_ble_eq_true rfl⟩ (Nat.le_of_ble_eq_true rfl) rfl dL_isFair_118 ?_
                refine V.topi (y := jGiven σ k q) (rfl) ?_
                refine V.if_ge C (tgt := 128) dL_isFair_121 (by decide) (fun c_18 => ?_) (fun c_18 => ?_)
                · refine V.iconst C (v := nI 1) dL_isFair_128 (by decide) ?_
                  refine V.iadd C dL_isFair_129 ?_
                  refine V.topi (y := jCnt (fun q => decide (jGiven σ k q ≠ -1)) (q + 1)) (by first | exact cnt_t (decide_eq_true ((given_b hV hk hq).mp (by assumption))) | exact cnt_f (decide_eq_false (fun z => (given_b hV hk hq).mpr z (by assumption)))) ?_
                  refine V.istore C dL_isFair_130 (by decide) rfl ?_
                  dsimp only [List.set]
                  refine V.iinc C (v := nI (q + 1)) dL_isFair_132 rfl (nI_inc q) (by decide) rfl ?_
                  dsimp only [List.set]
                  refine V.goto C (tgt := 104) dL_isFair_135 (by decide) ?_
                  exact V.sub (M := [some (.ref (h 0)), some (.int (nI P)), some (.ref aA), some (.ref aO), some (.int (jCnt (isS σ 1) (k + 1))), some (.int (nI k)), none, none, some (.int (jCnt (fun q => decide (jGiven σ k q ≠ -1)) (q + 1))), some (.int (nI (q + 1))), none, none]) (lsub_s rfl (lsub_s rfl (lsub_s rfl (lsub_s rfl (lsub_s rfl (lsub_s rfl (lsub_n (lsub_n (lsub_s rfl (lsub_s rfl (lsub_n (lsub_n (lsub_e))))))))))))) ih_q
                · refine V.iconst C (v := nI 0) dL_isFair_124 (by decide) ?_
                  refine V.goto C (tgt := 129) dL_isFair_125 (by decide) ?_
                  refine V.iadd C dL_isFair_129 ?_
                  refine V.topi (y := jCnt (fun q => decide (jGiven σ k q ≠ -1)) (q + 1)) (by first | exact cnt_t (decide_eq_true ((given_b hV hk hq).mp (by assumption))) | exact cnt_f (decide_eq_false (fun z => (given_b hV hk hq).mpr z (by assumption)))) ?_
                  refine V.istore C dL_isFair_130 (by decide) rfl ?_
                  dsimp only [List.set]
                  refine V.iinc C (v := nI (q + 1)) dL_isFair_132 rfl (nI_inc q) (by decide) rfl ?_
                  dsimp only [List.set]
                  refine V.goto C (tgt := 104) dL_isFair_135 (by decide) ?_
                  exact V.sub (M := [some (.ref (h 0)), some (.int (nI P)), some (.ref aA), some (.ref aO), some (.int (jCnt (isS σ 1) (k + 1))), some (.int (nI k)), none, none, some (.int (jCnt (fun q => decide (jGiven σ k q ≠ -1)) (q + 1))), some (.int (nI (q + 1))), none, none]) (lsub_s rfl (lsub_s rfl (lsub_s rfl (lsub_s rfl (lsub_s rfl (lsub_s rfl (lsub_n (lsub_n (lsub_s rfl (lsub_s rfl (lsub_n (lsub_n (lsub_e))))))))))))) ih_q
            · try dsimp only
              refine V.iload C dL_isFair_104 rfl ?_
              refine V.aload_n C dL_isFair_106 rfl ?_
              refine V.alen C (q0 := 27) (t0 := 0) rfl hT dL_isFair_107 ?_
              refine V.topi (y := nI Q) (rfl) ?_
              refine V.icmp_ge C (tgt := 138) dL_isFair_108 (by decide) (fun c_19 => ?_) (fun c_19 => ?_)
              · refine V.iload C dL_isFair_138 rfl ?_
                refine V.aload_n C dL_isFair_140 rfl ?_
                refine V.iload C dL_isFair_141 rfl ?_
                refine V.iconst C (v := nI 3) dL_isFair_143 (by decide) ?_
                refine V.callVXi C (X := _) (ct_X6_ofInterview (i := k) (k := 3) hT hN hN40 (by omega) (by omega)) rfl gL_isFair_X6_ofInterview (n := 2) ⟨rfl, by decide, by decide, by decide +kernel⟩ rfl (q0 := 0) rfl rfl rfl ⟨Nat.le_of_ble_eq_true rfl, Nat.le_of_ble_eq_true rfl⟩ ⟨rfl, rfl, Nat.le_of_ble_eq_true rfl, Nat.le_of_ble_eq_true rfl⟩ (Nat.le_of_ble_eq_true rfl) rfl dL_isFair_144 ?_
                refine V.topi (y := σ 21 k) (rfl) ?_
                refine V.icmp_ne C (tgt := 162) dL_isFair_147 (by decide) (fun c_20 => ?_) (fun c_20 => ?_)
                · exfalso
                  exact c_20 (secs_ok hV hk).1.symm
                · refine V.aload_n C dL_isFair_150 rfl ?_
                  refine V.iload C dL_isFair_151 rfl ?_
                  refine V.iconst C (v := nI 4) dL_isFair_153 (by decide) ?_
                  refine V.callVXi C (X := _) (ct_X6_ofInterview (i := k) (k := 4) hT hN hN40 (by omega) (by omega)) rfl gL_isFair_X6_ofInterview (n := 2) ⟨rfl, by decide, by decide, by decide +kernel⟩ rfl (q0 := 0) rfl rfl rfl ⟨Nat.le_of_ble_eq_true rfl, Nat.le_of_ble_eq_true rfl⟩ ⟨rfl, rfl, Nat.le_of_ble_eq_true rfl, Nat.le_of_ble_eq_true rfl⟩ (Nat.le_of_ble_eq_true rfl) rfl dL_isFair_154 ?_
                  refine V.topi (y := σ 22 k) (rfl) ?_
                  refine V.iload C dL_isFair_157 rfl ?_
                  refine V.icmp_ge C (tgt := 164) dL_isFair_159 (by decide) (fun c_21 => ?_) (fun c_21 => ?_)
                  · refine V.iinc C (v := nI (k + 1)) dL_isFair_164 rfl (nI_inc k) (by decide) rfl ?_
                    dsimp only [List.set]
                    refine V.goto C (tgt := 10) dL_isFair_167 (by decide) ?_
                    refine V.world (w' := SW cI h σ ++ [(aA, .inl (cI, Q, .inl g)), (aO, .inl (cI, P, .inl (onR σ P ((k + 1)))))]) (rfl) ?_
                    exact V.sub (M := [some (.ref (h 0)), some (.int (nI P)), some (.ref aA), some (.ref aO), some (.int (jCnt (isS σ 1) (k + 1))), some (.int (nI (k + 1))), none, none, none, none, none, none]) (lsub_s rfl (lsub_s rfl (lsub_s rfl (lsub_s rfl (lsub_s rfl (lsub_s rfl (lsub_n (lsub_n (lsub_n (lsub_n (lsub_n (lsub_n (lsub_e))))))))))))) ih_k
                  · exfalso
                    exact (secs_ok hV hk).2 c_21
              · exfalso
                exact absurd c_19 (nI_nlt (Nat.le_refl _) (by omega))
          · refine V.aload_n C dL_isFair_77 rfl ?_
            refine V.iload C dL_isFair_78 rfl ?_
            refine V.iconst C (v := nI 5) dL_isFair_80 (by decide) ?_
            refine V.callVXi C (X := _) (ct_X6_ofInterview (i := k) (k := 5) hT hN hN40 (by omega) (by omega)) rfl gL_isFair_X6_ofInterview (n := 2) ⟨rfl, by decide, by decide, by decide +kernel⟩ rfl (q0 := 0) rfl rfl rfl ⟨Nat.le_of_ble_eq_true rfl, Nat.le_of_ble_eq_true rfl⟩ ⟨rfl, rfl, Nat.le_of_ble_eq_true rfl, Nat.le_of_ble_eq_true rfl⟩ (Nat.le_of_ble_eq_true rfl) rfl dL_isFair_81 ?_
            refine V.aload_n C dL_isFair_84 rfl ?_
            refine V.iload C dL_isFair_85 rfl ?_
            refine V.bipush C (v := nI 6) dL_isFair_87 (by decide) ?_
            refine V.callVXi C (X := _) (ct_X6_ofInterview (i := k) (k := 6) hT hN hN40 (by omega) (by omega)) rfl gL_isFair_X6_ofInterview (n := 2) ⟨rfl, by decide, by decide, by decide +kernel⟩ rfl (q0 := 0) rfl rfl rfl ⟨Nat.le_of_ble_eq_true rfl, Nat.le_of_ble_eq_true rfl⟩ ⟨rfl, rfl, Nat.le_of_ble_eq_true rfl, Nat.le_of_ble_eq_true rfl⟩ (Nat.le_of_ble_eq_true rfl) rfl dL_isFair_89 ?_
            refine V.iadd C dL_isFair_92 ?_
            refine V.topi (y := 0) (not_done hV hk (by assumption)) ?_
            refine V.if_eq C (tgt := 98) dL_isFair_93 (by decide) (fun c_22 => ?_) (fun c_22 => ?_)
            · refine V.iconst C (v := nI 0) dL_isFair_98 (by decide) ?_
              refine V.istore C dL_isFair_99 (by decide) rfl ?_
              dsimp only [List.set]
              refine V.iconst C (v := nI 0) dL_isFair_101 (by decide) ?_
              refine V.istore C dL_isFair_102 (by decide) rfl ?_
              dsimp only [List.set]
              refine V.loop (Q) (fun q => SW cI h σ ++ [(aA, .inl (cI, Q, .inl g)), (aO, .inl (cI, P, .inl (onR σ P (k + 1))))]) (fun q => [some (.ref (h 0)), some (.int (nI P)), some (.ref aA), some (.ref aO), some (.int (jCnt (isS σ 1) (k + 1))), some (.int (nI k)), none, none, some (.int (jCnt (fun q => decide (jGiven σ k q ≠ -1)) q)), some (.int (nI q)), none, none]) (fun q hq ih_q => ?_) ?_ (rfl) (lsub_s rfl (lsub_s rfl (lsub_s rfl (lsub_s rfl (lsub_s rfl (lsub_s rfl (lsub_n (lsub_n (lsub_s rfl (lsub_s rfl (lsub_n (lsub_n (lsub_e)))))))))))))
              · try dsimp only
                refine V.iload C dL_isFair_104 rfl ?_
                refine V.aload_n C dL_isFair_106 rfl ?_
                refine V.alen C (q0 := 27) (t0 := 0) rfl hT dL_isFair_107 ?_
                refine V.topi (y := nI Q) (rfl) ?_
                refine V.icmp_ge C (tgt := 138) dL_isFair_108 (by decide) (fun c_23 => ?_) (fun c_23 => ?_)
                · exfalso
                  exact c_23 (nI_lt hq (by omega))
                · refine V.iload C dL_isFair_111 rfl ?_
                  refine V.aload_n C dL_isFair_113 rfl ?_
                  refine V.iload C dL_isFair_114 rfl ?_
                  refine V.iload C dL_isFair_116 rfl ?_
                  refine V.callVXi C (X := _) (ct_X6_given (i := k) (q := q) hT hN hN40 hQz hQ10 (by omega) (by omega)) rfl gL_isFair_X6_given (n := 2) ⟨rfl, by decide, by decide, by decide +kernel⟩ rfl (q0 := 0) rfl rfl rfl ⟨Nat.le_of_ble_eq_true rfl, Nat.le_of_ble_eq_true rfl⟩ ⟨rfl, rfl, Nat.le_of_ble_eq_true rfl, Nat.le_of_ble_eq_true rfl⟩ (Nat.le_of_ble_eq_true rfl) rfl dL_isFair_118 ?_
                  refine V.topi (y := jGiven σ k q) (rfl) ?_
                  refine V.if_ge C (tgt := 128) dL_isFair_121 (by decide) (fun c_24 => ?_) (fun c_24 => ?_)
                  · refine V.iconst C (v := nI 1) dL_isFair_128 (by decide) ?_
                    refine V.iadd C dL_isFair_129 ?_
                    refine V.topi (y := jCnt (fun q => decide (jGiven σ k q ≠ -1)) (q + 1)) (by first | exact cnt_t (decide_eq_true ((given_b hV hk hq).mp (by assumption))) | exact cnt_f (decide_eq_false (fun z => (given_b hV hk hq).mpr z (by assumption)))) ?_
                    refine V.istore C dL_isFair_130 (by decide) rfl ?_
                    dsimp only [List.set]
                    refine V.iinc C (v := nI (q + 1)) dL_isFair_132 rfl (nI_inc q) (by decide) rfl ?_
                    dsimp only [List.set]
                    refine V.goto C (tgt := 104) dL_isFair_135 (by decide) ?_
                    exact V.sub (M := [some (.ref (h 0)), some (.int (nI P)), some (.ref aA), some (.ref aO), some (.int (jCnt (isS σ 1) (k + 1))), some (.int (nI k)), none, none, some (.int (jCnt (fun q => decide (jGiven σ k q ≠ -1)) (q + 1))), some (.int (nI (q + 1))), none, none]) (lsub_s rfl (lsub_s rfl (lsub_s rfl (lsub_s rfl (lsub_s rfl (lsub_s rfl (lsub_n (lsub_n (lsub_s rfl (lsub_s rfl (lsub_n (lsub_n (lsub_e))))))))))))) ih_q
                  · refine V.iconst C (v := nI 0) dL_isFair_124 (by decide) ?_
                    refine V.goto C (tgt := 129) dL_isFair_125 (by decide) ?_
                    refine V.iadd C dL_isFair_129 ?_
                    refine V.topi (y := jCnt (fun q => decide (jGiven σ k q ≠ -1)) (q + 1)) (by first | exact cnt_t (decide_eq_true ((given_b hV hk hq).mp (by assumption))) | exact cnt_f (decide_eq_false (fun z => (given_b hV hk hq).mpr z (by assumption)))) ?_
                    refine V.istore C dL_isFair_130 (by decide) rfl ?_
                    dsimp only [List.set]
                    refine V.iinc C (v := nI (q + 1)) dL_isFair_132 rfl (nI_inc q) (by decide) rfl ?_
                    dsimp only [List.set]
                    refine V.goto C (tgt := 104) dL_isFair_135 (by decide) ?_
                    exact V.sub (M := [some (.ref (h 0)), some (.int (nI P)), some (.ref aA), some (.ref aO), some (.int (jCnt (isS σ 1) (k + 1))), some (.int (nI k)), none, none, some (.int (jCnt (fun q => decide (jGiven σ k q ≠ -1)) (q + 1))), some (.int (nI (q + 1))), none, none]) (lsub_s rfl (lsub_s rfl (lsub_s rfl (lsub_s rfl (lsub_s rfl (lsub_s rfl (lsub_n (lsub_n (lsub_s rfl (lsub_s rfl (lsub_n (lsub_n (lsub_e))))))))))))) ih_q
              · try dsimp only
                refine V.iload C dL_isFair_104 rfl ?_
                refine V.aload_n C dL_isFair_106 rfl ?_
                refine V.alen C (q0 := 27) (t0 := 0) rfl hT dL_isFair_107 ?_
                refine V.topi (y := nI Q) (rfl) ?_
                refine V.icmp_ge C (tgt := 138) dL_isFair_108 (by decide) (fun c_25 => ?_) (fun c_25 => ?_)
                · refine V.iload C dL_isFair_138 rfl ?_
                  refine V.aload_n C dL_isFair_140 rfl ?_
                  refine V.iload C dL_isFair_141 rfl ?_
                  refine V.iconst C (v := nI 3) dL_isFair_143 (by decide) ?_
                  refine V.callVXi C (X := _) (ct_X6_ofInterview (i := k) (k := 3) hT hN hN40 (by omega) (by omega)) rfl gL_isFair_X6_ofInterview (n := 2) ⟨rfl, by decide, by decide, by decide +kernel⟩ rfl (q0 := 0) rfl rfl rfl ⟨Nat.le_of_ble_eq_true rfl, Nat.le_of_ble_eq_true rfl⟩ ⟨rfl, rfl, Nat.le_of_ble_eq_true rfl, Nat.le_of_ble_eq_true rfl⟩ (Nat.le_of_ble_eq_true rfl) rfl dL_isFair_144 ?_
                  refine V.topi (y := σ 21 k) (rfl) ?_
                  refine V.icmp_ne C (tgt := 162) dL_isFair_147 (by decide) (fun c_26 => ?_) (fun c_26 => ?_)
                  · exfalso
                    exact c_26 (secs_ok hV hk).1.symm
                  · refine V.aload_n C dL_isFair_150 rfl ?_
                    refine V.iload C dL_isFair_151 rfl ?_
                    refine V.iconst C (v := nI 4) dL_isFair_153 (by decide) ?_
                    refine V.callVXi C (X := _) (ct_X6_ofInterview (i := k) (k := 4) hT hN hN40 (by omega) (by omega)) rfl gL_isFair_X6_ofInterview (n := 2) ⟨rfl, by decide, by decide, by decide +kernel⟩ rfl (q0 := 0) rfl rfl rfl ⟨Nat.le_of_ble_eq_true rfl, Nat.le_of_ble_eq_true rfl⟩ ⟨rfl, rfl, Nat.le_of_ble_eq_true rfl, Nat.le_of_ble_eq_true rfl⟩ (Nat.le_of_ble_eq_true rfl) rfl dL_isFair_154 ?_
                    refine V.topi (y := σ 22 k) (rfl) ?_
                    refine V.iload C dL_isFair_157 rfl ?_
                    refine V.icmp_ge C (tgt := 164) dL_isFair_159 (by decide) (fun c_27 => ?_) (fun c_27 => ?_)
                    · refine V.iinc C (v := nI (k + 1)) dL_isFair_164 rfl (nI_inc k) (by decide) rfl ?_
                      dsimp only [List.set]
                      refine V.goto C (tgt := 10) dL_isFair_167 (by decide) ?_
                      refine V.world (w' := SW cI h σ ++ [(aA, .inl (cI, Q, .inl g)), (aO, .inl (cI, P, .inl (onR σ P ((k + 1)))))]) (rfl) ?_
                      exact V.sub (M := [some (.ref (h 0)), some (.int (nI P)), some (.ref aA), some (.ref aO), some (.int (jCnt (isS σ 1) (k + 1))), some (.int (nI (k + 1))), none, none, none, none, none, none]) (lsub_s rfl (lsub_s rfl (lsub_s rfl (lsub_s rfl (lsub_s rfl (lsub_s rfl (lsub_n (lsub_n (lsub_n (lsub_n (lsub_n (lsub_n (lsub_e))))))))))))) ih_k
                    · exfalso
                      exact (secs_ok hV hk).2 c_27
                · exfalso
                  exact absurd c_25 (nI_nlt (Nat.le_refl _) (by omega))
            · exfalso
              exact c_22 rfl
      · refine V.iconst C (v := nI 1) dL_isFair_48 (by decide) ?_
        refine V.goto C (tgt := 53) dL_isFair_49 (by decide) ?_
        refine V.iadd C dL_isFair_53 ?_
        refine V.iast C (q0 := 28) (t0 := 0) (w' := _) rfl hT (rfl) ((Inv_jP hV.2.2.2.2.1 hP24 hk).1) (by omega) rfl dL_isFair_54 ?_
        refine V.world (w' := SW cI h σ ++ [(aA, .inl (cI, Q, .inl g)), (aO, .inl (cI, P, .inl (onR σ P (k + 1))))]) (congrArg (fun f => SW cI h σ ++ [(aA, Sum.inl (cI, (Q, Sum.inl g))), (aO, Sum.inl (cI, (P, Sum.inl f)))]) (onR_s hV hk (by first | exact Or.inl ⟨by assumption, rfl⟩ | exact Or.inr ⟨by assumption, rfl⟩))) ?_
        refine V.iload C dL_isFair_55 rfl ?_
        refine V.iload C dL_isFair_57 rfl ?_
        refine V.iconst C (v := nI 1) dL_isFair_59 (by decide) ?_
        refine V.icmp_ne C (tgt := 67) dL_isFair_60 (by decide) (fun c_28 => ?_) (fun c_28 => ?_)
        · refine V.iconst C (v := nI 0) dL_isFair_67 (by decide) ?_
          refine V.iadd C dL_isFair_68 ?_
          refine V.topi (y := jCnt (isS σ 1) (k + 1)) (by first | exact cnt_t (isS_eq (by assumption)) | exact cnt_f (decide_eq_false (by assumption))) ?_
          refine V.istore C dL_isFair_69 (by decide) rfl ?_
          dsimp only [List.set]
          refine V.iload C dL_isFair_71 rfl ?_
          refine V.iconst C (v := nI 1) dL_isFair_73 (by decide) ?_
          refine V.icmp_eq C (tgt := 98) dL_isFair_74 (by decide) (fun c_29 => ?_) (fun c_29 => ?_)
          · refine V.iconst C (v := nI 0) dL_isFair_98 (by decide) ?_
            refine V.istore C dL_isFair_99 (by decide) rfl ?_
            dsimp only [List.set]
            refine V.iconst C (v := nI 0) dL_isFair_101 (by decide) ?_
            refine V.istore C dL_isFair_102 (by decide) rfl ?_
            dsimp only [List.set]
            refine V.loop (Q) (fun q => SW cI h σ ++ [(aA, .inl (cI, Q, .inl g)), (aO, .inl (cI, P, .inl (onR σ P (k + 1))))]) (fun q => [some (.ref (h 0)), some (.int (nI P)), some (.ref aA), some (.ref aO), some (.int (jCnt (isS σ 1) (k + 1))), some (.int (nI k)), none, none, some (.int (jCnt (fun q => decide (jGiven σ k q ≠ -1)) q)), some (.int (nI q)), none, none]) (fun q hq ih_q => ?_) ?_ (rfl) (lsub_s rfl (lsub_s rfl (lsub_s rfl (lsub_s rfl (lsub_s rfl (lsub_s rfl (lsub_n (lsub_n (lsub_s rfl (lsub_s rfl (lsub_n (lsub_n (lsub_e)))))))))))))
            · try dsimp only
              refine V.iload C dL_isFair_104 rfl ?_
              refine V.aload_n C dL_isFair_106 rfl ?_
              refine V.alen C (q0 := 27) (t0 := 0) rfl hT dL_isFair_107 ?_
              refine V.topi (y := nI Q) (rfl) ?_
              refine V.icmp_ge C (tgt := 138) dL_isFair_108 (by decide) (fun c_30 => ?_) (fun c_30 => ?_)
              · exfalso
                exact c_30 (nI_lt hq (by omega))
              · refine V.iload C dL_isFair_111 rfl ?_
                refine V.aload_n C dL_isFair_113 rfl ?_
                refine V.iload C dL_isFair_114 rfl ?_
                refine V.iload C dL_isFair_116 rfl ?_
                refine V.callVXi C (X := _) (ct_X6_given (i := k) (q := q) hT hN hN40 hQz hQ10 (by omega) (by omega)) rfl gL_isFair_X6_given (n := 2) ⟨rfl, by decide, by decide, by decide +kernel⟩ rfl (q0 := 0) rfl rfl rfl ⟨Nat.le_of_ble_eq_true rfl, Nat.le_of_ble_eq_true rfl⟩ ⟨rfl, rfl, Nat.le_of_ble_eq_true rfl, Nat.le_of_ble_eq_true rfl⟩ (Nat.le_of_ble_eq_true rfl) rfl dL_isFair_118 ?_
                refine V.topi (y := jGiven σ k q) (rfl) ?_
                refine V.if_ge C (tgt := 128) dL_isFair_121 (by decide) (fun c_31 => ?_) (fun c_31 => ?_)
                · refine V.iconst C (v := nI 1) dL_isFair_128 (by decide) ?_
                  refine V.iadd C dL_isFair_129 ?_
                  refine V.topi (y := jCnt (fun q => decide (jGiven σ k q ≠ -1)) (q + 1)) (by first | exact cnt_t (decide_eq_true ((given_b hV hk hq).mp (by assumption))) | exact cnt_f (decide_eq_false (fun z => (given_b hV hk hq).mpr z (by assumption)))) ?_
                  refine V.istore C dL_isFair_130 (by decide) rfl ?_
                  dsimp only [List.set]
                  refine V.iinc C (v := nI (q + 1)) dL_isFair_132 rfl (nI_inc q) (by decide) rfl ?_
                  dsimp only [List.set]
                  refine V.goto C (tgt := 104) dL_isFair_135 (by decide) ?_
                  exact V.sub (M := [some (.ref (h 0)), some (.int (nI P)), some (.ref aA), some (.ref aO), some (.int (jCnt (isS σ 1) (k + 1))), some (.int (nI k)), none, none, some (.int (jCnt (fun q => decide (jGiven σ k q ≠ -1)) (q + 1))), some (.int (nI (q + 1))), none, none]) (lsub_s rfl (lsub_s rfl (lsub_s rfl (lsub_s rfl (lsub_s rfl (lsub_s rfl (lsub_n (lsub_n (lsub_s rfl (lsub_s rfl (lsub_n (lsub_n (lsub_e))))))))))))) ih_q
                · refine V.iconst C (v := nI 0) dL_isFair_124 (by decide) ?_
                  refine V.goto C (tgt := 129) dL_isFair_125 (by decide) ?_
                  refine V.iadd C dL_isFair_129 ?_
                  refine V.topi (y := jCnt (fun q => decide (jGiven σ k q ≠ -1)) (q + 1)) (by first | exact cnt_t (decide_eq_true ((given_b hV hk hq).mp (by assumption))) | exact cnt_f (decide_eq_false (fun z => (given_b hV hk hq).mpr z (by assumption)))) ?_
                  refine V.istore C dL_isFair_130 (by decide) rfl ?_
                  dsimp only [List.set]
                  refine V.iinc C (v := nI (q + 1)) dL_isFair_132 rfl (nI_inc q) (by decide) rfl ?_
                  dsimp only [List.set]
                  refine V.goto C (tgt := 104) dL_isFair_135 (by decide) ?_
                  exact V.sub (M := [some (.ref (h 0)), some (.int (nI P)), some (.ref aA), some (.ref aO), some (.int (jCnt (isS σ 1) (k + 1))), some (.int (nI k)), none, none, some (.int (jCnt (fun q => decide (jGiven σ k q ≠ -1)) (q + 1))), some (.int (nI (q + 1))), none, none]) (lsub_s rfl (lsub_s rfl (lsub_s rfl (lsub_s rfl (lsub_s rfl (lsub_s rfl (lsub_n (lsub_n (lsub_s rfl (lsub_s rfl (lsub_n (lsub_n (lsub_e))))))))))))) ih_q
            · try dsimp only
              refine V.iload C dL_isFair_104 rfl ?_
              refine V.aload_n C dL_isFair_106 rfl ?_
              refine V.alen C (q0 := 27) (t0 := 0) rfl hT dL_isFair_107 ?_
              refine V.topi (y := nI Q) (rfl) ?_
              refine V.icmp_ge C (tgt := 138) dL_isFair_108 (by decide) (fun c_32 => ?_) (fun c_32 => ?_)
              · refine V.iload C dL_isFair_138 rfl ?_
                refine V.aload_n C dL_isFair_140 rfl ?_
                refine V.iload C dL_isFair_141 rfl ?_
                refine V.iconst C (v := nI 3) dL_isFair_143 (by decide) ?_
                refine V.callVXi C (X := _) (ct_X6_ofInterview (i := k) (k := 3) hT hN hN40 (by omega) (by omega)) rfl gL_isFair_X6_ofInterview (n := 2) ⟨rfl, by decide, by decide, by decide +kernel⟩ rfl (q0 := 0) rfl rfl rfl ⟨Nat.le_of_ble_eq_true rfl, Nat.le_of_ble_eq_true rfl⟩ ⟨rfl, rfl, Nat.le_of_ble_eq_true rfl, Nat.le_of_ble_eq_true rfl⟩ (Nat.le_of_ble_eq_true rfl) rfl dL_isFair_144 ?_
                refine V.topi (y := σ 21 k) (rfl) ?_
                refine V.icmp_ne C (tgt := 162) dL_isFair_147 (by decide) (fun c_33 => ?_) (fun c_33 => ?_)
                · exfalso
                  exact c_33 (secs_ok hV hk).1.symm
                · refine V.aload_n C dL_isFair_150 rfl ?_
                  refine V.iload C dL_isFair_151 rfl ?_
                  refine V.iconst C (v := nI 4) dL_isFair_153 (by decide) ?_
                  refine V.callVXi C (X := _) (ct_X6_ofInterview (i := k) (k := 4) hT hN hN40 (by omega) (by omega)) rfl gL_isFair_X6_ofInterview (n := 2) ⟨rfl, by decide, by decide, by decide +kernel⟩ rfl (q0 := 0) rfl rfl rfl ⟨Nat.le_of_ble_eq_true rfl, Nat.le_of_ble_eq_true rfl⟩ ⟨rfl, rfl, Nat.le_of_ble_eq_true rfl, Nat.le_of_ble_eq_true rfl⟩ (Nat.le_of_ble_eq_true rfl) rfl dL_isFair_154 ?_
                  refine V.topi (y := σ 22 k) (rfl) ?_
                  refine V.iload C dL_isFair_157 rfl ?_
                  refine V.icmp_ge C (tgt := 164) dL_isFair_159 (by decide) (fun c_34 => ?_) (fun c_34 => ?_)
                  · refine V.iinc C (v := nI (k + 1)) dL_isFair_164 rfl (nI_inc k) (by decide) rfl ?_
                    dsimp only [List.set]
                    refine V.goto C (tgt := 10) dL_isFair_167 (by decide) ?_
                    refine V.world (w' := SW cI h σ ++ [(aA, .inl (cI, Q, .inl g)), (aO, .inl (cI, P, .inl (onR σ P ((k + 1)))))]) (rfl) ?_
                    exact V.sub (M := [some (.ref (h 0)), some (.int (nI P)), some (.ref aA), some (.ref aO), some (.int (jCnt (isS σ 1) (k + 1))), some (.int (nI (k + 1))), none, none, none, none, none, none]) (lsub_s rfl (lsub_s rfl (lsub_s rfl (lsub_s rfl (lsub_s rfl (lsub_s rfl (lsub_n (lsub_n (lsub_n (lsub_n (lsub_n (lsub_n (lsub_e))))))))))))) ih_k
                  · exfalso
                    exact (secs_ok hV hk).2 c_34
              · exfalso
                exact absurd c_32 (nI_nlt (Nat.le_refl _) (by omega))
          · refine V.aload_n C dL_isFair_77 rfl ?_
            refine V.iload C dL_isFair_78 rfl ?_
            refine V.iconst C (v := nI 5) dL_isFair_80 (by decide) ?_
            refine V.callVXi C (X := _) (ct_X6_ofInterview (i := k) (k := 5) hT hN hN40 (by omega) (by omega)) rfl gL_isFair_X6_ofInterview (n := 2) ⟨rfl, by decide, by decide, by decide +kernel⟩ rfl (q0 := 0) rfl rfl rfl ⟨Nat.le_of_ble_eq_true rfl, Nat.le_of_ble_eq_true rfl⟩ ⟨rfl, rfl, Nat.le_of_ble_eq_true rfl, Nat.le_of_ble_eq_true rfl⟩ (Nat.le_of_ble_eq_true rfl) rfl dL_isFair_81 ?_
            refine V.aload_n C dL_isFair_84 rfl ?_
            refine V.iload C dL_isFair_85 rfl ?_
            refine V.bipush C (v := nI 6) dL_isFair_87 (by decide) ?_
            refine V.callVXi C (X := _) (ct_X6_ofInterview (i := k) (k := 6) hT hN hN40 (by omega) (by omega)) rfl gL_isFair_X6_ofInterview (n := 2) ⟨rfl, by decide, by decide, by decide +kernel⟩ rfl (q0 := 0) rfl rfl rfl ⟨Nat.le_of_ble_eq_true rfl, Nat.le_of_ble_eq_true rfl⟩ ⟨rfl, rfl, Nat.le_of_ble_eq_true rfl, Nat.le_of_ble_eq_true rfl⟩ (Nat.le_of_ble_eq_true rfl) rfl dL_isFair_89 ?_
            refine V.iadd C dL_isFair_92 ?_
            refine V.topi (y := 0) (not_done hV hk (by assumption)) ?_
            refine V.if_eq C (tgt := 98) dL_isFair_93 (by decide) (fun c_35 => ?_) (fun c_35 => ?_)
            · refine V.iconst C (v := nI 0) dL_isFair_98 (by decide) ?_
              refine V.istore C dL_isFair_99 (by decide) rfl ?_
              dsimp only [List.set]
              refine V.iconst C (v := nI 0) dL_isFair_101 (by decide) ?_
              refine V.istore C dL_isFair_102 (by decide) rfl ?_
              dsimp only [List.set]
              refine V.loop (Q) (fun q => SW cI h σ ++ [(aA, .inl (cI, Q, .inl g)), (aO, .inl (cI, P, .inl (onR σ P (k + 1))))]) (fun q => [some (.ref (h 0)), some (.int (nI P)), some (.ref aA), some (.ref aO), some (.int (jCnt (isS σ 1) (k + 1))), some (.int (nI k)), none, none, some (.int (jCnt (fun q => decide (jGiven σ k q ≠ -1)) q)), some (.int (nI q)), none, none]) (fun q hq ih_q => ?_) ?_ (rfl) (lsub_s rfl (lsub_s rfl (lsub_s rfl (lsub_s rfl (lsub_s rfl (lsub_s rfl (lsub_n (lsub_n (lsub_s rfl (lsub_s rfl (lsub_n (lsub_n (lsub_e)))))))))))))
              · try dsimp only
                refine V.iload C dL_isFair_104 rfl ?_
                refine V.aload_n C dL_isFair_106 rfl ?_
                refine V.alen C (q0 := 27) (t0 := 0) rfl hT dL_isFair_107 ?_
                refine V.topi (y := nI Q) (rfl) ?_
                refine V.icmp_ge C (tgt := 138) dL_isFair_108 (by decide) (fun c_36 => ?_) (fun c_36 => ?_)
                · exfalso
                  exact c_36 (nI_lt hq (by omega))
                · refine V.iload C dL_isFair_111 rfl ?_
                  refine V.aload_n C dL_isFair_113 rfl ?_
                  refine V.iload C dL_isFair_114 rfl ?_
                  refine V.iload C dL_isFair_116 rfl ?_
                  refine V.callVXi C (X := _) (ct_X6_given (i := k) (q := q) hT hN hN40 hQz hQ10 (by omega) (by omega)) rfl gL_isFair_X6_given (n := 2) ⟨rfl, by decide, by decide, by decide +kernel⟩ rfl (q0 := 0) rfl rfl rfl ⟨Nat.le_of_ble_eq_true rfl, Nat.le_of_ble_eq_true rfl⟩ ⟨rfl, rfl, Nat.le_of_ble_eq_true rfl, Nat.le_of_ble_eq_true rfl⟩ (Nat.le_of_ble_eq_true rfl) rfl dL_isFair_118 ?_
                  refine V.topi (y := jGiven σ k q) (rfl) ?_
                  refine V.if_ge C (tgt := 128) dL_isFair_121 (by decide) (fun c_37 => ?_) (fun c_37 => ?_)
                  · refine V.iconst C (v := nI 1) dL_isFair_128 (by decide) ?_
                    refine V.iadd C dL_isFair_129 ?_
                    refine V.topi (y := jCnt (fun q => decide (jGiven σ k q ≠ -1)) (q + 1)) (by first | exact cnt_t (decide_eq_true ((given_b hV hk hq).mp (by assumption))) | exact cnt_f (decide_eq_false (fun z => (given_b hV hk hq).mpr z (by assumption)))) ?_
                    refine V.istore C dL_isFair_130 (by decide) rfl ?_
                    dsimp only [List.set]
                    refine V.iinc C (v := nI (q + 1)) dL_isFair_132 rfl (nI_inc q) (by decide) rfl ?_
                    dsimp only [List.set]
                    refine V.goto C (tgt := 104) dL_isFair_135 (by decide) ?_
                    exact V.sub (M := [some (.ref (h 0)), some (.int (nI P)), some (.ref aA), some (.ref aO), some (.int (jCnt (isS σ 1) (k + 1))), some (.int (nI k)), none, none, some (.int (jCnt (fun q => decide (jGiven σ k q ≠ -1)) (q + 1))), some (.int (nI (q + 1))), none, none]) (lsub_s rfl (lsub_s rfl (lsub_s rfl (lsub_s rfl (lsub_s rfl (lsub_s rfl (lsub_n (lsub_n (lsub_s rfl (lsub_s rfl (lsub_n (lsub_n (lsub_e))))))))))))) ih_q
                  · refine V.iconst C (v := nI 0) dL_isFair_124 (by decide) ?_
                    refine V.goto C (tgt := 129) dL_isFair_125 (by decide) ?_
                    refine V.iadd C dL_isFair_129 ?_
                    refine V.topi (y := jCnt (fun q => decide (jGiven σ k q ≠ -1)) (q + 1)) (by first | exact cnt_t (decide_eq_true ((given_b hV hk hq).mp (by assumption))) | exact cnt_f (decide_eq_false (fun z => (given_b hV hk hq).mpr z (by assumption)))) ?_
                    refine V.istore C dL_isFair_130 (by decide) rfl ?_
                    dsimp only [List.set]
                    refine V.iinc C (v := nI (q + 1)) dL_isFair_132 rfl (nI_inc q) (by decide) rfl ?_
                    dsimp only [List.set]
                    refine V.goto C (tgt := 104) dL_isFair_135 (by decide) ?_
                    exact V.sub (M := [some (.ref (h 0)), some (.int (nI P)), some (.ref aA), some (.ref aO), some (.int (jCnt (isS σ 1) (k + 1))), some (.int (nI k)), none, none, some (.int (jCnt (fun q => decide (jGiven σ k q ≠ -1)) (q + 1))), some (.int (nI (q + 1))), none, none]) (lsub_s rfl (lsub_s rfl (lsub_s rfl (lsub_s rfl (lsub_s rfl (lsub_s rfl (lsub_n (lsub_n (lsub_s rfl (lsub_s rfl (lsub_n (lsub_n (lsub_e))))))))))))) ih_q
              · try dsimp only
                refine V.iload C dL_isFair_104 rfl ?_
                refine V.aload_n C dL_isFair_106 rfl ?_
                refine V.alen C (q0 := 27) (t0 := 0) rfl hT dL_isFair_107 ?_
                refine V.topi (y := nI Q) (rfl) ?_
                refine V.icmp_ge C (tgt := 138) dL_isFair_108 (by decide) (fun c_38 => ?_) (fun c_38 => ?_)
                · refine V.iload C dL_isFair_138 rfl ?_
                  refine V.aload_n C dL_isFair_140 rfl ?_
                  refine V.iload C dL_isFair_141 rfl ?_
                  refine V.iconst C (v := nI 3) dL_isFair_143 (by decide) ?_
                  refine V.callVXi C (X := _) (ct_X6_ofInterview (i := k) (k := 3) hT hN hN40 (by omega) (by omega)) rfl gL_isFair_X6_ofInterview (n := 2) ⟨rfl, by decide, by decide, by decide +kernel⟩ rfl (q0 := 0) rfl rfl rfl ⟨Nat.le_of_ble_eq_true rfl, Nat.le_of_ble_eq_true rfl⟩ ⟨rfl, rfl, Nat.le_of_ble_eq_true rfl, Nat.le_of_ble_eq_true rfl⟩ (Nat.le_of_ble_eq_true rfl) rfl dL_isFair_144 ?_
                  refine V.topi (y := σ 21 k) (rfl) ?_
                  refine V.icmp_ne C (tgt := 162) dL_isFair_147 (by decide) (fun c_39 => ?_) (fun c_39 => ?_)
                  · exfalso
                    exact c_39 (secs_ok hV hk).1.symm
                  · refine V.aload_n C dL_isFair_150 rfl ?_
                    refine V.iload C dL_isFair_151 rfl ?_
                    refine V.iconst C (v := nI 4) dL_isFair_153 (by decide) ?_
                    refine V.callVXi C (X := _) (ct_X6_ofInterview (i := k) (k := 4) hT hN hN40 (by omega) (by omega)) rfl gL_isFair_X6_ofInterview (n := 2) ⟨rfl, by decide, by decide, by decide +kernel⟩ rfl (q0 := 0) rfl rfl rfl ⟨Nat.le_of_ble_eq_true rfl, Nat.le_of_ble_eq_true rfl⟩ ⟨rfl, rfl, Nat.le_of_ble_eq_true rfl, Nat.le_of_ble_eq_true rfl⟩ (Nat.le_of_ble_eq_true rfl) rfl dL_isFair_154 ?_
                    refine V.topi (y := σ 22 k) (rfl) ?_
                    refine V.iload C dL_isFair_157 rfl ?_
                    refine V.icmp_ge C (tgt := 164) dL_isFair_159 (by decide) (fun c_40 => ?_) (fun c_40 => ?_)
                    · refine V.iinc C (v := nI (k + 1)) dL_isFair_164 rfl (nI_inc k) (by decide) rfl ?_
                      dsimp only [List.set]
                      refine V.goto C (tgt := 10) dL_isFair_167 (by decide) ?_
                      refine V.world (w' := SW cI h σ ++ [(aA, .inl (cI, Q, .inl g)), (aO, .inl (cI, P, .inl (onR σ P ((k + 1)))))]) (rfl) ?_
                      exact V.sub (M := [some (.ref (h 0)), some (.int (nI P)), some (.ref aA), some (.ref aO), some (.int (jCnt (isS σ 1) (k + 1))), some (.int (nI (k + 1))), none, none, none, none, none, none]) (lsub_s rfl (lsub_s rfl (lsub_s rfl (lsub_s rfl (lsub_s rfl (lsub_s rfl (lsub_n (lsub_n (lsub_n (lsub_n (lsub_n (lsub_n (lsub_e))))))))))))) ih_k
                    · exfalso
                      exact (secs_ok hV hk).2 c_40
                · exfalso
                  exact absurd c_38 (nI_nlt (Nat.le_refl _) (by omega))
            · exfalso
              exact c_35 rfl
        · refine V.iconst C (v := nI 1) dL_isFair_63 (by decide) ?_
          refine V.goto C (tgt := 68) dL_isFair_64 (by decide) ?_
          refine V.iadd C dL_isFair_68 ?_
          refine V.topi (y := jCnt (isS σ 1) (k + 1)) (by first | exact cnt_t (isS_eq (by assumption)) | exact cnt_f (decide_eq_false (by assumption))) ?_
          refine V.istore C dL_isFair_69 (by decide) rfl ?_
          dsimp only [List.set]
          refine V.iload C dL_isFair_71 rfl ?_
          refine V.iconst C (v := nI 1) dL_isFair_73 (by decide) ?_
          refine V.icmp_eq C (tgt := 98) dL_isFair_74 (by decide) (fun c_41 => ?_) (fun c_41 => ?_)
          · refine V.iconst C (v := nI 0) dL_isFair_98 (by decide) ?_
            refine V.istore C dL_isFair_99 (by decide) rfl ?_
            dsimp only [List.set]
            refine V.iconst C (v := nI 0) dL_isFair_101 (by decide) ?_
            refine V.istore C dL_isFair_102 (by decide) rfl ?_
            dsimp only [List.set]
            refine V.loop (Q) (fun q => SW cI h σ ++ [(aA, .inl (cI, Q, .inl g)), (aO, .inl (cI, P, .inl (onR σ P (k + 1))))]) (fun q => [some (.ref (h 0)), some (.int (nI P)), some (.ref aA), some (.ref aO), some (.int (jCnt (isS σ 1) (k + 1))), some (.int (nI k)), none, none, some (.int (jCnt (fun q => decide (jGiven σ k q ≠ -1)) q)), some (.int (nI q)), none, none]) (fun q hq ih_q => ?_) ?_ (rfl) (lsub_s rfl (lsub_s rfl (lsub_s rfl (lsub_s rfl (lsub_s rfl (lsub_s rfl (lsub_n (lsub_n (lsub_s rfl (lsub_s rfl (lsub_n (lsub_n (lsub_e)))))))))))))
            · try dsimp only
              refine V.iload C dL_isFair_104 rfl ?_
              refine V.aload_n C dL_isFair_106 rfl ?_
              refine V.alen C (q0 := 27) (t0 := 0) rfl hT dL_isFair_107 ?_
              refine V.topi (y := nI Q) (rfl) ?_
              refine V.icmp_ge C (tgt := 138) dL_isFair_108 (by decide) (fun c_42 => ?_) (fun c_42 => ?_)
              · exfalso
                exact c_42 (nI_lt hq (by omega))
              · refine V.iload C dL_isFair_111 rfl ?_
                refine V.aload_n C dL_isFair_113 rfl ?_
                refine V.iload C dL_isFair_114 rfl ?_
                refine V.iload C dL_isFair_116 rfl ?_
                refine V.callVXi C (X := _) (ct_X6_given (i := k) (q := q) hT hN hN40 hQz hQ10 (by omega) (by omega)) rfl gL_isFair_X6_given (n := 2) ⟨rfl, by decide, by decide, by decide +kernel⟩ rfl (q0 := 0) rfl rfl rfl ⟨Nat.le_of_ble_eq_true rfl, Nat.le_of_ble_eq_true rfl⟩ ⟨rfl, rfl, Nat.le_of_ble_eq_true rfl, Nat.le_of_ble_eq_true rfl⟩ (Nat.le_of_ble_eq_true rfl) rfl dL_isFair_118 ?_
                refine V.topi (y := jGiven σ k q) (rfl) ?_
                refine V.if_ge C (tgt := 128) dL_isFair_121 (by decide) (fun c_43 => ?_) (fun c_43 => ?_)
                · refine V.iconst C (v := nI 1) dL_isFair_128 (by decide) ?_
                  refine V.iadd C dL_isFair_129 ?_
                  refine V.topi (y := jCnt (fun q => decide (jGiven σ k q ≠ -1)) (q + 1)) (by first | exact cnt_t (decide_eq_true ((given_b hV hk hq).mp (by assumption))) | exact cnt_f (decide_eq_false (fun z => (given_b hV hk hq).mpr z (by assumption)))) ?_
                  refine V.istore C dL_isFair_130 (by decide) rfl ?_
                  dsimp only [List.set]
                  refine V.iinc C (v := nI (q + 1)) dL_isFair_132 rfl (nI_inc q) (by decide) rfl ?_
                  dsimp only [List.set]
                  refine V.goto C (tgt := 104) dL_isFair_135 (by decide) ?_
                  exact V.sub (M := [some (.ref (h 0)), some (.int (nI P)), some (.ref aA), some (.ref aO), some (.int (jCnt (isS σ 1) (k + 1))), some (.int (nI k)), none, none, some (.int (jCnt (fun q => decide (jGiven σ k q ≠ -1)) (q + 1))), some (.int (nI (q + 1))), none, none]) (lsub_s rfl (lsub_s rfl (lsub_s rfl (lsub_s rfl (lsub_s rfl (lsub_s rfl (lsub_n (lsub_n (lsub_s rfl (lsub_s rfl (lsub_n (lsub_n (lsub_e))))))))))))) ih_q
                · refine V.iconst C (v := nI 0) dL_isFair_124 (by decide) ?_
                  refine V.goto C (tgt := 129) dL_isFair_125 (by decide) ?_
                  refine V.iadd C dL_isFair_129 ?_
                  refine V.topi (y := jCnt (fun q => decide (jGiven σ k q ≠ -1)) (q + 1)) (by first | exact cnt_t (decide_eq_true ((given_b hV hk hq).mp (by assumption))) | exact cnt_f (decide_eq_false (fun z => (given_b hV hk hq).mpr z (by assumption)))) ?_
                  refine V.istore C dL_isFair_130 (by decide) rfl ?_
                  dsimp only [List.set]
                  refine V.iinc C (v := nI (q + 1)) dL_isFair_132 rfl (nI_inc q) (by decide) rfl ?_
                  dsimp only [List.set]
                  refine V.goto C (tgt := 104) dL_isFair_135 (by decide) ?_
                  exact V.sub (M := [some (.ref (h 0)), some (.int (nI P)), some (.ref aA), some (.ref aO), some (.int (jCnt (isS σ 1) (k + 1))), some (.int (nI k)), none, none, some (.int (jCnt (fun q => decide (jGiven σ k q ≠ -1)) (q + 1))), some (.int (nI (q + 1))), none, none]) (lsub_s rfl (lsub_s rfl (lsub_s rfl (lsub_s rfl (lsub_s rfl (lsub_s rfl (lsub_n (lsub_n (lsub_s rfl (lsub_s rfl (lsub_n (lsub_n (lsub_e))))))))))))) ih_q
            · try dsimp only
              refine V.iload C dL_isFair_104 rfl ?_
              refine V.aload_n C dL_isFair_106 rfl ?_
              refine V.alen C (q0 := 27) (t0 := 0) rfl hT dL_isFair_107 ?_
              refine V.topi (y := nI Q) (rfl) ?_
              refine V.icmp_ge C (tgt := 138) dL_isFair_108 (by decide) (fun c_44 => ?_) (fun c_44 => ?_)
              · refine V.iload C dL_isFair_138 rfl ?_
                refine V.aload_n C dL_isFair_140 rfl ?_
                refine V.iload C dL_isFair_141 rfl ?_
                refine V.iconst C (v := nI 3) dL_isFair_143 (by decide) ?_
                refine V.callVXi C (X := _) (ct_X6_ofInterview (i := k) (k := 3) hT hN hN40 (by omega) (by omega)) rfl gL_isFair_X6_ofInterview (n := 2) ⟨rfl, by decide, by decide, by decide +kernel⟩ rfl (q0 := 0) rfl rfl rfl ⟨Nat.le_of_ble_eq_true rfl, Nat.le_of_ble_eq_true rfl⟩ ⟨rfl, rfl, Nat.le_of_ble_eq_true rfl, Nat.le_of_ble_eq_true rfl⟩ (Nat.le_of_ble_eq_true rfl) rfl dL_isFair_144 ?_
                refine V.topi (y := σ 21 k) (rfl) ?_
                refine V.icmp_ne C (tgt := 162) dL_isFair_147 (by decide) (fun c_45 => ?_) (fun c_45 => ?_)
                · exfalso
                  exact c_45 (secs_ok hV hk).1.symm
                · refine V.aload_n C dL_isFair_150 rfl ?_
                  refine V.iload C dL_isFair_151 rfl ?_
                  refine V.iconst C (v := nI 4) dL_isFair_153 (by decide) ?_
                  refine V.callVXi C (X := _) (ct_X6_ofInterview (i := k) (k := 4) hT hN hN40 (by omega) (by omega)) rfl gL_isFair_X6_ofInterview (n := 2) ⟨rfl, by decide, by decide, by decide +kernel⟩ rfl (q0 := 0) rfl rfl rfl ⟨Nat.le_of_ble_eq_true rfl, Nat.le_of_ble_eq_true rfl⟩ ⟨rfl, rfl, Nat.le_of_ble_eq_true rfl, Nat.le_of_ble_eq_true rfl⟩ (Nat.le_of_ble_eq_true rfl) rfl dL_isFair_154 ?_
                  refine V.topi (y := σ 22 k) (rfl) ?_
                  refine V.iload C dL_isFair_157 rfl ?_
                  refine V.icmp_ge C (tgt := 164) dL_isFair_159 (by decide) (fun c_46 => ?_) (fun c_46 => ?_)
                  · refine V.iinc C (v := nI (k + 1)) dL_isFair_164 rfl (nI_inc k) (by decide) rfl ?_
                    dsimp only [List.set]
                    refine V.goto C (tgt := 10) dL_isFair_167 (by decide) ?_
                    refine V.world (w' := SW cI h σ ++ [(aA, .inl (cI, Q, .inl g)), (aO, .inl (cI, P, .inl (onR σ P ((k + 1)))))]) (rfl) ?_
                    exact V.sub (M := [some (.ref (h 0)), some (.int (nI P)), some (.ref aA), some (.ref aO), some (.int (jCnt (isS σ 1) (k + 1))), some (.int (nI (k + 1))), none, none, none, none, none, none]) (lsub_s rfl (lsub_s rfl (lsub_s rfl (lsub_s rfl (lsub_s rfl (lsub_s rfl (lsub_n (lsub_n (lsub_n (lsub_n (lsub_n (lsub_n (lsub_e))))))))))))) ih_k
                  · exfalso
                    exact (secs_ok hV hk).2 c_46
              · exfalso
                exact absurd c_44 (nI_nlt (Nat.le_refl _) (by omega))
          · refine V.aload_n C dL_isFair_77 rfl ?_
            refine V.iload C dL_isFair_78 rfl ?_
            refine V.iconst C (v := nI 5) dL_isFair_80 (by decide) ?_
            refine V.callVXi C (X := _) (ct_X6_ofInterview (i := k) (k := 5) hT hN hN40 (by omega) (by omega)) rfl gL_isFair_X6_ofInterview (n := 2) ⟨rfl, by decide, by decide, by decide +kernel⟩ rfl (q0 := 0) rfl rfl rfl ⟨Nat.le_of_ble_eq_true rfl, Nat.le_of_ble_eq_true rfl⟩ ⟨rfl, rfl, Nat.le_of_ble_eq_true rfl, Nat.le_of_ble_eq_true rfl⟩ (Nat.le_of_ble_eq_true rfl) rfl dL_isFair_81 ?_
            refine V.aload_n C dL_isFair_84 rfl ?_
            refine V.iload C dL_isFair_85 rfl ?_
            refine V.bipush C (v := nI 6) dL_isFair_87 (by decide) ?_
            refine V.callVXi C (X := _) (ct_X6_ofInterview (i := k) (k := 6) hT hN hN40 (by omega) (by omega)) rfl gL_isFair_X6_ofInterview (n := 2) ⟨rfl, by decide, by decide, by decide +kernel⟩ rfl (q0 := 0) rfl rfl rfl ⟨Nat.le_of_ble_eq_true rfl, Nat.le_of_ble_eq_true rfl⟩ ⟨rfl, rfl, Nat.le_of_ble_eq_true rfl, Nat.le_of_ble_eq_true rfl⟩ (Nat.le_of_ble_eq_true rfl) rfl dL_isFair_89 ?_
            refine V.iadd C dL_isFair_92 ?_
            refine V.topi (y := 0) (not_done hV hk (by assumption)) ?_
            refine V.if_eq C (tgt := 98) dL_isFair_93 (by decide) (fun c_47 => ?_) (fun c_47 => ?_)
            · refine V.iconst C (v := nI 0) dL_isFair_98 (by decide) ?_
              refine V.istore C dL_isFair_99 (by decide) rfl ?_
              dsimp only [List.set]
              refine V.iconst C (v := nI 0) dL_isFair_101 (by decide) ?_
              refine V.istore C dL_isFair_102 (by decide) rfl ?_
              dsimp only [List.set]
              refine V.loop (Q) (fun q => SW cI h σ ++ [(aA, .inl (cI, Q, .inl g)), (aO, .inl (cI, P, .inl (onR σ P (k + 1))))]) (fun q => [some (.ref (h 0)), some (.int (nI P)), some (.ref aA), some (.ref aO), some (.int (jCnt (isS σ 1) (k + 1))), some (.int (nI k)), none, none, some (.int (jCnt (fun q => decide (jGiven σ k q ≠ -1)) q)), some (.int (nI q)), none, none]) (fun q hq ih_q => ?_) ?_ (rfl) (lsub_s rfl (lsub_s rfl (lsub_s rfl (lsub_s rfl (lsub_s rfl (lsub_s rfl (lsub_n (lsub_n (lsub_s rfl (lsub_s rfl (lsub_n (lsub_n (lsub_e)))))))))))))
              · try dsimp only
                refine V.iload C dL_isFair_104 rfl ?_
                refine V.aload_n C dL_isFair_106 rfl ?_
                refine V.alen C (q0 := 27) (t0 := 0) rfl hT dL_isFair_107 ?_
                refine V.topi (y := nI Q) (rfl) ?_
                refine V.icmp_ge C (tgt := 138) dL_isFair_108 (by decide) (fun c_48 => ?_) (fun c_48 => ?_)
                · exfalso
                  exact c_48 (nI_lt hq (by omega))
                · refine V.iload C dL_isFair_111 rfl ?_
                  refine V.aload_n C dL_isFair_113 rfl ?_
                  refine V.iload C dL_isFair_114 rfl ?_
                  refine V.iload C dL_isFair_116 rfl ?_
                  refine V.callVXi C (X := _) (ct_X6_given (i := k) (q := q) hT hN hN40 hQz hQ10 (by omega) (by omega)) rfl gL_isFair_X6_given (n := 2) ⟨rfl, by decide, by decide, by decide +kernel⟩ rfl (q0 := 0) rfl rfl rfl ⟨Nat.le_of_ble_eq_true rfl, Nat.le_of_ble_eq_true rfl⟩ ⟨rfl, rfl, Nat.le_of_ble_eq_true rfl, Nat.le_of_ble_eq_true rfl⟩ (Nat.le_of_ble_eq_true rfl) rfl dL_isFair_118 ?_
                  refine V.topi (y := jGiven σ k q) (rfl) ?_
                  refine V.if_ge C (tgt := 128) dL_isFair_121 (by decide) (fun c_49 => ?_) (fun c_49 => ?_)
                  · refine V.iconst C (v := nI 1) dL_isFair_128 (by decide) ?_
                    refine V.iadd C dL_isFair_129 ?_
                    refine V.topi (y := jCnt (fun q => decide (jGiven σ k q ≠ -1)) (q + 1)) (by first | exact cnt_t (decide_eq_true ((given_b hV hk hq).mp (by assumption))) | exact cnt_f (decide_eq_false (fun z => (given_b hV hk hq).mpr z (by assumption)))) ?_
                    refine V.istore C dL_isFair_130 (by decide) rfl ?_
                    dsimp only [List.set]
                    refine V.iinc C (v := nI (q + 1)) dL_isFair_132 rfl (nI_inc q) (by decide) rfl ?_
                    dsimp only [List.set]
                    refine V.goto C (tgt := 104) dL_isFair_135 (by decide) ?_
                    exact V.sub (M := [some (.ref (h 0)), some (.int (nI P)), some (.ref aA), some (.ref aO), some (.int (jCnt (isS σ 1) (k + 1))), some (.int (nI k)), none, none, some (.int (jCnt (fun q => decide (jGiven σ k q ≠ -1)) (q + 1))), some (.int (nI (q + 1))), none, none]) (lsub_s rfl (lsub_s rfl (lsub_s rfl (lsub_s rfl (lsub_s rfl (lsub_s rfl (lsub_n (lsub_n (lsub_s rfl (lsub_s rfl (lsub_n (lsub_n (lsub_e))))))))))))) ih_q
                  · refine V.iconst C (v := nI 0) dL_isFair_124 (by decide) ?_
                    refine V.goto C (tgt := 129) dL_isFair_125 (by decide) ?_
                    refine V.iadd C dL_isFair_129 ?_
                    refine V.topi (y := jCnt (fun q => decide (jGiven σ k q ≠ -1)) (q + 1)) (by first | exact cnt_t (decide_eq_true ((given_b hV hk hq).mp (by assumption))) | exact cnt_f (decide_eq_false (fun z => (given_b hV hk hq).mpr z (by assumption)))) ?_
                    refine V.istore C dL_isFair_130 (by decide) rfl ?_
                    dsimp only [List.set]
                    refine V.iinc C (v := nI (q + 1)) dL_isFair_132 rfl (nI_inc q) (by decide) rfl ?_
                    dsimp only [List.set]
                    refine V.goto C (tgt := 104) dL_isFair_135 (by decide) ?_
                    exact V.sub (M := [some (.ref (h 0)), some (.int (nI P)), some (.ref aA), some (.ref aO), some (.int (jCnt (isS σ 1) (k + 1))), some (.int (nI k)), none, none, some (.int (jCnt (fun q => decide (jGiven σ k q ≠ -1)) (q + 1))), some (.int (nI (q + 1))), none, none]) (lsub_s rfl (lsub_s rfl (lsub_s rfl (lsub_s rfl (lsub_s rfl (lsub_s rfl (lsub_n (lsub_n (lsub_s rfl (lsub_s rfl (lsub_n (lsub_n (lsub_e))))))))))))) ih_q
              · try dsimp only
                refine V.iload C dL_isFair_104 rfl ?_
                refine V.aload_n C dL_isFair_106 rfl ?_
                refine V.alen C (q0 := 27) (t0 := 0) rfl hT dL_isFair_107 ?_
                refine V.topi (y := nI Q) (rfl) ?_
                refine V.icmp_ge C (tgt := 138) dL_isFair_108 (by decide) (fun c_50 => ?_) (fun c_50 => ?_)
                · refine V.iload C dL_isFair_138 rfl ?_
                  refine V.aload_n C dL_isFair_140 rfl ?_
                  refine V.iload C dL_isFair_141 rfl ?_
                  refine V.iconst C (v := nI 3) dL_isFair_143 (by decide) ?_
                  refine V.callVXi C (X := _) (ct_X6_ofInterview (i := k) (k := 3) hT hN hN40 (by omega) (by omega)) rfl gL_isFair_X6_ofInterview (n := 2) ⟨rfl, by decide, by decide, by decide +kernel⟩ rfl (q0 := 0) rfl rfl rfl ⟨Nat.le_of_ble_eq_true rfl, Nat.le_of_ble_eq_true rfl⟩ ⟨rfl, rfl, Nat.le_of_ble_eq_true rfl, Nat.le_of_ble_eq_true rfl⟩ (Nat.le_of_ble_eq_true rfl) rfl dL_isFair_144 ?_
                  refine V.topi (y := σ 21 k) (rfl) ?_
                  refine V.icmp_ne C (tgt := 162) dL_isFair_147 (by decide) (fun c_51 => ?_) (fun c_51 => ?_)
                  · exfalso
                    exact c_51 (secs_ok hV hk).1.symm
                  · refine V.aload_n C dL_isFair_150 rfl ?_
                    refine V.iload C dL_isFair_151 rfl ?_
                    refine V.iconst C (v := nI 4) dL_isFair_153 (by decide) ?_
                    refine V.callVXi C (X := _) (ct_X6_ofInterview (i := k) (k := 4) hT hN hN40 (by omega) (by omega)) rfl gL_isFair_X6_ofInterview (n := 2) ⟨rfl, by decide, by decide, by decide +kernel⟩ rfl (q0 := 0) rfl rfl rfl ⟨Nat.le_of_ble_eq_true rfl, Nat.le_of_ble_eq_true rfl⟩ ⟨rfl, rfl, Nat.le_of_ble_eq_true rfl, Nat.le_of_ble_eq_true rfl⟩ (Nat.le_of_ble_eq_true rfl) rfl dL_isFair_154 ?_
                    refine V.topi (y := σ 22 k) (rfl) ?_
                    refine V.iload C dL_isFair_157 rfl ?_
                    refine V.icmp_ge C (tgt := 164) dL_isFair_159 (by decide) (fun c_52 => ?_) (fun c_52 => ?_)
                    · refine V.iinc C (v := nI (k + 1)) dL_isFair_164 rfl (nI_inc k) (by decide) rfl ?_
                      dsimp only [List.set]
                      refine V.goto C (tgt := 10) dL_isFair_167 (by decide) ?_
                      refine V.world (w' := SW cI h σ ++ [(aA, .inl (cI, Q, .inl g)), (aO, .inl (cI, P, .inl (onR σ P ((k + 1)))))]) (rfl) ?_
                      exact V.sub (M := [some (.ref (h 0)), some (.int (nI P)), some (.ref aA), some (.ref aO), some (.int (jCnt (isS σ 1) (k + 1))), some (.int (nI (k + 1))), none, none, none, none, none, none]) (lsub_s rfl (lsub_s rfl (lsub_s rfl (lsub_s rfl (lsub_s rfl (lsub_s rfl (lsub_n (lsub_n (lsub_n (lsub_n (lsub_n (lsub_n (lsub_e))))))))))))) ih_k
                    · exfalso
                      exact (secs_ok hV hk).2 c_52
                · exfalso
                  exact absurd c_50 (nI_nlt (Nat.le_refl _) (by omega))
            · exfalso
              exact c_47 rfl
  · try dsimp only
    refine V.iload C dL_isFair_10 rfl ?_
    refine V.aload_n C dL_isFair_12 rfl ?_
    refine V.callSXi C (X := _) (ct_L_interviews hT hV) rfl gL_isFair_L_interviews (n := 1) ⟨by decide, by decide, by decide +kernel⟩ rfl rfl ⟨Nat.le_of_ble_eq_true rfl, Nat.le_of_ble_eq_true rfl⟩ ⟨rfl, rfl, Nat.le_of_ble_eq_true rfl, Nat.le_of_ble_eq_true rfl⟩ (Nat.le_of_ble_eq_true rfl) rfl dL_isFair_13 ?_
    refine V.icmp_ge C (tgt := 170) dL_isFair_16 (by decide) (fun c_53 => ?_) (fun c_53 => ?_)
    · refine V.iconst C (v := nI 0) dL_isFair_170 (by decide) ?_
      refine V.istore C dL_isFair_171 (by decide) rfl ?_
      dsimp only [List.set]
      refine V.iconst C (v := nI 0) dL_isFair_173 (by decide) ?_
      refine V.istore C dL_isFair_174 (by decide) rfl ?_
      dsimp only [List.set]
      refine V.iconst C (v := nI 0) dL_isFair_176 (by decide) ?_
      refine V.istore C dL_isFair_177 (by decide) rfl ?_
      dsimp only [List.set]
      refine V.iconst C (v := nI 0) dL_isFair_179 (by decide) ?_
      refine V.istore C dL_isFair_180 (by decide) rfl ?_
      dsimp only [List.set]
      refine V.loop (P) (fun k => SW cI h σ ++ [(aA, .inl (cI, Q, .inl g)), (aO, .inl (cI, P, .inl (onR σ P (N))))]) (fun k => [some (.ref (h 0)), some (.int (nI P)), some (.ref aA), some (.ref aO), some (.int (jCnt (isS σ 1) N)), some (.int (jSum (σ 15) k)), some (.int (nI 0)), some (.int (nI 0)), some (.int (nI k)), none, none, none]) (fun k hk ih_k => ?_) ?_ (rfl) (lsub_s rfl (lsub_s rfl (lsub_s rfl (lsub_s rfl (lsub_s rfl (lsub_s rfl (lsub_s rfl (lsub_s rfl (lsub_s rfl (lsub_n (lsub_n (lsub_n (lsub_e)))))))))))))
      · try dsimp only
        refine V.iload C dL_isFair_182 rfl ?_
        refine V.iload_n C dL_isFair_184 rfl ?_
        refine V.icmp_ge C (tgt := 247) dL_isFair_185 (by decide) (fun c_54 => ?_) (fun c_54 => ?_)
        · exfalso
          exact c_54 (nI_lt hk (by omega))
        · refine V.aload_n C dL_isFair_188 rfl ?_
          refine V.iload C dL_isFair_189 rfl ?_
          refine V.iald C (q0 := 28) (t0 := 0) rfl hT (rfl) (hk) (by omega) dL_isFair_191 ?_
          refine V.iconst C (v := nI 1) dL_isFair_192 (by decide) ?_
          refine V.icmp_gt C (tgt := 227) dL_isFair_193 (by decide) (fun c_55 => ?_) (fun c_55 => ?_)
          · exfalso
            exact (on_ok hV hk).1 c_55
          · refine V.aload_n C dL_isFair_196 rfl ?_
            refine V.iload C dL_isFair_197 rfl ?_
            refine V.iald C (q0 := 28) (t0 := 0) rfl hT (rfl) (hk) (by omega) dL_isFair_199 ?_
            refine V.iconst C (v := nI 1) dL_isFair_200 (by decide) ?_
            refine V.icmp_ne C (tgt := 215) dL_isFair_201 (by decide) (fun c_56 => ?_) (fun c_56 => ?_)
            · refine V.aload_n C dL_isFair_215 rfl ?_
              refine V.iload C dL_isFair_216 rfl ?_
              refine V.iconst C (v := nI 2) dL_isFair_218 (by decide) ?_
              refine V.callVXi C (X := _) (ct_X6_ofPerson (j := k) (k := 2) hT hN hN40 hP hP24 hpc (by omega) (by omega)) rfl gL_isFair_X6_ofPerson (n := 2) ⟨rfl, by decide, by decide, by decide +kernel⟩ rfl (q0 := 0) rfl rfl rfl ⟨Nat.le_of_ble_eq_true rfl, Nat.le_of_ble_eq_true rfl⟩ ⟨rfl, rfl, Nat.le_of_ble_eq_true rfl, Nat.le_of_ble_eq_true rfl⟩ (Nat.le_of_ble_eq_true rfl) rfl dL_isFair_219 ?_
              refine V.topi (y := jFat σ k (nI 0)) (rfl) ?_
              refine V.bipush C (v := nI 9) dL_isFair_222 (by decide) ?_
              refine V.icmp_le C (tgt := 229) dL_isFair_224 (by decide) (fun c_57 => ?_) (fun c_57 => ?_)
              · refine V.iload C dL_isFair_229 rfl ?_
                refine V.aload_n C dL_isFair_231 rfl ?_
                refine V.iload C dL_isFair_232 rfl ?_
                refine V.iconst C (v := nI 3) dL_isFair_234 (by decide) ?_
                refine V.callVXi C (X := _) (ct_X6_ofPerson (j := k) (k := 3) hT hN hN40 hP hP24 hpc (by omega) (by omega)) rfl gL_isFair_X6_ofPerson (n := 2) ⟨rfl, by decide, by decide, by decide +kernel⟩ rfl (q0 := 0) rfl rfl rfl ⟨Nat.le_of_ble_eq_true rfl, Nat.le_of_ble_eq_true rfl⟩ ⟨rfl, rfl, Nat.le_of_ble_eq_true rfl, Nat.le_of_ble_eq_true rfl⟩ (Nat.le_of_ble_eq_true rfl) rfl dL_isFair_235 ?_
                refine V.iadd C dL_isFair_238 ?_
                refine V.topi (y := jSum (σ 15) (k + 1)) (rfl) ?_
                refine V.istore C dL_isFair_239 (by decide) rfl ?_
                dsimp only [List.set]
                refine V.iinc C (v := nI (k + 1)) dL_isFair_241 rfl (nI_inc k) (by decide) rfl ?_
                dsimp only [List.set]
                refine V.goto C (tgt := 182) dL_isFair_244 (by decide) ?_
                exact V.sub (M := [some (.ref (h 0)), some (.int (nI P)), some (.ref aA), some (.ref aO), some (.int (jCnt (isS σ 1) N)), some (.int (jSum (σ 15) (k + 1))), some (.int (nI 0)), some (.int (nI 0)), some (.int (nI (k + 1))), none, none, none]) (lsub_s rfl (lsub_s rfl (lsub_s rfl (lsub_s rfl (lsub_s rfl (lsub_s rfl (lsub_s rfl (lsub_s rfl (lsub_s rfl (lsub_n (lsub_n (lsub_n (lsub_e))))))))))))) ih_k
              · exfalso
                exact fat_ok hV hk c_57
            · have hon := c_56
              refine V.aload_n C dL_isFair_204 rfl ?_
              refine V.iload C dL_isFair_205 rfl ?_
              refine V.iconst C (v := nI 4) dL_isFair_207 (by decide) ?_
              refine V.callVXi C (X := _) (ct_X6_ofPerson (j := k) (k := 4) hT hN hN40 hP hP24 hpc (by omega) (by omega)) rfl gL_isFair_X6_ofPerson (n := 2) ⟨rfl, by decide, by decide, by decide +kernel⟩ rfl (q0 := 0) rfl rfl rfl ⟨Nat.le_of_ble_eq_true rfl, Nat.le_of_ble_eq_true rfl⟩ ⟨rfl, rfl, Nat.le_of_ble_eq_true rfl, Nat.le_of_ble_eq_true rfl⟩ (Nat.le_of_ble_eq_true rfl) rfl dL_isFair_208 ?_
              refine V.topi (y := bI (jCan σ k (nI 0))) (rfl) ?_
              refine V.iconst C (v := nI 1) dL_isFair_211 (by decide) ?_
              refine V.icmp_eq C (tgt := 227) dL_isFair_212 (by decide) (fun c_58 => ?_) (fun c_58 => ?_)
              · exfalso
                rw [(on_ok hV hk).2 hon] at c_58; exact absurd c_58 (by decide)
              · refine V.aload_n C dL_isFair_215 rfl ?_
                refine V.iload C dL_isFair_216 rfl ?_
                refine V.iconst C (v := nI 2) dL_isFair_218 (by decide) ?_
                refine V.callVXi C (X := _) (ct_X6_ofPerson (j := k) (k := 2) hT hN hN40 hP hP24 hpc (by omega) (by omega)) rfl gL_isFair_X6_ofPerson (n := 2) ⟨rfl, by decide, by decide, by decide +kernel⟩ rfl (q0 := 0) rfl rfl rfl ⟨Nat.le_of_ble_eq_true rfl, Nat.le_of_ble_eq_true rfl⟩ ⟨rfl, rfl, Nat.le_of_ble_eq_true rfl, Nat.le_of_ble_eq_true rfl⟩ (Nat.le_of_ble_eq_true rfl) rfl dL_isFair_219 ?_
                refine V.topi (y := jFat σ k (nI 0)) (rfl) ?_
                refine V.bipush C (v := nI 9) dL_isFair_222 (by decide) ?_
                refine V.icmp_le C (tgt := 229) dL_isFair_224 (by decide) (fun c_59 => ?_) (fun c_59 => ?_)
                · refine V.iload C dL_isFair_229 rfl ?_
                  refine V.aload_n C dL_isFair_231 rfl ?_
                  refine V.iload C dL_isFair_232 rfl ?_
                  refine V.iconst C (v := nI 3) dL_isFair_234 (by decide) ?_
                  refine V.callVXi C (X := _) (ct_X6_ofPerson (j := k) (k := 3) hT hN hN40 hP hP24 hpc (by omega) (by omega)) rfl gL_isFair_X6_ofPerson (n := 2) ⟨rfl, by decide, by decide, by decide +kernel⟩ rfl (q0 := 0) rfl rfl rfl ⟨Nat.le_of_ble_eq_true rfl, Nat.le_of_ble_eq_true rfl⟩ ⟨rfl, rfl, Nat.le_of_ble_eq_true rfl, Nat.le_of_ble_eq_true rfl⟩ (Nat.le_of_ble_eq_true rfl) rfl dL_isFair_235 ?_
                  refine V.iadd C dL_isFair_238 ?_
                  refine V.topi (y := jSum (σ 15) (k + 1)) (rfl) ?_
                  refine V.istore C dL_isFair_239 (by decide) rfl ?_
                  dsimp only [List.set]
                  refine V.iinc C (v := nI (k + 1)) dL_isFair_241 rfl (nI_inc k) (by decide) rfl ?_
                  dsimp only [List.set]
                  refine V.goto C (tgt := 182) dL_isFair_244 (by decide) ?_
                  exact V.sub (M := [some (.ref (h 0)), some (.int (nI P)), some (.ref aA), some (.ref aO), some (.int (jCnt (isS σ 1) N)), some (.int (jSum (σ 15) (k + 1))), some (.int (nI 0)), some (.int (nI 0)), some (.int (nI (k + 1))), none, none, none]) (lsub_s rfl (lsub_s rfl (lsub_s rfl (lsub_s rfl (lsub_s rfl (lsub_s rfl (lsub_s rfl (lsub_s rfl (lsub_s rfl (lsub_n (lsub_n (lsub_n (lsub_e))))))))))))) ih_k
                · exfalso
                  exact fat_ok hV hk c_59
      · try dsimp only
        refine V.iload C dL_isFair_182 rfl ?_
        refine V.iload_n C dL_isFair_184 rfl ?_
        refine V.icmp_ge C (tgt := 247) dL_isFair_185 (by decide) (fun c_60 => ?_) (fun c_60 => ?_)
        · refine V.iconst C (v := nI 0) dL_isFair_247 (by decide) ?_
          refine V.istore C dL_isFair_248 (by decide) rfl ?_
          dsimp only [List.set]
          refine V.loop (3) (fun a => SW cI h σ ++ [(aA, .inl (cI, Q, .inl g)), (aO, .inl (cI, P, .inl (onR σ P (N))))]) (fun a => [some (.ref (h 0)), some (.int (nI P)), some (.ref aA), some (.ref aO), some (.int (jCnt (isS σ 1) N)), some (.int (jSum (σ 15) P)), some (.int (jSum (σ 12) (a * 2))), some (.int (jSum (fun c => jToAsk σ P (nI c)) (a * 2))), some (.int (nI a)), none, none, none]) (fun a ha ih_a => ?_) ?_ (rfl) (lsub_s rfl (lsub_s rfl (lsub_s rfl (lsub_s rfl (lsub_s rfl (lsub_s rfl (lsub_s rfl (lsub_s rfl (lsub_s rfl (lsub_n (lsub_n (lsub_n (lsub_e)))))))))))))
          · try dsimp only
            refine V.iload C dL_isFair_250 rfl ?_
            refine V.iconst C (v := nI 3) dL_isFair_252 (by decide) ?_
            refine V.icmp_ge C (tgt := 364) dL_isFair_253 (by decide) (fun c_61 => ?_) (fun c_61 => ?_)
            · exfalso
              exact c_61 (nI_lt ha (by decide))
            · refine V.iconst C (v := nI 0) dL_isFair_256 (by decide) ?_
              refine V.istore C dL_isFair_257 (by decide) rfl ?_
              dsimp only [List.set]
              refine V.loop (2) (fun b => SW cI h σ ++ [(aA, .inl (cI, Q, .inl g)), (aO, .inl (cI, P, .inl (onR σ P (N))))]) (fun b => [some (.ref (h 0)), some (.int (nI P)), some (.ref aA), some (.ref aO), some (.int (jCnt (isS σ 1) N)), some (.int (jSum (σ 15) P)), some (.int (jSum (σ 12) (a * 2 + b))), some (.int (jSum (fun c => jToAsk σ P (nI c)) (a * 2 + b))), some (.int (nI a)), some (.int (nI b)), none, none]) (fun b hb ih_b => ?_) ?_ (rfl) (lsub_s rfl (lsub_s rfl (lsub_s rfl (lsub_s rfl (lsub_s rfl (lsub_s rfl (lsub_s rfl (lsub_s rfl (lsub_s rfl (lsub_s rfl (lsub_n (lsub_n (lsub_e)))))))))))))
              · try dsimp only
                refine V.iload C dL_isFair_259 rfl ?_
                refine V.iconst C (v := nI 2) dL_isFair_261 (by decide) ?_
                refine V.icmp_ge C (tgt := 358) dL_isFair_262 (by decide) (fun c_62 => ?_) (fun c_62 => ?_)
                · exfalso
                  exact c_62 (nI_lt hb (by decide))
                · refine V.iload C dL_isFair_265 rfl ?_
                  refine V.aload_n C dL_isFair_267 rfl ?_
                  refine V.iload C dL_isFair_268 rfl ?_
                  refine V.iload C dL_isFair_270 rfl ?_
                  refine V.iconst C (v := nI 1) dL_isFair_272 (by decide) ?_
                  refine V.callVXi C (X := _) (ct_X6_ofCell (a := a) (b := b) (k := 1) hT hN hN40 hP hP24 hpc ha hb (by omega)) rfl gL_isFair_X6_ofCell (n := 3) ⟨rfl, by decide, by decide, by decide +kernel⟩ rfl (q0 := 0) rfl rfl rfl ⟨Nat.le_of_ble_eq_true rfl, Nat.le_of_ble_eq_true rfl⟩ ⟨rfl, rfl, Nat.le_of_ble_eq_true rfl, Nat.le_of_ble_eq_true rfl⟩ (Nat.le_of_ble_eq_true rfl) rfl dL_isFair_273 ?_
                  refine V.iadd C dL_isFair_276 ?_
                  refine V.topi (y := jSum (σ 12) (a * 2 + b + 1)) (rfl) ?_
                  refine V.istore C dL_isFair_277 (by decide) rfl ?_
                  dsimp only [List.set]
                  refine V.iload C dL_isFair_279 rfl ?_
                  refine V.aload_n C dL_isFair_281 rfl ?_
                  refine V.iload C dL_isFair_282 rfl ?_
                  refine V.iload C dL_isFair_284 rfl ?_
                  refine V.iconst C (v := nI 4) dL_isFair_286 (by decide) ?_
                  refine V.callVXi C (X := _) (ct_X6_ofCell (a := a) (b := b) (k := 4) hT hN hN40 hP hP24 hpc ha hb (by omega)) rfl gL_isFair_X6_ofCell (n := 3) ⟨rfl, by decide, by decide, by decide +kernel⟩ rfl (q0 := 0) rfl rfl rfl ⟨Nat.le_of_ble_eq_true rfl, Nat.le_of_ble_eq_true rfl⟩ ⟨rfl, rfl, Nat.le_of_ble_eq_true rfl, Nat.le_of_ble_eq_true rfl⟩ (Nat.le_of_ble_eq_true rfl) rfl dL_isFair_287 ?_
                  refine V.iadd C dL_isFair_290 ?_
                  refine V.topi (y := jSum (fun c => jToAsk σ P (nI c)) (a * 2 + b + 1)) (rfl) ?_
                  refine V.istore C dL_isFair_291 (by decide) rfl ?_
                  dsimp only [List.set]
                  refine V.aload_n C dL_isFair_293 rfl ?_
                  refine V.iload C dL_isFair_294 rfl ?_
                  refine V.iload C dL_isFair_296 rfl ?_
                  refine V.iconst C (v := nI 2) dL_isFair_298 (by decide) ?_
                  refine V.callVXi C (X := _) (ct_X6_ofCell (a := a) (b := b) (k := 2) hT hN hN40 hP hP24 hpc ha hb (by omega)) rfl gL_isFair_X6_ofCell (n := 3) ⟨rfl, by decide, by decide, by decide +kernel⟩ rfl (q0 := 0) rfl rfl rfl ⟨Nat.le_of_ble_eq_true rfl, Nat.le_of_ble_eq_true rfl⟩ ⟨rfl, rfl, Nat.le_of_ble_eq_true rfl, Nat.le_of_ble_eq_true rfl⟩ (Nat.le_of_ble_eq_true rfl) rfl dL_isFair_299 ?_
                  refine V.topi (y := bI (jOpen σ (a * 2 + b))) (rfl) ?_
                  refine V.if_ne C (tgt := 317) dL_isFair_302 (by decide) (fun c_63 => ?_) (fun c_63 => ?_)
                  · refine V.aload_n C dL_isFair_317 rfl ?_
                    refine V.iload C dL_isFair_318 rfl ?_
                    refine V.iload C dL_isFair_320 rfl ?_
                    refine V.iconst C (v := nI 1) dL_isFair_322 (by decide) ?_
                    refine V.callVXi C (X := _) (ct_X6_ofCell (a := a) (b := b) (k := 1) hT hN hN40 hP hP24 hpc ha hb (by omega)) rfl gL_isFair_X6_ofCell (n := 3) ⟨rfl, by decide, by decide, by decide +kernel⟩ rfl (q0 := 0) rfl rfl rfl ⟨Nat.le_of_ble_eq_true rfl, Nat.le_of_ble_eq_true rfl⟩ ⟨rfl, rfl, Nat.le_of_ble_eq_true rfl, Nat.le_of_ble_eq_true rfl⟩ (Nat.le_of_ble_eq_true rfl) rfl dL_isFair_323 ?_
                    refine V.topi (y := σ 12 (a * 2 + b)) (rfl) ?_
                    refine V.aload_n C dL_isFair_326 rfl ?_
                    refine V.iload C dL_isFair_327 rfl ?_
                    refine V.iload C dL_isFair_329 rfl ?_
                    refine V.iconst C (v := nI 0) dL_isFair_331 (by decide) ?_
                    refine V.callVXi C (X := _) (ct_X6_ofCell (a := a) (b := b) (k := 0) hT hN hN40 hP hP24 hpc ha hb (by omega)) rfl gL_isFair_X6_ofCell (n := 3) ⟨rfl, by decide, by decide, by decide +kernel⟩ rfl (q0 := 0) rfl rfl rfl ⟨Nat.le_of_ble_eq_true rfl, Nat.le_of_ble_eq_true rfl⟩ ⟨rfl, rfl, Nat.le_of_ble_eq_true rfl, Nat.le_of_ble_eq_true rfl⟩ (Nat.le_of_ble_eq_true rfl) rfl dL_isFair_332 ?_
                    refine V.topi (y := σ 11 (a * 2 + b)) (rfl) ?_
                    refine V.icmp_ge C (tgt := 352) dL_isFair_335 (by decide) (fun c_64 => ?_) (fun c_64 => ?_)
                    · refine V.iinc C (v := nI (b + 1)) dL_isFair_352 rfl (nI_inc b) (by decide) rfl ?_
                      dsimp only [List.set]
                      refine V.goto C (tgt := 259) dL_isFair_355 (by decide) ?_
                      exact V.sub (M := [some (.ref (h 0)), some (.int (nI P)), some (.ref aA), some (.ref aO), some (.int (jCnt (isS σ 1) N)), some (.int (jSum (σ 15) P)), some (.int (jSum (σ 12) (a * 2 + (b + 1)))), some (.int (jSum (fun c => jToAsk σ P (nI c)) (a * 2 + (b + 1)))), some (.int (nI a)), some (.int (nI (b + 1))), none, none]) (lsub_s rfl (lsub_s rfl (lsub_s rfl (lsub_s rfl (lsub_s rfl (lsub_s rfl (lsub_s rfl (lsub_s rfl (lsub_s rfl (lsub_s rfl (lsub_n (lsub_n (lsub_e))))))))))))) ih_b
                    · have hfew := c_64
                      refine V.aload_n C dL_isFair_338 rfl ?_
                      refine V.iload C dL_isFair_339 rfl ?_
                      refine V.iload C dL_isFair_341 rfl ?_
                      refine V.iconst C (v := nI 2) dL_isFair_343 (by decide) ?_
                      refine V.callVXi C (X := _) (ct_X6_ofCell (a := a) (b := b) (k := 2) hT hN hN40 hP hP24 hpc ha hb (by omega)) rfl gL_isFair_X6_ofCell (n := 3) ⟨rfl, by decide, by decide, by decide +kernel⟩ rfl (q0 := 0) rfl rfl rfl ⟨Nat.le_of_ble_eq_true rfl, Nat.le_of_ble_eq_true rfl⟩ ⟨rfl, rfl, Nat.le_of_ble_eq_true rfl, Nat.le_of_ble_eq_true rfl⟩ (Nat.le_of_ble_eq_true rfl) rfl dL_isFair_344 ?_
                      refine V.topi (y := bI (jOpen σ (a * 2 + b))) (rfl) ?_
                      refine V.if_ne C (tgt := 352) dL_isFair_347 (by decide) (fun c_65 => ?_) (fun c_65 => ?_)
                      · refine V.iinc C (v := nI (b + 1)) dL_isFair_352 rfl (nI_inc b) (by decide) rfl ?_
                        dsimp only [List.set]
                        refine V.goto C (tgt := 259) dL_isFair_355 (by decide) ?_
                        exact V.sub (M := [some (.ref (h 0)), some (.int (nI P)), some (.ref aA), some (.ref aO), some (.int (jCnt (isS σ 1) N)), some (.int (jSum (σ 15) P)), some (.int (jSum (σ 12) (a * 2 + (b + 1)))), some (.int (jSum (fun c => jToAsk σ P (nI c)) (a * 2 + (b + 1)))), some (.int (nI a)), some (.int (nI (b + 1))), none, none]) (lsub_s rfl (lsub_s rfl (lsub_s rfl (lsub_s rfl (lsub_s rfl (lsub_s rfl (lsub_s rfl (lsub_s rfl (lsub_s rfl (lsub_s rfl (lsub_n (lsub_n (lsub_e))))))))))))) ih_b
                      · exfalso
                        exact absurd c_65 (by rw [few_open hfew]; decide)
                  · have hcl := bI_0.mp c_63
                    refine V.aload_n C dL_isFair_305 rfl ?_
                    refine V.iload C dL_isFair_306 rfl ?_
                    refine V.iload C dL_isFair_308 rfl ?_
                    refine V.iconst C (v := nI 4) dL_isFair_310 (by decide) ?_
                    refine V.callVXi C (X := _) (ct_X6_ofCell (a := a) (b := b) (k := 4) hT hN hN40 hP hP24 hpc ha hb (by omega)) rfl gL_isFair_X6_ofCell (n := 3) ⟨rfl, by decide, by decide, by decide +kernel⟩ rfl (q0 := 0) rfl rfl rfl ⟨Nat.le_of_ble_eq_true rfl, Nat.le_of_ble_eq_true rfl⟩ ⟨rfl, rfl, Nat.le_of_ble_eq_true rfl, Nat.le_of_ble_eq_true rfl⟩ (Nat.le_of_ble_eq_true rfl) rfl dL_isFair_311 ?_
                    refine V.topi (y := jToAsk σ P (nI (a * 2 + b))) (rfl) ?_
                    refine V.if_gt C (tgt := 350) dL_isFair_314 (by decide) (fun c_66 => ?_) (fun c_66 => ?_)
                    · exfalso
                      rw [closed_ask (by omega) hcl] at c_66; exact absurd c_66 (by decide)
                    · refine V.aload_n C dL_isFair_317 rfl ?_
                      refine V.iload C dL_isFair_318 rfl ?_
                      refine V.iload C dL_isFair_320 rfl ?_
                      refine V.iconst C (v := nI 1) dL_isFair_322 (by decide) ?_
                      refine V.callVXi C (X := _) (ct_X6_ofCell (a := a) (b := b) (k := 1) hT hN hN40 hP hP24 hpc ha hb (by omega)) rfl gL_isFair_X6_ofCell (n := 3) ⟨rfl, by decide, by decide, by decide +kernel⟩ rfl (q0 := 0) rfl rfl rfl ⟨Nat.le_of_ble_eq_true rfl, Nat.le_of_ble_eq_true rfl⟩ ⟨rfl, rfl, Nat.le_of_ble_eq_true rfl, Nat.le_of_ble_eq_true rfl⟩ (Nat.le_of_ble_eq_true rfl) rfl dL_isFair_323 ?_
                      refine V.topi (y := σ 12 (a * 2 + b)) (rfl) ?_
                      refine V.aload_n C dL_isFair_326 rfl ?_
                      refine V.iload C dL_isFair_327 rfl ?_
                      refine V.iload C dL_isFair_329 rfl ?_
                      refine V.iconst C (v := nI 0) dL_isFair_331 (by decide) ?_
                      refine V.callVXi C (X := _) (ct_X6_ofCell (a := a) (b := b) (k := 0) hT hN hN40 hP hP24 hpc ha hb (by omega)) rfl gL_isFair_X6_ofCell (n := 3) ⟨rfl, by decide, by decide, by decide +kernel⟩ rfl (q0 := 0) rfl rfl rfl ⟨Nat.le_of_ble_eq_true rfl, Nat.le_of_ble_eq_true rfl⟩ ⟨rfl, rfl, Nat.le_of_ble_eq_true rfl, Nat.le_of_ble_eq_true rfl⟩ (Nat.le_of_ble_eq_true rfl) rfl dL_isFair_332 ?_
                      refine V.topi (y := σ 11 (a * 2 + b)) (rfl) ?_
                      refine V.icmp_ge C (tgt := 352) dL_isFair_335 (by decide) (fun c_67 => ?_) (fun c_67 => ?_)
                      · refine V.iinc C (v := nI (b + 1)) dL_isFair_352 rfl (nI_inc b) (by decide) rfl ?_
                        dsimp only [List.set]
                        refine V.goto C (tgt := 259) dL_isFair_355 (by decide) ?_
                        exact V.sub (M := [some (.ref (h 0)), some (.int (nI P)), some (.ref aA), some (.ref aO), some (.int (jCnt (isS σ 1) N)), some (.int (jSum (σ 15) P)), some (.int (jSum (σ 12) (a * 2 + (b + 1)))), some (.int (jSum (fun c => jToAsk σ P (nI c)) (a * 2 + (b + 1)))), some (.int (nI a)), some (.int (nI (b + 1))), none, none]) (lsub_s rfl (lsub_s rfl (lsub_s rfl (lsub_s rfl (lsub_s rfl (lsub_s rfl (lsub_s rfl (lsub_s rfl (lsub_s rfl (lsub_s rfl (lsub_n (lsub_n (lsub_e))))))))))))) ih_b
                      · have hfew := c_67
                        refine V.aload_n C dL_isFair_338 rfl ?_
                        refine V.iload C dL_isFair_339 rfl ?_
                        refine V.iload C dL_isFair_341 rfl ?_
                        refine V.iconst C (v := nI 2) dL_isFair_343 (by decide) ?_
                        refine V.callVXi C (X := _) (ct_X6_ofCell (a := a) (b := b) (k := 2) hT hN hN40 hP hP24 hpc ha hb (by omega)) rfl gL_isFair_X6_ofCell (n := 3) ⟨rfl, by decide, by decide, by decide +kernel⟩ rfl (q0 := 0) rfl rfl rfl ⟨Nat.le_of_ble_eq_true rfl, Nat.le_of_ble_eq_true rfl⟩ ⟨rfl, rfl, Nat.le_of_ble_eq_true rfl, Nat.le_of_ble_eq_true rfl⟩ (Nat.le_of_ble_eq_true rfl) rfl dL_isFair_344 ?_
                        refine V.topi (y := bI (jOpen σ (a * 2 + b))) (rfl) ?_
                        refine V.if_ne C (tgt := 352) dL_isFair_347 (by decide) (fun c_68 => ?_) (fun c_68 => ?_)
                        · refine V.iinc C (v := nI (b + 1)) dL_isFair_352 rfl (nI_inc b) (by decide) rfl ?_
                          dsimp only [List.set]
                          refine V.goto C (tgt := 259) dL_isFair_355 (by decide) ?_
                          exact V.sub (M := [some (.ref (h 0)), some (.int (nI P)), some (.ref aA), some (.ref aO), some (.int (jCnt (isS σ 1) N)), some (.int (jSum (σ 15) P)), some (.int (jSum (σ 12) (a * 2 + (b + 1)))), some (.int (jSum (fun c => jToAsk σ P (nI c)) (a * 2 + (b + 1)))), some (.int (nI a)), some (.int (nI (b + 1))), none, none]) (lsub_s rfl (lsub_s rfl (lsub_s rfl (lsub_s rfl (lsub_s rfl (lsub_s rfl (lsub_s rfl (lsub_s rfl (lsub_s rfl (lsub_s rfl (lsub_n (lsub_n (lsub_e))))))))))))) ih_b
                        · exfalso
                          exact absurd c_68 (by rw [few_open hfew]; decide)
              · try dsimp only
                refine V.iload C dL_isFair_259 rfl ?_
                refine V.iconst C (v := nI 2) dL_isFair_261 (by decide) ?_
                refine V.icmp_ge C (tgt := 358) dL_isFair_262 (by decide) (fun c_69 => ?_) (fun c_69 => ?_)
                · refine V.iinc C (v := nI (a + 1)) dL_isFair_358 rfl (nI_inc a) (by decide) rfl ?_
                  dsimp only [List.set]
                  refine V.goto C (tgt := 250) dL_isFair_361 (by decide) ?_
                  exact V.sub (M := [some (.ref (h 0)), some (.int (nI P)), some (.ref aA), some (.ref aO), some (.int (jCnt (isS σ 1) N)), some (.int (jSum (σ 15) P)), some (.int (jSum (σ 12) ((a + 1) * 2))), some (.int (jSum (fun c => jToAsk σ P (nI c)) ((a + 1) * 2))), some (.int (nI (a + 1))), none, none, none]) (lsub_s rfl (lsub_s rfl (lsub_s rfl (lsub_s rfl (lsub_s rfl (lsub_s rfl (lsub_si (by rw [show (a + 1) * 2 = a * 2 + 2 by omega]) rfl (lsub_si (by rw [show (a + 1) * 2 = a * 2 + 2 by omega]) rfl (lsub_s rfl (lsub_n (lsub_n (lsub_n (lsub_e))))))))))))) ih_a
                · exfalso
                  exact absurd c_69 (nI_nlt (Nat.le_refl _) (by decide))
          · try dsimp only
            refine V.iload C dL_isFair_250 rfl ?_
            refine V.iconst C (v := nI 3) dL_isFair_252 (by decide) ?_
            refine V.icmp_ge C (tgt := 364) dL_isFair_253 (by decide) (fun c_70 => ?_) (fun c_70 => ?_)
            · refine V.iconst C (v := nI 0) dL_isFair_364 (by decide) ?_
              refine V.istore C dL_isFair_365 (by decide) rfl ?_
              dsimp only [List.set]
              refine V.loop (Q) (fun q => SW cI h σ ++ [(aA, .inl (cI, Q, .inl g)), (aO, .inl (cI, P, .inl (onR σ P (N))))]) (fun q => [some (.ref (h 0)), some (.int (nI P)), some (.ref aA), some (.ref aO), some (.int (jCnt (isS σ 1) N)), some (.int (jSum (σ 15) P)), some (.int (jSum (σ 12) 6)), some (.int (jSum (fun c => jToAsk σ P (nI c)) 6)), some (.int (nI q)), none, none, none]) (fun q hq ih_q => ?_) ?_ (rfl) (lsub_s rfl (lsub_s rfl (lsub_s rfl (lsub_s rfl (lsub_s rfl (lsub_s rfl (lsub_s rfl (lsub_s rfl (lsub_s rfl (lsub_n (lsub_n (lsub_n (lsub_e)))))))))))))
              · try dsimp only
                refine V.iload C dL_isFair_367 rfl ?_
                refine V.aload_n C dL_isFair_369 rfl ?_
                refine V.alen C (q0 := 27) (t0 := 0) rfl hT dL_isFair_370 ?_
                refine V.topi (y := nI Q) (rfl) ?_
                refine V.icmp_ge C (tgt := 478) dL_isFair_371 (by decide) (fun c_71 => ?_) (fun c_71 => ?_)
                · exfalso
                  exact c_71 (nI_lt hq (by omega))
                · refine V.iconst C (v := nI 0) dL_isFair_374 (by decide) ?_
                  refine V.istore C dL_isFair_375 (by decide) rfl ?_
                  dsimp only [List.set]
                  refine V.iconst C (v := nI 0) dL_isFair_377 (by decide) ?_
                  refine V.istore C dL_isFair_378 (by decide) rfl ?_
                  dsimp only [List.set]
                  refine V.iconst C (v := nI 0) dL_isFair_380 (by decide) ?_
                  refine V.istore C dL_isFair_381 (by decide) rfl ?_
                  dsimp only [List.set]
                  refine V.loop (jA σ q) (fun a => SW cI h σ ++ [(aA, .inl (cI, Q, .inl g)), (aO, .inl (cI, P, .inl (onR σ P (N))))]) (fun a => [some (.ref (h 0)), some (.int (nI P)), some (.ref aA), some (.ref aO), some (.int (jCnt (isS σ 1) N)), some (.int (jSum (σ 15) P)), some (.int (jSum (σ 12) 6)), some (.int (jSum (fun c => jToAsk σ P (nI c)) 6)), some (.int (nI q)), some (.int (jSum (fun a => jShare σ 24 N q (nI a) (-1)) a)), some (.int (jCnt (fun a => decide (jShare σ 24 N q (nI a) (-1) < 0)) a)), some (.int (nI a))]) (fun a ha ih_a => ?_) ?_ (rfl) (lsub_s rfl (lsub_s rfl (lsub_s rfl (lsub_s rfl (lsub_s rfl (lsub_s rfl (lsub_s rfl (lsub_s rfl (lsub_s rfl (lsub_s rfl (lsub_s rfl (lsub_s rfl (lsub_e)))))))))))))
                  · try dsimp only
                    refine V.iload C dL_isFair_383 rfl ?_
                    refine V.aload_n C dL_isFair_385 rfl ?_
                    refine V.iload C dL_isFair_386 rfl ?_
                    refine V.iald C (q0 := 27) (t0 := 0) rfl hT (rfl) (hq) (by omega) dL_isFair_388 ?_
                    refine V.topi (y := nI (jA σ q)) ((hg q hq).trans (hA q hq).1) ?_
                    refine V.icmp_ge C (tgt := 434) dL_isFair_389 (by decide) (fun c_72 => ?_) (fun c_72 => ?_)
                    · exfalso
                      exact c_72 (nI_lt ha (by have := (hA q hq).2; unfold jA; omega))
                    · refine V.iload C dL_isFair_392 rfl ?_
                      refine V.aload_n C dL_isFair_394 rfl ?_
                      refine V.iload C dL_isFair_395 rfl ?_
                      refine V.iload C dL_isFair_397 rfl ?_
                      refine V.iconst C (v := (-1)) dL_isFair_399 (by decide) ?_
                      refine V.callVXi C (X := _) (ct_X6_share (q := q) (a := a) hT hN hN40 hce hQz hQ10 hA hq ha) rfl gL_isFair_X6_share (n := 3) ⟨rfl, by decide, by decide, by decide +kernel⟩ rfl (q0 := 0) rfl rfl rfl ⟨Nat.le_of_ble_eq_true rfl, Nat.le_of_ble_eq_true rfl⟩ ⟨rfl, rfl, Nat.le_of_ble_eq_true rfl, Nat.le_of_ble_eq_true rfl⟩ (Nat.le_of_ble_eq_true rfl) rfl dL_isFair_400 ?_
                      refine V.iadd C dL_isFair_403 ?_
                      refine V.topi (y := jSum (fun a => jShare σ 24 N q (nI a) (-1)) (a + 1)) (rfl) ?_
                      refine V.istore C dL_isFair_404 (by decide) rfl ?_
                      dsimp only [List.set]
                      refine V.iload C dL_isFair_406 rfl ?_
                      refine V.aload_n C dL_isFair_408 rfl ?_
                      refine V.iload C dL_isFair_409 rfl ?_
                      refine V.iload C dL_isFair_411 rfl ?_
                      refine V.iconst C (v := (-1)) dL_isFair_413 (by decide) ?_
                      refine V.callVXi C (X := _) (ct_X6_share (q := q) (a := a) hT hN hN40 hce hQz hQ10 hA hq ha) rfl gL_isFair_X6_share (n := 3) ⟨rfl, by decide, by decide, by decide +kernel⟩ rfl (q0 := 0) rfl rfl rfl ⟨Nat.le_of_ble_eq_true rfl, Nat.le_of_ble_eq_true rfl⟩ ⟨rfl, rfl, Nat.le_of_ble_eq_true rfl, Nat.le_of_ble_eq_true rfl⟩ (Nat.le_of_ble_eq_true rfl) rfl dL_isFair_414 ?_
                      refine V.if_ge C (tgt := 424) dL_isFair_417 (by decide) (fun c_73 => ?_) (fun c_73 => ?_)
                      · refine V.iconst C (v := nI 0) dL_isFair_424 (by decide) ?_
                        refine V.iadd C dL_isFair_425 ?_
                        refine V.topi (y := jCnt (fun a => decide (jShare σ 24 N q (nI a) (-1) < 0)) (a + 1)) (by first | exact cnt_t (decide_eq_true (by assumption)) | exact cnt_f (decide_eq_false (by assumption))) ?_
                        refine V.istore C dL_isFair_426 (by decide) rfl ?_
                        dsimp only [List.set]
                        refine V.iinc C (v := nI (a + 1)) dL_isFair_428 rfl (nI_inc a) (by decide) rfl ?_
                        dsimp only [List.set]
                        refine V.goto C (tgt := 383) dL_isFair_431 (by decide) ?_
                        exact V.sub (M := [some (.ref (h 0)), some (.int (nI P)), some (.ref aA), some (.ref aO), some (.int (jCnt (isS σ 1) N)), some (.int (jSum (σ 15) P)), some (.int (jSum (σ 12) 6)), some (.int (jSum (fun c => jToAsk σ P (nI c)) 6)), some (.int (nI q)), some (.int (jSum (fun a => jShare σ 24 N q (nI a) (-1)) (a + 1))), some (.int (jCnt (fun a => decide (jShare σ 24 N q (nI a) (-1) < 0)) (a + 1))), some (.int (nI (a + 1)))]) (lsub_s rfl (lsub_s rfl (lsub_s rfl (lsub_s rfl (lsub_s rfl (lsub_s rfl (lsub_s rfl (lsub_s rfl (lsub_s rfl (lsub_s rfl (lsub_s rfl (lsub_s rfl (lsub_e))))))))))))) ih_a
                      · refine V.iconst C (v := nI 1) dL_isFair_420 (by decide) ?_
                        refine V.goto C (tgt := 425) dL_isFair_421 (by decide) ?_
                        refine V.iadd C dL_isFair_425 ?_
                        refine V.topi (y := jCnt (fun a => decide (jShare σ 24 N q (nI a) (-1) < 0)) (a + 1)) (by first | exact cnt_t (decide_eq_true (by assumption)) | exact cnt_f (decide_eq_false (by assumption))) ?_
                        refine V.istore C dL_isFair_426 (by decide) rfl ?_
                        dsimp only [List.set]
                        refine V.iinc C (v := nI (a + 1)) dL_isFair_428 rfl (nI_inc a) (by decide) rfl ?_
                        dsimp only [List.set]
                        refine V.goto C (tgt := 383) dL_isFair_431 (by decide) ?_
                        exact V.sub (M := [some (.ref (h 0)), some (.int (nI P)), some (.ref aA), some (.ref aO), some (.int (jCnt (isS σ 1) N)), some (.int (jSum (σ 15) P)), some (.int (jSum (σ 12) 6)), some (.int (jSum (fun c => jToAsk σ P (nI c)) 6)), some (.int (nI q)), some (.int (jSum (fun a => jShare σ 24 N q (nI a) (-1)) (a + 1))), some (.int (jCnt (fun a => decide (jShare σ 24 N q (nI a) (-1) < 0)) (a + 1))), some (.int (nI (a + 1)))]) (lsub_s rfl (lsub_s rfl (lsub_s rfl (lsub_s rfl (lsub_s rfl (lsub_s rfl (lsub_s rfl (lsub_s rfl (lsub_s rfl (lsub_s rfl (lsub_s rfl (lsub_s rfl (lsub_e))))))))))))) ih_a
                  · try dsimp only
                    refine V.iload C dL_isFair_383 rfl ?_
                    refine V.aload_n C dL_isFair_385 rfl ?_
                    refine V.iload C dL_isFair_386 rfl ?_
                    refine V.iald C (q0 := 27) (t0 := 0) rfl hT (rfl) (hq) (by omega) dL_isFair_388 ?_
                    refine V.topi (y := nI (jA σ q)) ((hg q hq).trans (hA q hq).1) ?_
                    refine V.icmp_ge C (tgt := 434) dL_isFair_389 (by decide) (fun c_74 => ?_) (fun c_74 => ?_)
                    · refine V.iload C dL_isFair_434 rfl ?_
                      refine V.if_le C (tgt := 451) dL_isFair_436 (by decide) (fun c_75 => ?_) (fun c_75 => ?_)
                      · have hnone := c_75
                        refine V.iload C dL_isFair_451 rfl ?_
                        refine V.bipush C (v := nI 100) dL_isFair_453 (by decide) ?_
                        refine V.icmp_gt C (tgt := 470) dL_isFair_455 (by decide) (fun c_76 => ?_) (fun c_76 => ?_)
                        · exfalso
                          exact (shares_ok hV hq).2.elim (fun z => hnone z.1) (fun z => z.2.1 c_76)
                        · refine V.iload C dL_isFair_458 rfl ?_
                          refine V.bipush C (v := nI 100) dL_isFair_460 (by decide) ?_
                          refine V.aload_n C dL_isFair_462 rfl ?_
                          refine V.iload C dL_isFair_463 rfl ?_
                          refine V.iald C (q0 := 27) (t0 := 0) rfl hT (rfl) (hq) (by omega) dL_isFair_465 ?_
                          refine V.topi (y := nI (jA σ q)) ((hg q hq).trans (hA q hq).1) ?_
                          refine V.isub C dL_isFair_466 ?_
                          refine V.icmp_gt C (tgt := 472) dL_isFair_467 (by decide) (fun c_77 => ?_) (fun c_77 => ?_)
                          · refine V.iinc C (v := nI (q + 1)) dL_isFair_472 rfl (nI_inc q) (by decide) rfl ?_
                            dsimp only [List.set]
                            refine V.goto C (tgt := 367) dL_isFair_475 (by decide) ?_
                            exact V.sub (M := [some (.ref (h 0)), some (.int (nI P)), some (.ref aA), some (.ref aO), some (.int (jCnt (isS σ 1) N)), some (.int (jSum (σ 15) P)), some (.int (jSum (σ 12) 6)), some (.int (jSum (fun c => jToAsk σ P (nI c)) 6)), some (.int (nI (q + 1))), none, none, none]) (lsub_s rfl (lsub_s rfl (lsub_s rfl (lsub_s rfl (lsub_s rfl (lsub_s rfl (lsub_s rfl (lsub_s rfl (lsub_s rfl (lsub_n (lsub_n (lsub_n (lsub_e))))))))))))) ih_q
                          · exfalso
                            exact (shares_ok hV hq).2.elim (fun z => hnone z.1) (fun z => c_77 z.2.2)
                      · have hnone := c_75
                        refine V.iload C dL_isFair_439 rfl ?_
                        refine V.aload_n C dL_isFair_441 rfl ?_
                        refine V.iload C dL_isFair_442 rfl ?_
                        refine V.iald C (q0 := 27) (t0 := 0) rfl hT (rfl) (hq) (by omega) dL_isFair_444 ?_
                        refine V.topi (y := nI (jA σ q)) ((hg q hq).trans (hA q hq).1) ?_
                        refine V.icmp_eq C (tgt := 472) dL_isFair_445 (by decide) (fun c_78 => ?_) (fun c_78 => ?_)
                        · refine V.iinc C (v := nI (q + 1)) dL_isFair_472 rfl (nI_inc q) (by decide) rfl ?_
                          dsimp only [List.set]
                          refine V.goto C (tgt := 367) dL_isFair_475 (by decide) ?_
                          exact V.sub (M := [some (.ref (h 0)), some (.int (nI P)), some (.ref aA), some (.ref aO), some (.int (jCnt (isS σ 1) N)), some (.int (jSum (σ 15) P)), some (.int (jSum (σ 12) 6)), some (.int (jSum (fun c => jToAsk σ P (nI c)) 6)), some (.int (nI (q + 1))), none, none, none]) (lsub_s rfl (lsub_s rfl (lsub_s rfl (lsub_s rfl (lsub_s rfl (lsub_s rfl (lsub_s rfl (lsub_s rfl (lsub_s rfl (lsub_n (lsub_n (lsub_n (lsub_e))))))))))))) ih_q
                        · exfalso
                          exact (shares_ok hV hq).2.elim (fun z => c_78 z.2) (fun z => z.1 hnone)
                    · exfalso
                      exact absurd c_74 (nI_nlt (Nat.le_refl _) (by have := (hA q hq).2; unfold jA; omega))
              · try dsimp only
                refine V.iload C dL_isFair_367 rfl ?_
                refine V.aload_n C dL_isFair_369 rfl ?_
                refine V.alen C (q0 := 27) (t0 := 0) rfl hT dL_isFair_370 ?_
                refine V.topi (y := nI Q) (rfl) ?_
                refine V.icmp_ge C (tgt := 478) dL_isFair_371 (by decide) (fun c_79 => ?_) (fun c_79 => ?_)
                · refine V.iload C dL_isFair_478 rfl ?_
                  refine V.iload C dL_isFair_480 rfl ?_
                  refine V.icmp_ne C (tgt := 529) dL_isFair_482 (by decide) (fun c_80 => ?_) (fun c_80 => ?_)
                  · exfalso
                    exact c_80 (by rw [filled_all hV, jCnt_cN])
                  · refine V.iload C dL_isFair_485 rfl ?_
                    refine V.aload_n C dL_isFair_487 rfl ?_
                    refine V.bipush C (v := nI 8) dL_isFair_488 (by decide) ?_
                    refine V.callVXi C (X := _) (ct_X6_many (k := 8) hT hN hN40 hP hP24 hpc (by omega)) rfl gL_isFair_X6_many (n := 1) ⟨rfl, by decide, by decide, by decide +kernel⟩ rfl (q0 := 0) rfl rfl rfl ⟨Nat.le_of_ble_eq_true rfl, Nat.le_of_ble_eq_true rfl⟩ ⟨rfl, rfl, Nat.le_of_ble_eq_true rfl, Nat.le_of_ble_eq_true rfl⟩ (Nat.le_of_ble_eq_true rfl) rfl dL_isFair_490 ?_
                    refine V.topi (y := jSum (fun c => jToAsk σ P (nI c)) 6) (rfl) ?_
                    refine V.icmp_ne C (tgt := 529) dL_isFair_493 (by decide) (fun c_81 => ?_) (fun c_81 => ?_)
                    · exfalso
                      exact c_81 rfl
                    · refine V.iload C dL_isFair_496 rfl ?_
                      refine V.aload_n C dL_isFair_498 rfl ?_
                      refine V.bipush C (v := nI 9) dL_isFair_499 (by decide) ?_
                      refine V.callVXi C (X := _) (ct_X6_many (k := 9) hT hN hN40 hP hP24 hpc (by omega)) rfl gL_isFair_X6_many (n := 1) ⟨rfl, by decide, by decide, by decide +kernel⟩ rfl (q0 := 0) rfl rfl rfl ⟨Nat.le_of_ble_eq_true rfl, Nat.le_of_ble_eq_true rfl⟩ ⟨rfl, rfl, Nat.le_of_ble_eq_true rfl, Nat.le_of_ble_eq_true rfl⟩ (Nat.le_of_ble_eq_true rfl) rfl dL_isFair_501 ?_
                      refine V.topi (y := jSum (σ 15) P) (rfl) ?_
                      refine V.icmp_ne C (tgt := 529) dL_isFair_504 (by decide) (fun c_82 => ?_) (fun c_82 => ?_)
                      · exfalso
                        exact c_82 rfl
                      · refine V.iload C dL_isFair_507 rfl ?_
                        refine V.bipush C (v := nI 10) dL_isFair_509 (by decide) ?_
                        refine V.iload C dL_isFair_511 rfl ?_
                        refine V.imul C dL_isFair_513 ?_
                        refine V.iconst C (v := nI 2) dL_isFair_514 (by decide) ?_
                        refine V.aload_n C dL_isFair_515 rfl ?_
                        refine V.iconst C (v := nI 4) dL_isFair_516 (by decide) ?_
                        refine V.callVXi C (X := _) (ct_X6_many (k := 4) hT hN hN40 hP hP24 hpc (by omega)) rfl gL_isFair_X6_many (n := 1) ⟨rfl, by decide, by decide, by decide +kernel⟩ rfl (q0 := 0) rfl rfl rfl ⟨Nat.le_of_ble_eq_true rfl, Nat.le_of_ble_eq_true rfl⟩ ⟨rfl, rfl, Nat.le_of_ble_eq_true rfl, Nat.le_of_ble_eq_true rfl⟩ (Nat.le_of_ble_eq_true rfl) rfl dL_isFair_517 ?_
                        refine V.topi (y := jMany σ N P 4) (rfl) ?_
                        refine V.imul C dL_isFair_520 ?_
                        refine V.iadd C dL_isFair_521 ?_
                        refine V.topi (y := jSum (σ 15) P) ((by rw [jCnt_cN]; exact (points_all hV).symm)) ?_
                        refine V.icmp_ne C (tgt := 529) dL_isFair_522 (by decide) (fun c_83 => ?_) (fun c_83 => ?_)
                        · exfalso
                          exact c_83 rfl
                        · refine V.iconst C (v := nI 1) dL_isFair_525 (by decide) ?_
                          refine V.goto C (tgt := 530) dL_isFair_526 (by decide) ?_
                          refine V.reord (List.range 28) (w' := SW cI h σ ++ [(aA, .inl (cI, Q, .inl g))]) rfl (by decide) rfl ?_
                          refine hQ _ _ _ _ _ (Or.inr (Or.inl ⟨_, _, dL_isFair_530, rfl, (by first | rfl | exact nar_bI _), rfl, rfl⟩)) ⟨?_, rfl⟩
                          rfl
                · exfalso
                  exact absurd c_79 (nI_nlt (Nat.le_refl _) (by omega))
            · exfalso
              exact absurd c_70 (nI_nlt (Nat.le_refl _) (by decide))
        · exfalso
          exact absurd c_60 (nI_nlt (Nat.le_refl _) (by omega))
    · exfalso
      exact absurd c_53 (nI_nlt (Nat.le_refl _) (by omega))
