set_option maxRecDepth 100000 in
set_option maxHeartbeats 8000000 in
theorem law_c0 {κ : VK} {l : Launch} {D : va_G} {tys : List (ClassId × FieldType)} {nm : String} {cI : ClassId} {h : Nat → Nat} (hT : tys[0]? = some (cI, .int)) {b n : Nat} {xs : Nat → Int32} (hn : n ≤ 260) (C : Cx κ l D code RL wsL_law 16 ret tys room_1 nm) (CX : CxX κ b n xs) {aA aH P Q N i cl sl : Nat} {x : Int32} {g hel : Nat → Int32} {σ : Nat → Nat → Int32} (hcl : cl ≤ 600000) (hsl : sl ≤ 7300000) (hQ0 : 0 < Q) (hJ : LJ P Q g N hel σ) (kk : ∀ (τ : Nat → Nat → Int32) (N1 : Nat) (hel1 : Nat → Int32), LJ P Q g N1 hel1 τ → V κ cl sl (SW cI h τ ++ [(aA, .inl (cI, Q, .inl g)), (aH, .inl (cI, Q, .inl hel1))]) 737 [some (.ref b), some (.ref (h 0)), some (.int (nI Q)), some (.ref aA), some (.int (nI P)), some (.ref aH), some (.int (nI i)), none, none, none, none, none, none, none, none, none] []) : V κ cl sl (SW cI h σ ++ [(aA, .inl (cI, Q, .inl g)), (aH, .inl (cI, Q, .inl hel))]) 420 [some (.ref b), some (.ref (h 0)), some (.int (nI Q)), some (.ref aA), some (.int (nI P)), some (.ref aH), some (.int (nI i)), some (.int x), some (.int (jRun σ N)), none, none, none, none, none, none, none] [] := by
  have hV := hJ.1
  obtain ⟨⟨hN, hN40, hP, hP24, hQz, hQ10, hn0, hn9⟩, -⟩ := id hV
  have hpc := Inv_hpc hV.2.2.2.1
  have hce := Inv_hce hV.2.2.2.2.1 hV.2.2.2.1 hP24
  have hpe := Inv_hpe hV.2.2.2.2.1 hP24
  have hA := Inv_hA hV.2.1
  have hV2 := Inv_day hV
  obtain ⟨⟨hN2, hN402, hP2, hP242, hQz2, hQ102, hn02, hn92⟩, -⟩ := id hV2
  refine V.aload_n C dL_law_420 rfl ?_
  refine V.callVXi C (X := _) (ct_X6_day hT hP hP24) rfl gL_law_X6_day (n := 0) ⟨rfl, by decide, by decide, by decide +kernel⟩ rfl (q0 := 0) rfl rfl rfl ⟨Nat.le_of_ble_eq_true rfl, Nat.le_of_ble_eq_true rfl⟩ ⟨rfl, rfl, by first | exact Nat.le_of_ble_eq_true rfl | (show _ ≤ 600104; omega), by first | exact Nat.le_of_ble_eq_true rfl | (show _ ≤ 7301314; omega)⟩ (Nat.le_of_ble_eq_true rfl) rfl dL_law_421 ?_
  refine V.aload_n C dL_law_424 rfl ?_
  refine V.bipush C (v := nI 11) dL_law_425 (by decide) ?_
  refine V.callVXi C (X := _) (ct_X6_many (σ := jDay σ P) (k := 11) hT hN2 hN402 hP2 hP242 (Inv_hpc hV2.2.2.2.1) (by omega)) rfl gL_law_X6_many (n := 1) ⟨rfl, by decide, by decide, by decide +kernel⟩ rfl (q0 := 0) rfl rfl rfl ⟨Nat.le_of_ble_eq_true rfl, Nat.le_of_ble_eq_true rfl⟩ ⟨rfl, rfl, by first | exact Nat.le_of_ble_eq_true rfl | (show _ ≤ 600104; omega), by first | exact Nat.le_of_ble_eq_true rfl | (show _ ≤ 7301314; omega)⟩ (Nat.le_of_ble_eq_true rfl) rfl dL_law_427 ?_
  refine V.topi (y := σ 3 1 + nI 1) (by show jDay σ P 3 1 = _; rw [show jDay σ P 3 1 = jDayF σ P 3 1 + nI 1 from sW_at _ _ _ _, jDayF_3 σ P]) ?_
  refine V.icmp_eq C (tgt := 737) dL_law_430 (by decide) (fun c_1 => ?_) (fun c_1 => ?_)
  · refine V.sub (M := [some (.ref b), some (.ref (h 0)), some (.int (nI Q)), some (.ref aA), some (.int (nI P)), some (.ref aH), some (.int (nI i)), none, none, none, none, none, none, none, none, none]) (lsub_s rfl (lsub_s rfl (lsub_s rfl (lsub_s rfl (lsub_s rfl (lsub_s rfl (lsub_s rfl (lsub_n (lsub_n (lsub_n (lsub_n (lsub_n (lsub_n (lsub_n (lsub_n (lsub_n (lsub_e))))))))))))))))) ?_
    exact kk _ N hel (LJ_day hJ)
  · exfalso
    exact c_1 rfl
set_option maxRecDepth 100000 in
set_option maxHeartbeats 8000000 in
theorem law_c1 {κ : VK} {l : Launch} {D : va_G} {tys : List (ClassId × FieldType)} {nm : String} {cI : ClassId} {h : Nat → Nat} (hT : tys[0]? = some (cI, .int)) {b n : Nat} {xs : Nat → Int32} (hn : n ≤ 260) (C : Cx κ l D code RL wsL_law 16 ret tys room_1 nm) (CX : CxX κ b n xs) {aA aH P Q N i cl sl : Nat} {x : Int32} {g hel : Nat → Int32} {σ : Nat → Nat → Int32} (hcl : cl ≤ 600000) (hsl : sl ≤ 7300000) (hQ0 : 0 < Q) (hJ : LJ P Q g N hel σ) (kk : ∀ (τ : Nat → Nat → Int32) (N1 : Nat) (hel1 : Nat → Int32), LJ P Q g N1 hel1 τ → V κ cl sl (SW cI h τ ++ [(aA, .inl (cI, Q, .inl g)), (aH, .inl (cI, Q, .inl hel1))]) 737 [some (.ref b), some (.ref (h 0)), some (.int (nI Q)), some (.ref aA), some (.int (nI P)), some (.ref aH), some (.int (nI i)), none, none, none, none, none, none, none, none, none] []) : V κ cl sl (SW cI h σ ++ [(aA, .inl (cI, Q, .inl g)), (aH, .inl (cI, Q, .inl hel))]) 435 [some (.ref b), some (.ref (h 0)), some (.int (nI Q)), some (.ref aA), some (.int (nI P)), some (.ref aH), some (.int (nI i)), some (.int x), some (.int (jRun σ N)), none, none, none, none, none, none, none] [] := by
  have hV := hJ.1
  obtain ⟨⟨hN, hN40, hP, hP24, hQz, hQ10, hn0, hn9⟩, -⟩ := id hV
  have hpc := Inv_hpc hV.2.2.2.1
  have hce := Inv_hce hV.2.2.2.2.1 hV.2.2.2.1 hP24
  have hpe := Inv_hpe hV.2.2.2.2.1 hP24
  have hA := Inv_hA hV.2.1
  obtain ⟨o, ho, ho1, ho2, ho3⟩ := cleaned_eq hV
  have hd := cN_le (jDirty σ) N
  have hV2 := clean_inv hV
  obtain ⟨⟨hN2, hN402, hP2, hP242, hQz2, hQ102, hn02, hn92⟩, -⟩ := id hV2
  refine V.iconst C (v := nI 0) dL_law_435 (by decide) ?_
  refine V.istore C dL_law_436 (by decide) rfl ?_
  dsimp only [List.set]
  refine V.iconst C (v := nI 0) dL_law_438 (by decide) ?_
  refine V.istore C dL_law_439 (by decide) rfl ?_
  dsimp only [List.set]
  refine V.loop (N) (fun k => SW cI h σ ++ [(aA, .inl (cI, Q, .inl g)), (aH, .inl (cI, Q, .inl hel))]) (fun k => [some (.ref b), some (.ref (h 0)), some (.int (nI Q)), some (.ref aA), some (.int (nI P)), some (.ref aH), some (.int (nI i)), some (.int x), some (.int (jRun σ N)), some (.int (nI (cN (jDirty σ) k))), some (.int (nI k)), none, none, none, none, none]) (fun k hk ih_k => ?_) ?_ (rfl) (lsub_s rfl (lsub_s rfl (lsub_s rfl (lsub_s rfl (lsub_s rfl (lsub_s rfl (lsub_s rfl (lsub_s rfl (lsub_s rfl (lsub_s rfl (lsub_s rfl (lsub_n (lsub_n (lsub_n (lsub_n (lsub_n (lsub_e)))))))))))))))))
  · try dsimp only
    refine V.iload C dL_law_441 rfl ?_
    refine V.aload_n C dL_law_443 rfl ?_
    refine V.callSXi C (X := _) (ct_L_interviews hT hV) rfl gL_law_L_interviews (n := 1) ⟨by decide, by decide, by decide +kernel⟩ rfl rfl ⟨Nat.le_of_ble_eq_true rfl, Nat.le_of_ble_eq_true rfl⟩ ⟨rfl, rfl, by first | exact Nat.le_of_ble_eq_true rfl | (show _ ≤ 600104; omega), by first | exact Nat.le_of_ble_eq_true rfl | (show _ ≤ 7301314; omega)⟩ (Nat.le_of_ble_eq_true rfl) rfl dL_law_444 ?_
    refine V.icmp_ge C (tgt := 469) dL_law_447 (by decide) (fun c_1 => ?_) (fun c_1 => ?_)
    · exfalso
      exact c_1 (nI_lt hk (by omega))
    · refine V.iload C dL_law_450 rfl ?_
      refine V.aload_n C dL_law_452 rfl ?_
      refine V.iload C dL_law_453 rfl ?_
      refine V.bipush C (v := nI 6) dL_law_455 (by decide) ?_
      refine V.callVXi C (X := _) (ct_X6_ofInterview (i := k) (k := 6) hT hN hN40 hk (by omega)) rfl gL_law_X6_ofInterview (n := 2) ⟨rfl, by decide, by decide, by decide +kernel⟩ rfl (q0 := 0) rfl rfl rfl ⟨Nat.le_of_ble_eq_true rfl, Nat.le_of_ble_eq_true rfl⟩ ⟨rfl, rfl, by first | exact Nat.le_of_ble_eq_true rfl | (show _ ≤ 600104; omega), by first | exact Nat.le_of_ble_eq_true rfl | (show _ ≤ 7301314; omega)⟩ (Nat.le_of_ble_eq_true rfl) rfl dL_law_457 ?_
      refine V.iadd C dL_law_460 ?_
      refine V.topi (y := nI (cN (jDirty σ) (k + 1))) (cnB _ _) ?_
      refine V.istore C dL_law_461 (by decide) rfl ?_
      dsimp only [List.set]
      refine V.iinc C (v := nI (k + 1)) dL_law_463 rfl (nI_inc k) (by decide) rfl ?_
      dsimp only [List.set]
      refine V.goto C (tgt := 441) dL_law_466 (by decide) ?_
      exact V.sub (M := [some (.ref b), some (.ref (h 0)), some (.int (nI Q)), some (.ref aA), some (.int (nI P)), some (.ref aH), some (.int (nI i)), some (.int x), some (.int (jRun σ N)), some (.int (nI (cN (jDirty σ) (k + 1)))), some (.int (nI (k + 1))), none, none, none, none, none]) (lsub_s rfl (lsub_s rfl (lsub_s rfl (lsub_s rfl (lsub_s rfl (lsub_s rfl (lsub_s rfl (lsub_s rfl (lsub_s rfl (lsub_s rfl (lsub_s rfl (lsub_n (lsub_n (lsub_n (lsub_n (lsub_n (lsub_e))))))))))))))))) ih_k
  · try dsimp only
    refine V.iload C dL_law_441 rfl ?_
    refine V.aload_n C dL_law_443 rfl ?_
    refine V.callSXi C (X := _) (ct_L_interviews hT hV) rfl gL_law_L_interviews (n := 1) ⟨by decide, by decide, by decide +kernel⟩ rfl rfl ⟨Nat.le_of_ble_eq_true rfl, Nat.le_of_ble_eq_true rfl⟩ ⟨rfl, rfl, by first | exact Nat.le_of_ble_eq_true rfl | (show _ ≤ 600104; omega), by first | exact Nat.le_of_ble_eq_true rfl | (show _ ≤ 7301314; omega)⟩ (Nat.le_of_ble_eq_true rfl) rfl dL_law_444 ?_
    refine V.icmp_ge C (tgt := 469) dL_law_447 (by decide) (fun c_2 => ?_) (fun c_2 => ?_)
    · refine V.aload_n C dL_law_469 rfl ?_
      refine V.callVXi C (X := _) (ct_X6_cleaned hT hN hN40) rfl gL_law_X6_cleaned (n := 0) ⟨rfl, by decide, by decide, by decide +kernel⟩ rfl (q0 := 0) rfl rfl rfl ⟨Nat.le_of_ble_eq_true rfl, Nat.le_of_ble_eq_true rfl⟩ ⟨rfl, rfl, by first | exact Nat.le_of_ble_eq_true rfl | (show _ ≤ 600104; omega), by first | exact Nat.le_of_ble_eq_true rfl | (show _ ≤ 7301314; omega)⟩ (Nat.le_of_ble_eq_true rfl) rfl dL_law_470 ?_
      refine V.topi (y := nI (cN (jDirty σ) N + 100 * o)) (ho1) ?_
      refine V.istore C dL_law_473 (by decide) rfl ?_
      dsimp only [List.set]
      refine V.aload_n C dL_law_475 rfl ?_
      refine V.bipush C (v := nI 7) dL_law_476 (by decide) ?_
      refine V.callVXi C (X := _) (ct_X6_many (k := 7) hT hN hN40 hP hP24 hpc (by omega)) rfl gL_law_X6_many (n := 1) ⟨rfl, by decide, by decide, by decide +kernel⟩ rfl (q0 := 0) rfl rfl rfl ⟨Nat.le_of_ble_eq_true rfl, Nat.le_of_ble_eq_true rfl⟩ ⟨rfl, rfl, by first | exact Nat.le_of_ble_eq_true rfl | (show _ ≤ 600104; omega), by first | exact Nat.le_of_ble_eq_true rfl | (show _ ≤ 7301314; omega)⟩ (Nat.le_of_ble_eq_true rfl) rfl dL_law_478 ?_
      refine V.topi (y := nI (cN (jOpen σ) 6)) (ho3) ?_
      refine V.istore C dL_law_481 (by decide) rfl ?_
      dsimp only [List.set]
      refine V.iload C dL_law_483 rfl ?_
      refine V.bipush C (v := nI 100) dL_law_485 (by decide) ?_
      refine V.irem C dL_law_487 (by decide) ?_
      refine V.topi (y := nI (cN (jDirty σ) N)) ((nI_mod (by omega) (by decide) (by decide)).trans (by rw [show (cN (jDirty σ) N + 100 * o) % 100 = cN (jDirty σ) N by omega])) ?_
      refine V.iload C dL_law_488 rfl ?_
      refine V.icmp_ne C (tgt := 519) dL_law_490 (by decide) (fun c_3 => ?_) (fun c_3 => ?_)
      · exfalso
        exact c_3 rfl
      · refine V.aload_n C dL_law_493 rfl ?_
        refine V.callVXi C (X := _) (ct_X6_clean hT hN hN40 hce hpe hn0 hn9) rfl gL_law_X6_clean (n := 0) ⟨rfl, by decide, by decide, by decide +kernel⟩ rfl (q0 := 0) rfl rfl rfl ⟨Nat.le_of_ble_eq_true rfl, Nat.le_of_ble_eq_true rfl⟩ ⟨rfl, rfl, by first | exact Nat.le_of_ble_eq_true rfl | (show _ ≤ 600104; omega), by first | exact Nat.le_of_ble_eq_true rfl | (show _ ≤ 7301314; omega)⟩ (Nat.le_of_ble_eq_true rfl) rfl dL_law_494 ?_
        refine V.topi (y := nI (cN (jDirty σ) N)) (jClN_cN σ N) ?_
        refine V.iload C dL_law_497 rfl ?_
        refine V.icmp_ne C (tgt := 519) dL_law_499 (by decide) (fun c_4 => ?_) (fun c_4 => ?_)
        · exfalso
          exact c_4 rfl
        · refine V.aload_n C dL_law_502 rfl ?_
          refine V.bipush C (v := nI 7) dL_law_503 (by decide) ?_
          refine V.callVXi C (X := _) (ct_X6_many (σ := jWeigh (jCl σ N) 24 N 3) (k := 7) hT hN2 hN402 hP2 hP242 (Inv_hpc hV2.2.2.2.1) (by omega)) rfl gL_law_X6_many (n := 1) ⟨rfl, by decide, by decide, by decide +kernel⟩ rfl (q0 := 0) rfl rfl rfl ⟨Nat.le_of_ble_eq_true rfl, Nat.le_of_ble_eq_true rfl⟩ ⟨rfl, rfl, by first | exact Nat.le_of_ble_eq_true rfl | (show _ ≤ 600104; omega), by first | exact Nat.le_of_ble_eq_true rfl | (show _ ≤ 7301314; omega)⟩ (Nat.le_of_ble_eq_true rfl) rfl dL_law_505 ?_
          refine V.topi (y := nI (cN (jOpen σ) 6 + o)) (ho2) ?_
          refine V.iload C dL_law_508 rfl ?_
          refine V.iload C dL_law_510 rfl ?_
          refine V.bipush C (v := nI 100) dL_law_512 (by decide) ?_
          refine V.idiv C dL_law_514 (by decide) ?_
          refine V.topi (y := nI o) ((nI_div (by omega) (by decide) (by decide)).trans (by rw [show (cN (jDirty σ) N + 100 * o) / 100 = o by omega])) ?_
          refine V.iadd C dL_law_515 ?_
          refine V.topi (y := nI (cN (jOpen σ) 6 + o)) (nI_add _ _) ?_
          refine V.icmp_ge C (tgt := 737) dL_law_516 (by decide) (fun c_5 => ?_) (fun c_5 => ?_)
          · refine V.sub (M := [some (.ref b), some (.ref (h 0)), some (.int (nI Q)), some (.ref aA), some (.int (nI P)), some (.ref aH), some (.int (nI i)), none, none, none, none, none, none, none, none, none]) (lsub_s rfl (lsub_s rfl (lsub_s rfl (lsub_s rfl (lsub_s rfl (lsub_s rfl (lsub_s rfl (lsub_n (lsub_n (lsub_n (lsub_n (lsub_n (lsub_n (lsub_n (lsub_n (lsub_n (lsub_e))))))))))))))))) ?_
            exact kk _ N hel (LJ_clean hJ)
          · exfalso
            exact Int32.lt_irrefl c_5
    · exfalso
      exact absurd c_2 (nI_nlt (Nat.le_refl _) (by omega))
set_option maxRecDepth 100000 in
set_option maxHeartbeats 8000000 in
theorem law_c2 {κ : VK} {l : Launch} {D : va_G} {tys : List (ClassId × FieldType)} {nm : String} {cI : ClassId} {h : Nat → Nat} (hT : tys[0]? = some (cI, .int)) {b n : Nat} {xs : Nat → Int32} (hn : n ≤ 260) (C : Cx κ l D code RL wsL_law 16 ret tys room_1 nm) (CX : CxX κ b n xs) {aA aH P Q N i cl sl : Nat} {x : Int32} {g hel : Nat → Int32} {σ : Nat → Nat → Int32} (hcl : cl ≤ 600000) (hsl : sl ≤ 7300000) (hQ0 : 0 < Q) (hJ : LJ P Q g N hel σ) (kk : ∀ (τ : Nat → Nat → Int32) (N1 : Nat) (hel1 : Nat → Int32), LJ P Q g N1 hel1 τ → V κ cl sl (SW cI h τ ++ [(aA, .inl (cI, Q, .inl g)), (aH, .inl (cI, Q, .inl hel1))]) 737 [some (.ref b), some (.ref (h 0)), some (.int (nI Q)), some (.ref aA), some (.int (nI P)), some (.ref aH), some (.int (nI i)), none, none, none, none, none, none, none, none, none] []) : V κ cl sl (SW cI h σ ++ [(aA, .inl (cI, Q, .inl g)), (aH, .inl (cI, Q, .inl hel))]) 521 [some (.ref b), some (.ref (h 0)), some (.int (nI Q)), some (.ref aA), some (.int (nI P)), some (.ref aH), some (.int (nI i)), some (.int x), some (.int (jRun σ N)), none, none, none, none, none, none, none] [] := by
  have hV := hJ.1
  obtain ⟨⟨hN, hN40, hP, hP24, hQz, hQ10, hn0, hn9⟩, -⟩ := id hV
  have hpc := Inv_hpc hV.2.2.2.1
  have hce := Inv_hce hV.2.2.2.2.1 hV.2.2.2.1 hP24
  have hpe := Inv_hpe hV.2.2.2.2.1 hP24
  have hA := Inv_hA hV.2.1
  refine V.aload_n C dL_law_521 rfl ?_
  refine V.bipush C (v := nI 10) dL_law_522 (by decide) ?_
  refine V.callVXi C (X := _) (ct_X6_many (k := 10) hT hN hN40 hP hP24 hpc (by omega)) rfl gL_law_X6_many (n := 1) ⟨rfl, by decide, by decide, by decide +kernel⟩ rfl (q0 := 0) rfl rfl rfl ⟨Nat.le_of_ble_eq_true rfl, Nat.le_of_ble_eq_true rfl⟩ ⟨rfl, rfl, by first | exact Nat.le_of_ble_eq_true rfl | (show _ ≤ 600104; omega), by first | exact Nat.le_of_ble_eq_true rfl | (show _ ≤ 7301314; omega)⟩ (Nat.le_of_ble_eq_true rfl) rfl dL_law_524 ?_
  refine V.topi (y := σ 7 0) (rfl) ?_
  refine V.if_le C (tgt := 533) dL_law_527 (by decide) (fun c_1 => ?_) (fun c_1 => ?_)
  · have h70 : σ 7 0 = nI 0 := hJ.2.2.resolve_right (fun z => by rw [z.1] at c_1; exact c_1 (by decide))
    refine V.iconst C (v := nI 0) dL_law_533 (by decide) ?_
    refine V.istore C dL_law_534 (by decide) rfl ?_
    dsimp only [List.set]
    refine V.loop (Q) (fun k => SW cI h σ ++ [(aA, .inl (cI, Q, .inl g)), (aH, .inl (cI, Q, .inl (helK σ N hel k)))]) (fun k => [some (.ref b), some (.ref (h 0)), some (.int (nI Q)), some (.ref aA), some (.int (nI P)), some (.ref aH), some (.int (nI i)), some (.int x), some (.int (jRun σ N)), none, none, none, some (.int (nI k)), none, none, none]) (fun k hk ih_k => ?_) ?_ (by rw [← helK_0]) (lsub_s rfl (lsub_s rfl (lsub_s rfl (lsub_s rfl (lsub_s rfl (lsub_s rfl (lsub_s rfl (lsub_s rfl (lsub_s rfl (lsub_n (lsub_n (lsub_n (lsub_s rfl (lsub_n (lsub_n (lsub_n (lsub_e)))))))))))))))))
    · try dsimp only
      refine V.iload C dL_law_536 rfl ?_
      refine V.iload_n C dL_law_538 rfl ?_
      refine V.icmp_ge C (tgt := 561) dL_law_539 (by decide) (fun c_2 => ?_) (fun c_2 => ?_)
      · exfalso
        exact c_2 (nI_lt hk (by omega))
      · refine V.aload C dL_law_542 rfl ?_
        refine V.iload C dL_law_544 rfl ?_
        refine V.aload_n C dL_law_546 rfl ?_
        refine V.iload C dL_law_547 rfl ?_
        refine V.iconst C (v := nI 0) dL_law_549 (by decide) ?_
        refine V.iconst C (v := (-1)) dL_law_550 (by decide) ?_
        refine V.callVXi C (X := _) (ct_X6_share (q := k) (a := 0) hT hN hN40 hce hQz hQ10 hA hk (by have := Inv_jA hV.2.1 hk; omega)) rfl gL_law_X6_share (n := 3) ⟨rfl, by decide, by decide, by decide +kernel⟩ rfl (q0 := 0) rfl rfl rfl ⟨Nat.le_of_ble_eq_true rfl, Nat.le_of_ble_eq_true rfl⟩ ⟨rfl, rfl, by first | exact Nat.le_of_ble_eq_true rfl | (show _ ≤ 600104; omega), by first | exact Nat.le_of_ble_eq_true rfl | (show _ ≤ 7301314; omega)⟩ (Nat.le_of_ble_eq_true rfl) rfl dL_law_551 ?_
        refine V.iast C (q0 := 28) (t0 := 0) (w' := _) rfl hT (rfl) (hk) (by omega) rfl dL_law_554 ?_
        refine V.world (w' := SW cI h σ ++ [(aA, .inl (cI, Q, .inl g)), (aH, .inl (cI, Q, .inl (helK σ N hel (k + 1))))]) (congrArg (fun f => SW cI h σ ++ [(aA, Sum.inl (cI, (Q, Sum.inl g))), (aH, Sum.inl (cI, (Q, Sum.inl f)))]) (helK_s σ N hel k)) ?_
        refine V.iinc C (v := nI (k + 1)) dL_law_555 rfl (nI_inc k) (by decide) rfl ?_
        dsimp only [List.set]
        refine V.goto C (tgt := 536) dL_law_558 (by decide) ?_
        refine V.world (w' := SW cI h σ ++ [(aA, .inl (cI, Q, .inl g)), (aH, .inl (cI, Q, .inl (helK σ N hel (k + 1))))]) (rfl) ?_
        exact V.sub (M := [some (.ref b), some (.ref (h 0)), some (.int (nI Q)), some (.ref aA), some (.int (nI P)), some (.ref aH), some (.int (nI i)), some (.int x), some (.int (jRun σ N)), none, none, none, some (.int (nI (k + 1))), none, none, none]) (lsub_s rfl (lsub_s rfl (lsub_s rfl (lsub_s rfl (lsub_s rfl (lsub_s rfl (lsub_s rfl (lsub_s rfl (lsub_s rfl (lsub_n (lsub_n (lsub_n (lsub_s rfl (lsub_n (lsub_n (lsub_n (lsub_e))))))))))))))))) ih_k
    · try dsimp only
      refine V.iload C dL_law_536 rfl ?_
      refine V.iload_n C dL_law_538 rfl ?_
      refine V.icmp_ge C (tgt := 561) dL_law_539 (by decide) (fun c_3 => ?_) (fun c_3 => ?_)
      · refine V.aload_n C dL_law_561 rfl ?_
        refine V.callVXi C (X := _) (ct_X6_hold (R := 0) hT hN hN40 hce hQz hQ10 hA h70 (by decide)) rfl gL_law_X6_hold (n := 0) ⟨rfl, by decide, by decide, by decide +kernel⟩ rfl (q0 := 0) rfl rfl rfl ⟨Nat.le_of_ble_eq_true rfl, Nat.le_of_ble_eq_true rfl⟩ ⟨rfl, rfl, by first | exact Nat.le_of_ble_eq_true rfl | (show _ ≤ 600104; omega), by first | exact Nat.le_of_ble_eq_true rfl | (show _ ≤ 7301314; omega)⟩ (Nat.le_of_ble_eq_true rfl) rfl dL_law_562 ?_
        refine V.if_eq C (tgt := 737) dL_law_565 (by decide) (fun c_4 => ?_) (fun c_4 => ?_)
        · refine V.sub (M := [some (.ref b), some (.ref (h 0)), some (.int (nI Q)), some (.ref aA), some (.int (nI P)), some (.ref aH), some (.int (nI i)), none, none, none, none, none, none, none, none, none]) (lsub_s rfl (lsub_s rfl (lsub_s rfl (lsub_s rfl (lsub_s rfl (lsub_s rfl (lsub_s rfl (lsub_n (lsub_n (lsub_n (lsub_n (lsub_n (lsub_n (lsub_n (lsub_n (lsub_n (lsub_e))))))))))))))))) ?_
          first | exact kk _ N hel hJ | exact kk _ N _ (LJ_hold hJ)
        · exfalso
          exact c_4 rfl
      · exfalso
        exact absurd c_3 (nI_nlt (Nat.le_refl _) (by omega))
  · refine V.goto C (tgt := 737) dL_law_530 (by decide) ?_
    refine V.sub (M := [some (.ref b), some (.ref (h 0)), some (.int (nI Q)), some (.ref aA), some (.int (nI P)), some (.ref aH), some (.int (nI i)), none, none, none, none, none, none, none, none, none]) (lsub_s rfl (lsub_s rfl (lsub_s rfl (lsub_s rfl (lsub_s rfl (lsub_s rfl (lsub_s rfl (lsub_n (lsub_n (lsub_n (lsub_n (lsub_n (lsub_n (lsub_n (lsub_n (lsub_n (lsub_e))))))))))))))))) ?_
    first | exact kk _ N hel hJ | exact kk _ N _ (LJ_hold hJ)
set_option maxRecDepth 100000 in
set_option maxHeartbeats 8000000 in
theorem law_c3 {κ : VK} {l : Launch} {D : va_G} {tys : List (ClassId × FieldType)} {nm : String} {cI : ClassId} {h : Nat → Nat} (hT : tys[0]? = some (cI, .int)) {b n : Nat} {xs : Nat → Int32} (hn : n ≤ 260) (C : Cx κ l D code RL wsL_law 16 ret tys room_1 nm) (CX : CxX κ b n xs) {aA aH P Q N i cl sl : Nat} {x : Int32} {g hel : Nat → Int32} {σ : Nat → Nat → Int32} (hcl : cl ≤ 600000) (hsl : sl ≤ 7300000) (hQ0 : 0 < Q) (hJ : LJ P Q g N hel σ) (kk : ∀ (τ : Nat → Nat → Int32) (N1 : Nat) (hel1 : Nat → Int32), LJ P Q g N1 hel1 τ → V κ cl sl (SW cI h τ ++ [(aA, .inl (cI, Q, .inl g)), (aH, .inl (cI, Q, .inl hel1))]) 737 [some (.ref b), some (.ref (h 0)), some (.int (nI Q)), some (.ref aA), some (.int (nI P)), some (.ref aH), some (.int (nI i)), none, none, none, none, none, none, none, none, none] []) : V κ cl sl (SW cI h σ ++ [(aA, .inl (cI, Q, .inl g)), (aH, .inl (cI, Q, .inl hel))]) 570 [some (.ref b), some (.ref (h 0)), some (.int (nI Q)), some (.ref aA), some (.int (nI P)), some (.ref aH), some (.int (nI i)), some (.int x), some (.int (jRun σ N)), none, none, none, none, none, none, none] [] := by
  have hV := hJ.1
  obtain ⟨⟨hN, hN40, hP, hP24, hQz, hQ10, hn0, hn9⟩, -⟩ := id hV
  have hpc := Inv_hpc hV.2.2.2.1
  have hce := Inv_hce hV.2.2.2.2.1 hV.2.2.2.1 hP24
  have hpe := Inv_hpe hV.2.2.2.2.1 hP24
  have hA := Inv_hA hV.2.1
  refine V.aload_n C dL_law_570 rfl ?_
  refine V.callVXi C (X := _) (ct_X6_next hT hN hN40 hP hP24 hpc) rfl gL_law_X6_next (n := 0) ⟨rfl, by decide, by decide, by decide +kernel⟩ rfl (q0 := 0) rfl rfl rfl ⟨Nat.le_of_ble_eq_true rfl, Nat.le_of_ble_eq_true rfl⟩ ⟨rfl, rfl, by first | exact Nat.le_of_ble_eq_true rfl | (show _ ≤ 600104; omega), by first | exact Nat.le_of_ble_eq_true rfl | (show _ ≤ 7301314; omega)⟩ (Nat.le_of_ble_eq_true rfl) rfl dL_law_571 ?_
  refine V.istore C dL_law_574 (by decide) rfl ?_
  dsimp only [List.set]
  refine V.iload C dL_law_576 rfl ?_
  refine V.if_lt C (tgt := 737) dL_law_578 (by decide) (fun c_1 => ?_) (fun c_1 => ?_)
  · refine V.sub (M := [some (.ref b), some (.ref (h 0)), some (.int (nI Q)), some (.ref aA), some (.int (nI P)), some (.ref aH), some (.int (nI i)), none, none, none, none, none, none, none, none, none]) (lsub_s rfl (lsub_s rfl (lsub_s rfl (lsub_s rfl (lsub_s rfl (lsub_s rfl (lsub_s rfl (lsub_n (lsub_n (lsub_n (lsub_n (lsub_n (lsub_n (lsub_n (lsub_n (lsub_n (lsub_e))))))))))))))))) ?_
    first | exact kk _ N hel hJ | exact kk _ _ hel hL.1
  · obtain ⟨j, hj, hx⟩ := next_some hP24 c_1
    have hcan := (next_spec hV hx hj).1
    refine V.aload_n C dL_law_581 rfl ?_
    refine V.callSXi C (X := _) (ct_L_interviews hT hV) rfl gL_law_L_interviews (n := 1) ⟨by decide, by decide, by decide +kernel⟩ rfl rfl ⟨Nat.le_of_ble_eq_true rfl, Nat.le_of_ble_eq_true rfl⟩ ⟨rfl, rfl, by first | exact Nat.le_of_ble_eq_true rfl | (show _ ≤ 600104; omega), by first | exact Nat.le_of_ble_eq_true rfl | (show _ ≤ 7301314; omega)⟩ (Nat.le_of_ble_eq_true rfl) rfl dL_law_582 ?_
    refine V.bipush C (v := nI 40) dL_law_585 (by decide) ?_
    refine V.icmp_ne C (tgt := 593) dL_law_587 (by decide) (fun c_2 => ?_) (fun c_2 => ?_)
    · have hN4 : N < 40 := Nat.lt_of_le_of_ne hN40 (fun e => by subst e; exact c_2 rfl)
      have hL := LJ_begin hJ hj hcan hN4 hQ0
      obtain ⟨⟨hN2, hN402, hP2, hP242, hQz2, hQ102, hn02, hn92⟩, -⟩ := id hL.1.1
      refine V.aload_n C dL_law_593 rfl ?_
      refine V.iload C dL_law_594 rfl ?_
      refine V.topi (y := nI j) (hx) ?_
      refine V.iload C dL_law_596 rfl ?_
      refine V.callSXi C (X := _) (ct_L_isNext hT hV hj hx) rfl gL_law_L_isNext (n := 3) ⟨by decide, by decide, by decide +kernel⟩ rfl rfl ⟨Nat.le_of_ble_eq_true rfl, Nat.le_of_ble_eq_true rfl⟩ ⟨rfl, rfl, by first | exact Nat.le_of_ble_eq_true rfl | (show _ ≤ 600104; omega), by first | exact Nat.le_of_ble_eq_true rfl | (show _ ≤ 7301314; omega)⟩ (Nat.le_of_ble_eq_true rfl) rfl dL_law_598 ?_
      refine V.if_eq C (tgt := 629) dL_law_601 (by decide) (fun c_3 => ?_) (fun c_3 => ?_)
      · exfalso
        exact absurd c_3 (by decide)
      · refine V.aload_n C dL_law_604 rfl ?_
        refine V.iload C dL_law_605 rfl ?_
        refine V.topi (y := nI j) (hx) ?_
        refine V.callVXi C (X := _) (ct_X6_begin hT hN hN4 hP hP24 hpc hQz hQ10 hj hcan hQ0) rfl gL_law_X6_begin (n := 1) ⟨rfl, by decide, by decide, by decide +kernel⟩ rfl (q0 := 0) rfl rfl rfl ⟨Nat.le_of_ble_eq_true rfl, Nat.le_of_ble_eq_true rfl⟩ ⟨rfl, rfl, by first | exact Nat.le_of_ble_eq_true rfl | (show _ ≤ 600104; omega), by first | exact Nat.le_of_ble_eq_true rfl | (show _ ≤ 7301314; omega)⟩ (Nat.le_of_ble_eq_true rfl) rfl dL_law_607 ?_
        refine V.aload_n C dL_law_610 rfl ?_
        refine V.callSXi C (X := _) (ct_L_interviews hT hL.1.1) rfl gL_law_L_interviews (n := 1) ⟨by decide, by decide, by decide +kernel⟩ rfl rfl ⟨Nat.le_of_ble_eq_true rfl, Nat.le_of_ble_eq_true rfl⟩ ⟨rfl, rfl, by first | exact Nat.le_of_ble_eq_true rfl | (show _ ≤ 600104; omega), by first | exact Nat.le_of_ble_eq_true rfl | (show _ ≤ 7301314; omega)⟩ (Nat.le_of_ble_eq_true rfl) rfl dL_law_611 ?_
        refine V.iconst C (v := nI 1) dL_law_614 (by decide) ?_
        refine V.isub C dL_law_615 ?_
        refine V.topi (y := nI N) (nI_sub (a := N + 1) (b := 1) (by omega)) ?_
        refine V.icmp_ne C (tgt := 629) dL_law_616 (by decide) (fun c_4 => ?_) (fun c_4 => ?_)
        · exfalso
          exact c_4 rfl
        · refine V.aload_n C dL_law_619 rfl ?_
          refine V.iload C dL_law_620 rfl ?_
          refine V.topi (y := nI j) (hx) ?_
          refine V.iconst C (v := nI 4) dL_law_622 (by decide) ?_
          refine V.callVXi C (X := _) (ct_X6_ofPerson (σ := jBegin σ N j) (j := j) (k := 4) hT hN2 hN402 hP2 hP242 (Inv_hpc hL.1.1.2.2.2.1) hj (by omega)) rfl gL_law_X6_ofPerson (n := 2) ⟨rfl, by decide, by decide, by decide +kernel⟩ rfl (q0 := 0) rfl rfl rfl ⟨Nat.le_of_ble_eq_true rfl, Nat.le_of_ble_eq_true rfl⟩ ⟨rfl, rfl, by first | exact Nat.le_of_ble_eq_true rfl | (show _ ≤ 600104; omega), by first | exact Nat.le_of_ble_eq_true rfl | (show _ ≤ 7301314; omega)⟩ (Nat.le_of_ble_eq_true rfl) rfl dL_law_623 ?_
          refine V.topi (y := nI 0) ((congrArg bI hL.2 :)) ?_
          refine V.if_eq C (tgt := 737) dL_law_626 (by decide) (fun c_5 => ?_) (fun c_5 => ?_)
          · refine V.sub (M := [some (.ref b), some (.ref (h 0)), some (.int (nI Q)), some (.ref aA), some (.int (nI P)), some (.ref aH), some (.int (nI i)), none, none, none, none, none, none, none, none, none]) (lsub_s rfl (lsub_s rfl (lsub_s rfl (lsub_s rfl (lsub_s rfl (lsub_s rfl (lsub_s rfl (lsub_n (lsub_n (lsub_n (lsub_n (lsub_n (lsub_n (lsub_n (lsub_n (lsub_n (lsub_e))))))))))))))))) ?_
            first | exact kk _ N hel hJ | exact kk _ _ hel hL.1
          · exfalso
            exact c_5 rfl
    · refine V.goto C (tgt := 737) dL_law_590 (by decide) ?_
      refine V.sub (M := [some (.ref b), some (.ref (h 0)), some (.int (nI Q)), some (.ref aA), some (.int (nI P)), some (.ref aH), some (.int (nI i)), none, none, none, none, none, none, none, none, none]) (lsub_s rfl (lsub_s rfl (lsub_s rfl (lsub_s rfl (lsub_s rfl (lsub_s rfl (lsub_s rfl (lsub_n (lsub_n (lsub_n (lsub_n (lsub_n (lsub_n (lsub_n (lsub_n (lsub_n (lsub_e))))))))))))))))) ?_
      first | exact kk _ N hel hJ | exact kk _ _ hel hL.1
set_option maxRecDepth 100000 in
set_option maxHeartbeats 8000000 in
theorem law_c5 {κ : VK} {l : Launch} {D : va_G} {tys : List (ClassId × FieldType)} {nm : String} {cI : ClassId} {h : Nat → Nat} (hT : tys[0]? = some (cI, .int)) {b n : Nat} {xs : Nat → Int32} (hn : n ≤ 260) (C : Cx κ l D code RL wsL_law 16 ret tys room_1 nm) (CX : CxX κ b n xs) {aA aH P Q N i cl sl : Nat} {x : Int32} {g hel : Nat → Int32} {σ : Nat → Nat → Int32} (hcl : cl ≤ 600000) (hsl : sl ≤ 7300000) (hQ0 : 0 < Q) (hJ : LJ P Q g N hel σ) (kk : ∀ (τ : Nat → Nat → Int32) (N1 : Nat) (hel1 : Nat → Int32), LJ P Q g N1 hel1 τ → V κ cl sl (SW cI h τ ++ [(aA, .inl (cI, Q, .inl g)), (aH, .inl (cI, Q, .inl hel1))]) 737 [some (.ref b), some (.ref (h 0)), some (.int (nI Q)), some (.ref aA), some (.int (nI P)), some (.ref aH), some (.int (nI i)), none, none, none, none, none, none, none, none, none] []) : V κ cl sl (SW cI h σ ++ [(aA, .inl (cI, Q, .inl g)), (aH, .inl (cI, Q, .inl hel))]) 631 [some (.ref b), some (.ref (h 0)), some (.int (nI Q)), some (.ref aA), some (.int (nI P)), some (.ref aH), some (.int (nI i)), some (.int x), some (.int (jRun σ N)), none, none, none, none, none, none, none] [] := by
  have hV := hJ.1
  obtain ⟨⟨hN, hN40, hP, hP24, hQz, hQ10, hn0, hn9⟩, -⟩ := id hV
  have hpc := Inv_hpc hV.2.2.2.1
  have hce := Inv_hce hV.2.2.2.2.1 hV.2.2.2.1 hP24
  have hpe := Inv_hpe hV.2.2.2.2.1 hP24
  have hA := Inv_hA hV.2.1
  refine V.iload C dL_law_631 rfl ?_
  refine V.if_ge C (tgt := 639) dL_law_633 (by decide) (fun c_1 => ?_) (fun c_1 => ?_)
  · obtain ⟨r, hr, hx, h19⟩ := run_some c_1
    obtain ⟨pl, hpl, h20, -⟩ := (hV.2.2.2.2.1.1 r hr).2.2.2.2.1 h19
    have hA2 : 0 < jA σ pl ∧ jA σ pl ≤ 5 ∧ σ 8 pl = nI (jA σ pl) := by have := Inv_jA hV.2.1 hpl; exact ⟨by omega, by omega, this.2.2.2⟩
    have ha9 := jBel_lt (x >>> (nI 4 &&& 31)) hA2.1
    have hs9 := jBel_lt (x >>> (nI 5 &&& 31)) (n := 9) (by decide)
    obtain ⟨τ, hτ⟩ : ∃ τ, τ = jAns σ N 3 r pl (jBel (x >>> (nI 4 &&& 31)) (jA σ pl)) (nI (1 + jBel (x >>> (nI 5 &&& 31)) 9)) := ⟨_, rfl⟩
    have hans := answer_ok hV hr h19 h20 hpl ha9 (show 1 ≤ 1 + jBel (x >>> (nI 5 &&& 31)) 9 by omega) (show 1 + jBel (x >>> (nI 5 &&& 31)) 9 ≤ 99 by omega)
    have hL := LJ_answer hJ hr h19 h20 hpl ha9 (show 1 ≤ 1 + jBel (x >>> (nI 5 &&& 31)) 9 by omega) (show 1 + jBel (x >>> (nI 5 &&& 31)) 9 ≤ 99 by omega)
    rw [← hτ] at hans hL
    obtain ⟨-, h20t, hiff, hgv, -⟩ := hans
    have hiff2 : jAnsT σ r pl (jBel (x >>> (nI 4 &&& 31)) (jA σ pl)) (nI (1 + jBel (x >>> (nI 5 &&& 31)) 9)) < 0 ↔ ¬ τ 19 r = 0 := hiff
    obtain ⟨⟨hN2, hN402, hP2, hP242, hQz2, hQ102, hn02, hn92⟩, -⟩ := id hL.1
    refine V.aload_n C dL_law_639 rfl ?_
    refine V.iload C dL_law_640 rfl ?_
    refine V.topi (y := nI r) (hx) ?_
    refine V.iconst C (v := nI 2) dL_law_642 (by decide) ?_
    refine V.callVXi C (X := _) (ct_X6_ofInterview (i := r) (k := 2) hT hN hN40 hr (by omega)) rfl gL_law_X6_ofInterview (n := 2) ⟨rfl, by decide, by decide, by decide +kernel⟩ rfl (q0 := 0) rfl rfl rfl ⟨Nat.le_of_ble_eq_true rfl, Nat.le_of_ble_eq_true rfl⟩ ⟨rfl, rfl, by first | exact Nat.le_of_ble_eq_true rfl | (show _ ≤ 600104; omega), by first | exact Nat.le_of_ble_eq_true rfl | (show _ ≤ 7301314; omega)⟩ (Nat.le_of_ble_eq_true rfl) rfl dL_law_643 ?_
    refine V.topi (y := nI pl) (h20) ?_
    refine V.istore C dL_law_646 (by decide) rfl ?_
    dsimp only [List.set]
    refine V.iload C dL_law_648 rfl ?_
    refine V.iconst C (v := nI 4) dL_law_650 (by decide) ?_
    refine V.ishr C dL_law_651 ?_
    refine V.aload_n C dL_law_652 rfl ?_
    refine V.iload C dL_law_653 rfl ?_
    refine V.iald C (q0 := 27) (t0 := 0) rfl hT (rfl) (hpl) (by omega) dL_law_655 ?_
    refine V.topi (y := nI (jA σ pl)) ((hJ.2.1 pl hpl).trans hA2.2.2) ?_
    refine V.callSXi C (X := _) (ct_L_below (n := jA σ pl) hA2.1 (by omega)) rfl gL_law_L_below (n := 2) ⟨by decide, by decide, by decide +kernel⟩ rfl rfl ⟨Nat.le_of_ble_eq_true rfl, Nat.le_of_ble_eq_true rfl⟩ ⟨rfl, rfl, by first | exact Nat.le_of_ble_eq_true rfl | (show _ ≤ 600104; omega), by first | exact Nat.le_of_ble_eq_true rfl | (show _ ≤ 7301314; omega)⟩ (Nat.le_of_ble_eq_true rfl) rfl dL_law_656 ?_
    refine V.istore C dL_law_659 (by decide) rfl ?_
    dsimp only [List.set]
    refine V.aload_n C dL_law_661 rfl ?_
    refine V.iload C dL_law_662 rfl ?_
    refine V.topi (y := nI r) (hx) ?_
    refine V.iload C dL_law_664 rfl ?_
    refine V.iconst C (v := nI 1) dL_law_666 (by decide) ?_
    refine V.iload C dL_law_667 rfl ?_
    refine V.iconst C (v := nI 5) dL_law_669 (by decide) ?_
    refine V.ishr C dL_law_670 ?_
    refine V.bipush C (v := nI 9) dL_law_671 (by decide) ?_
    refine V.callSXi C (X := _) (ct_L_below (n := 9) (by decide) (by decide)) rfl gL_law_L_below (n := 2) ⟨by decide, by decide, by decide +kernel⟩ rfl rfl ⟨Nat.le_of_ble_eq_true rfl, Nat.le_of_ble_eq_true rfl⟩ ⟨rfl, rfl, by first | exact Nat.le_of_ble_eq_true rfl | (show _ ≤ 600104; omega), by first | exact Nat.le_of_ble_eq_true rfl | (show _ ≤ 7301314; omega)⟩ (Nat.le_of_ble_eq_true rfl) rfl dL_law_673 ?_
    refine V.iadd C dL_law_676 ?_
    refine V.topi (y := nI (1 + jBel (x >>> (nI 5 &&& 31)) 9)) (nI_add _ _) ?_
    refine V.callVXi C (X := _) (ct_X6_answer (i := r) (pl := pl) (a := jBel (x >>> (nI 4 &&& 31)) (jA σ pl)) (s := 1 + jBel (x >>> (nI 5 &&& 31)) 9) hT hN hN40 hce hpe hn0 hn9 hQz hQ10 hA hr h19 h20 hpl (jBel_lt _ hA2.1) (by omega) (by omega)) rfl gL_law_X6_answer (n := 3) ⟨rfl, by decide, by decide, by decide +kernel⟩ rfl (q0 := 0) rfl rfl rfl ⟨Nat.le_of_ble_eq_true rfl, Nat.le_of_ble_eq_true rfl⟩ ⟨rfl, rfl, by first | exact Nat.le_of_ble_eq_true rfl | (show _ ≤ 600104; omega), by first | exact Nat.le_of_ble_eq_true rfl | (show _ ≤ 7301314; omega)⟩ (Nat.le_of_ble_eq_true rfl) rfl dL_law_677 ?_
    refine V.world (w' := SW cI h τ ++ [(aA, .inl (cI, Q, .inl g)), (aH, .inl (cI, Q, .inl hel))]) (by rw [hτ]) ?_
    refine V.istore C dL_law_680 (by decide) rfl ?_
    dsimp only [List.set]
    refine V.aload_n C dL_law_682 rfl ?_
    refine V.iload C dL_law_683 rfl ?_
    refine V.topi (y := nI r) (hx) ?_
    refine V.iload C dL_law_685 rfl ?_
    refine V.callVXi C (X := _) (ct_X6_given (σ := τ) (i := r) (q := pl) hT hN2 hN402 hQz2 hQ102 hr hpl) rfl gL_law_X6_given (n := 2) ⟨rfl, by decide, by decide, by decide +kernel⟩ rfl (q0 := 0) rfl rfl rfl ⟨Nat.le_of_ble_eq_true rfl, Nat.le_of_ble_eq_true rfl⟩ ⟨rfl, rfl, by first | exact Nat.le_of_ble_eq_true rfl | (show _ ≤ 600104; omega), by first | exact Nat.le_of_ble_eq_true rfl | (show _ ≤ 7301314; omega)⟩ (Nat.le_of_ble_eq_true rfl) rfl dL_law_687 ?_
    refine V.topi (y := nI (jBel (x >>> (nI 4 &&& 31)) (jA σ pl))) (hgv) ?_
    refine V.iload C dL_law_690 rfl ?_
    refine V.icmp_ne C (tgt := 735) dL_law_692 (by decide) (fun c_2 => ?_) (fun c_2 => ?_)
    · exfalso
      exact c_2 rfl
    · refine V.aload_n C dL_law_695 rfl ?_
      refine V.iload C dL_law_696 rfl ?_
      refine V.topi (y := nI r) (hx) ?_
      refine V.iconst C (v := nI 2) dL_law_698 (by decide) ?_
      refine V.callVXi C (X := _) (ct_X6_ofInterview (σ := τ) (i := r) (k := 2) hT hN2 hN402 hr (by omega)) rfl gL_law_X6_ofInterview (n := 2) ⟨rfl, by decide, by decide, by decide +kernel⟩ rfl (q0 := 0) rfl rfl rfl ⟨Nat.le_of_ble_eq_true rfl, Nat.le_of_ble_eq_true rfl⟩ ⟨rfl, rfl, by first | exact Nat.le_of_ble_eq_true rfl | (show _ ≤ 600104; omega), by first | exact Nat.le_of_ble_eq_true rfl | (show _ ≤ 7301314; omega)⟩ (Nat.le_of_ble_eq_true rfl) rfl dL_law_699 ?_
      refine V.topi (y := jAnsT σ r pl (jBel (x >>> (nI 4 &&& 31)) (jA σ pl)) (nI (1 + jBel (x >>> (nI 5 &&& 31)) 9))) (h20t) ?_
      refine V.iload C dL_law_702 rfl ?_
      refine V.icmp_ne C (tgt := 735) dL_law_704 (by decide) (fun c_3 => ?_) (fun c_3 => ?_)
      · exfalso
        exact c_3 rfl
      · refine V.iload C dL_law_707 rfl ?_
        refine V.if_ge C (tgt := 716) dL_law_709 (by decide) (fun c_4 => ?_) (fun c_4 => ?_)
        · refine V.iconst C (v := nI 0) dL_law_716 (by decide) ?_
          refine V.aload_n C dL_law_717 rfl ?_
          refine V.iload C dL_law_718 rfl ?_
          refine V.topi (y := nI r) (hx) ?_
          refine V.iconst C (v := nI 1) dL_law_720 (by decide) ?_
          refine V.callVXi C (X := _) (ct_X6_ofInterview (σ := τ) (i := r) (k := 1) hT hN2 hN402 hr (by omega)) rfl gL_law_X6_ofInterview (n := 2) ⟨rfl, by decide, by decide, by decide +kernel⟩ rfl (q0 := 0) rfl rfl rfl ⟨Nat.le_of_ble_eq_true rfl, Nat.le_of_ble_eq_true rfl⟩ ⟨rfl, rfl, by first | exact Nat.le_of_ble_eq_true rfl | (show _ ≤ 600104; omega), by first | exact Nat.le_of_ble_eq_true rfl | (show _ ≤ 7301314; omega)⟩ (Nat.le_of_ble_eq_true rfl) rfl dL_law_721 ?_
          refine V.topi (y := τ 19 r) (rfl) ?_
          refine V.if_eq C (tgt := 731) dL_law_724 (by decide) (fun c_5 => ?_) (fun c_5 => ?_)
          · refine V.iconst C (v := nI 0) dL_law_731 (by decide) ?_
            refine V.icmp_eq C (tgt := 737) dL_law_732 (by decide) (fun c_6 => ?_) (fun c_6 => ?_)
            · refine V.sub (M := [some (.ref b), some (.ref (h 0)), some (.int (nI Q)), some (.ref aA), some (.int (nI P)), some (.ref aH), some (.int (nI i)), none, none, none, none, none, none, none, none, none]) (lsub_s rfl (lsub_s rfl (lsub_s rfl (lsub_s rfl (lsub_s rfl (lsub_s rfl (lsub_s rfl (lsub_n (lsub_n (lsub_n (lsub_n (lsub_n (lsub_n (lsub_n (lsub_n (lsub_n (lsub_e))))))))))))))))) ?_
              first | exact kk _ N hel hJ | exact kk _ N hel hL
            · exfalso
              first | exact c_6 rfl | exact (hiff2.mp (by assumption)) (by assumption) | exact absurd (hiff2.mpr (by assumption)) (by assumption)
          · refine V.iconst C (v := nI 1) dL_law_727 (by decide) ?_
            refine V.goto C (tgt := 732) dL_law_728 (by decide) ?_
            refine V.icmp_eq C (tgt := 737) dL_law_732 (by decide) (fun c_7 => ?_) (fun c_7 => ?_)
            · refine V.sub (M := [some (.ref b), some (.ref (h 0)), some (.int (nI Q)), some (.ref aA), some (.int (nI P)), some (.ref aH), some (.int (nI i)), none, none, none, none, none, none, none, none, none]) (lsub_s rfl (lsub_s rfl (lsub_s rfl (lsub_s rfl (lsub_s rfl (lsub_s rfl (lsub_s rfl (lsub_n (lsub_n (lsub_n (lsub_n (lsub_n (lsub_n (lsub_n (lsub_n (lsub_n (lsub_e))))))))))))))))) ?_
              first | exact kk _ N hel hJ | exact kk _ N hel hL
            · exfalso
              first | exact c_7 rfl | exact (hiff2.mp (by assumption)) (by assumption) | exact absurd (hiff2.mpr (by assumption)) (by assumption)
        · refine V.iconst C (v := nI 1) dL_law_712 (by decide) ?_
          refine V.goto C (tgt := 717) dL_law_713 (by decide) ?_
          refine V.aload_n C dL_law_717 rfl ?_
          refine V.iload C dL_law_718 rfl ?_
          refine V.topi (y := nI r) (hx) ?_
          refine V.iconst C (v := nI 1) dL_law_720 (by decide) ?_
          refine V.callVXi C (X := _) (ct_X6_ofInterview (σ := τ) (i := r) (k := 1) hT hN2 hN402 hr (by omega)) rfl gL_law_X6_ofInterview (n := 2) ⟨rfl, by decide, by decide, by decide +kernel⟩ rfl (q0 := 0) rfl rfl rfl ⟨Nat.le_of_ble_eq_true rfl, Nat.le_of_ble_eq_true rfl⟩ ⟨rfl, rfl, by first | exact Nat.le_of_ble_eq_true rfl | (show _ ≤ 600104; omega), by first | exact Nat.le_of_ble_eq_true rfl | (show _ ≤ 7301314; omega)⟩ (Nat.le_of_ble_eq_true rfl) rfl dL_law_721 ?_
          refine V.topi (y := τ 19 r) (rfl) ?_
          refine V.if_eq C (tgt := 731) dL_law_724 (by decide) (fun c_8 => ?_) (fun c_8 => ?_)
          · refine V.iconst C (v := nI 0) dL_law_731 (by decide) ?_
            refine V.icmp_eq C (tgt := 737) dL_law_732 (by decide) (fun c_9 => ?_) (fun c_9 => ?_)
            · refine V.sub (M := [some (.ref b), some (.ref (h 0)), some (.int (nI Q)), some (.ref aA), some (.int (nI P)), some (.ref aH), some (.int (nI i)), none, none, none, none, none, none, none, none, none]) (lsub_s rfl (lsub_s rfl (lsub_s rfl (lsub_s rfl (lsub_s rfl (lsub_s rfl (lsub_s rfl (lsub_n (lsub_n (lsub_n (lsub_n (lsub_n (lsub_n (lsub_n (lsub_n (lsub_n (lsub_e))))))))))))))))) ?_
              first | exact kk _ N hel hJ | exact kk _ N hel hL
            · exfalso
              first | exact c_9 rfl | exact (hiff2.mp (by assumption)) (by assumption) | exact absurd (hiff2.mpr (by assumption)) (by assumption)
          · refine V.iconst C (v := nI 1) dL_law_727 (by decide) ?_
            refine V.goto C (tgt := 732) dL_law_728 (by decide) ?_
            refine V.icmp_eq C (tgt := 737) dL_law_732 (by decide) (fun c_10 => ?_) (fun c_10 => ?_)
            · refine V.sub (M := [some (.ref b), some (.ref (h 0)), some (.int (nI Q)), some (.ref aA), some (.int (nI P)), some (.ref aH), some (.int (nI i)), none, none, none, none, none, none, none, none, none]) (lsub_s rfl (lsub_s rfl (lsub_s rfl (lsub_s rfl (lsub_s rfl (lsub_s rfl (lsub_s rfl (lsub_n (lsub_n (lsub_n (lsub_n (lsub_n (lsub_n (lsub_n (lsub_n (lsub_n (lsub_e))))))))))))))))) ?_
              first | exact kk _ N hel hJ | exact kk _ N hel hL
            · exfalso
              first | exact c_10 rfl | exact (hiff2.mp (by assumption)) (by assumption) | exact absurd (hiff2.mpr (by assumption)) (by assumption)
  · refine V.goto C (tgt := 737) dL_law_636 (by decide) ?_
    refine V.sub (M := [some (.ref b), some (.ref (h 0)), some (.int (nI Q)), some (.ref aA), some (.int (nI P)), some (.ref aH), some (.int (nI i)), none, none, none, none, none, none, none, none, none]) (lsub_s rfl (lsub_s rfl (lsub_s rfl (lsub_s rfl (lsub_s rfl (lsub_s rfl (lsub_s rfl (lsub_n (lsub_n (lsub_n (lsub_n (lsub_n (lsub_n (lsub_n (lsub_n (lsub_n (lsub_e))))))))))))))))) ?_
    first | exact kk _ N hel hJ | exact kk _ N hel hL
