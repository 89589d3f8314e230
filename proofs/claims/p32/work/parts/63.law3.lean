set_option maxRecDepth 100000 in
set_option maxHeartbeats 8000000 in
theorem law_post {κ : VK} {l : Launch} {D : va_G} {tys : List (ClassId × FieldType)} {nm : String} {cI : ClassId} {h : Nat → Nat} (hT : tys[0]? = some (cI, .int)) {b n : Nat} {xs : Nat → Int32} (hn : n ≤ 260) (C : Cx κ l D code RL wsL_law 16 ret tys room_1 nm) (CX : CxX κ b n xs) {aA aH P Q N i cl sl : Nat} {g hel : Nat → Int32} {σ : Nat → Nat → Int32} (hcl : cl ≤ 600000) (hsl : sl ≤ 7300000) (hJ : LJ P Q g N hel σ) (kk : V κ (cl + 1) (sl + 24) (SW cI h σ ++ [(aA, .inl (cI, Q, .inl g)), (aH, .inl (cI, Q, .inl hel))]) 342 [some (.ref b), some (.ref (h 0)), some (.int (nI Q)), some (.ref aA), some (.int (nI P)), some (.ref aH), some (.int (nI (i + 1))), none, none, none, none, none, none, none, none, none] []) : V κ cl sl (SW cI h σ ++ [(aA, .inl (cI, Q, .inl g)), (aH, .inl (cI, Q, .inl hel))]) 737 [some (.ref b), some (.ref (h 0)), some (.int (nI Q)), some (.ref aA), some (.int (nI P)), some (.ref aH), some (.int (nI i)), none, none, none, none, none, none, none, none, none] [] := by
  have hV := hJ.1
  obtain ⟨⟨hN, hN40, hP, hP24, hQz, hQ10, hn0, hn9⟩, -⟩ := id hV
  have hpc := Inv_hpc hV.2.2.2.1
  have hce := Inv_hce hV.2.2.2.2.1 hV.2.2.2.1 hP24
  have hpe := Inv_hpe hV.2.2.2.2.1 hP24
  have hA := Inv_hA hV.2.1
  refine V.aload_n C dL_law_737 rfl ?_
  refine V.iload C dL_law_738 rfl ?_
  refine V.aload_n C dL_law_740 rfl ?_
  refine V.callSX (w0 := SW cI h σ ++ [(aA, .inl (cI, Q, .inl g))]) (X := [(aH, .inl (cI, Q, .inl hel))]) C (ct_L_isFair hT hV hJ.2.1) rfl gL_law_L_isFair (n := 3) ⟨by decide, by decide, by decide +kernel⟩ rfl rfl ⟨Nat.le_of_ble_eq_true rfl, Nat.le_of_ble_eq_true rfl⟩ ⟨by show cl + 1 ≤ 600104; omega, by show sl + 24 ≤ 7301314; omega⟩ (Nat.le_of_ble_eq_true rfl) rfl dL_law_741 (fun rv w1 hp => ?_)
  obtain ⟨rfl, rfl⟩ := hp
  refine V.world (w' := SW cI h σ ++ [(aA, .inl (cI, Q, .inl g)), (aH, .inl (cI, Q, .inl hel))]) rfl ?_
  refine V.stack (st1 := [.int (bI true)]) rfl ?_
  refine V.widen (k := cl + 1) (n := sl + 24) (Nat.le_refl _) (Nat.le_refl _) ?_
  refine V.if_ne C (tgt := 749) dL_law_744 (by decide) (fun c_1 => ?_) (fun c_1 => ?_)
  · refine V.iconst C (v := nI 0) dL_law_749 (by decide) ?_
    refine V.istore C dL_law_750 (by decide) rfl ?_
    dsimp only [List.set]
    refine V.loop (Q) (fun k => SW cI h σ ++ [(aA, .inl (cI, Q, .inl g)), (aH, .inl (cI, Q, .inl hel))]) (fun k => [some (.ref b), some (.ref (h 0)), some (.int (nI Q)), some (.ref aA), some (.int (nI P)), some (.ref aH), some (.int (nI i)), none, none, some (.int (nI k)), none, none, none, none, none, none]) (fun k hk ih_k => ?_) ?_ (rfl) (lsub_s rfl (lsub_s rfl (lsub_s rfl (lsub_s rfl (lsub_s rfl (lsub_s rfl (lsub_s rfl (lsub_n (lsub_n (lsub_s rfl (lsub_n (lsub_n (lsub_n (lsub_n (lsub_n (lsub_n (lsub_e)))))))))))))))))
    · try dsimp only
      refine V.iload C dL_law_752 rfl ?_
      refine V.iload_n C dL_law_754 rfl ?_
      refine V.icmp_ge C (tgt := 791) dL_law_755 (by decide) (fun c_2 => ?_) (fun c_2 => ?_)
      · exfalso
        exact c_2 (nI_lt hk (by omega))
      · refine V.aload_n C dL_law_758 rfl ?_
        refine V.bipush C (v := nI 10) dL_law_759 (by decide) ?_
        refine V.callVXi C (X := _) (ct_X6_many (k := 10) hT hN hN40 hP hP24 hpc (by omega)) rfl gL_law_X6_many (n := 1) ⟨rfl, by decide, by decide, by decide +kernel⟩ rfl (q0 := 0) rfl rfl rfl ⟨Nat.le_of_ble_eq_true rfl, Nat.le_of_ble_eq_true rfl⟩ ⟨rfl, rfl, by first | exact Nat.le_of_ble_eq_true rfl | (show _ ≤ 600104; omega), by first | exact Nat.le_of_ble_eq_true rfl | (show _ ≤ 7301314; omega)⟩ (Nat.le_of_ble_eq_true rfl) rfl dL_law_761 ?_
        refine V.topi (y := σ 7 0) (rfl) ?_
        refine V.if_le C (tgt := 791) dL_law_764 (by decide) (fun c_3 => ?_) (fun c_3 => ?_)
        · refine V.iinc C (v := nI (i + 1)) dL_law_791 rfl (nI_inc i) (by decide) rfl ?_
          dsimp only [List.set]
          refine V.goto C (tgt := 342) dL_law_794 (by decide) ?_
          refine V.sub (M := [some (.ref b), some (.ref (h 0)), some (.int (nI Q)), some (.ref aA), some (.int (nI P)), some (.ref aH), some (.int (nI (i + 1))), none, none, none, none, none, none, none, none, none]) (lsub_s rfl (lsub_s rfl (lsub_s rfl (lsub_s rfl (lsub_s rfl (lsub_s rfl (lsub_s rfl (lsub_n (lsub_n (lsub_n (lsub_n (lsub_n (lsub_n (lsub_n (lsub_n (lsub_n (lsub_e))))))))))))))))) ?_
          exact kk
        · have hR1 := hJ.2.2.resolve_left (fun z => by rw [z] at c_3; exact absurd c_3 (by decide))
          refine V.aload_n C dL_law_767 rfl ?_
          refine V.iconst C (v := nI 0) dL_law_768 (by decide) ?_
          refine V.iload C dL_law_769 rfl ?_
          refine V.iconst C (v := nI 0) dL_law_771 (by decide) ?_
          refine V.callVXi C (X := _) (ct_X6_held (r := 0) (q := k) (a := 0) (R := 1) hT hQz hQ10 hA hR1.1 (by decide) (by decide) hk (by have := Inv_jA hV.2.1 hk; omega)) rfl gL_law_X6_held (n := 3) ⟨rfl, by decide, by decide, by decide +kernel⟩ rfl (q0 := 0) rfl rfl rfl ⟨Nat.le_of_ble_eq_true rfl, Nat.le_of_ble_eq_true rfl⟩ ⟨rfl, rfl, by first | exact Nat.le_of_ble_eq_true rfl | (show _ ≤ 600104; omega), by first | exact Nat.le_of_ble_eq_true rfl | (show _ ≤ 7301314; omega)⟩ (Nat.le_of_ble_eq_true rfl) rfl dL_law_772 ?_
          refine V.aload C dL_law_775 rfl ?_
          refine V.iload C dL_law_777 rfl ?_
          refine V.iald C (q0 := 28) (t0 := 0) rfl hT (rfl) (hk) (by omega) dL_law_779 ?_
          refine V.icmp_eq C (tgt := 785) dL_law_780 (by decide) (fun c_4 => ?_) (fun c_4 => ?_)
          · refine V.iinc C (v := nI (k + 1)) dL_law_785 rfl (nI_inc k) (by decide) rfl ?_
            dsimp only [List.set]
            refine V.goto C (tgt := 752) dL_law_788 (by decide) ?_
            exact V.sub (M := [some (.ref b), some (.ref (h 0)), some (.int (nI Q)), some (.ref aA), some (.int (nI P)), some (.ref aH), some (.int (nI i)), none, none, some (.int (nI (k + 1))), none, none, none, none, none, none]) (lsub_s rfl (lsub_s rfl (lsub_s rfl (lsub_s rfl (lsub_s rfl (lsub_s rfl (lsub_s rfl (lsub_n (lsub_n (lsub_s rfl (lsub_n (lsub_n (lsub_n (lsub_n (lsub_n (lsub_n (lsub_e))))))))))))))))) ih_k
          · exfalso
            exact c_4 (hR1.2 k hk).symm
    · try dsimp only
      refine V.iload C dL_law_752 rfl ?_
      refine V.iload_n C dL_law_754 rfl ?_
      refine V.icmp_ge C (tgt := 791) dL_law_755 (by decide) (fun c_5 => ?_) (fun c_5 => ?_)
      · refine V.iinc C (v := nI (i + 1)) dL_law_791 rfl (nI_inc i) (by decide) rfl ?_
        dsimp only [List.set]
        refine V.goto C (tgt := 342) dL_law_794 (by decide) ?_
        refine V.sub (M := [some (.ref b), some (.ref (h 0)), some (.int (nI Q)), some (.ref aA), some (.int (nI P)), some (.ref aH), some (.int (nI (i + 1))), none, none, none, none, none, none, none, none, none]) (lsub_s rfl (lsub_s rfl (lsub_s rfl (lsub_s rfl (lsub_s rfl (lsub_s rfl (lsub_s rfl (lsub_n (lsub_n (lsub_n (lsub_n (lsub_n (lsub_n (lsub_n (lsub_n (lsub_n (lsub_e))))))))))))))))) ?_
        exact kk
      · exfalso
        exact absurd c_5 (nI_nlt (Nat.le_refl _) (by omega))
  · exfalso
    exact absurd c_1 (by decide)
/-- the script's word of the i-th turn -/
def lx (xs : Nat → Int32) (n i : Nat) : Int32 := (jCell xs n (i % 16) >>> (nI (i / 16 * 2) &&& 31)) + nI (7 * i)
set_option maxRecDepth 100000 in
set_option maxHeartbeats 8000000 in
theorem law_loop {κ : VK} {l : Launch} {D : va_G} {tys : List (ClassId × FieldType)} {nm : String} {cI : ClassId} {h : Nat → Nat} (hT : tys[0]? = some (cI, .int)) {b n : Nat} {xs : Nat → Int32} (hn : n ≤ 260) (C : Cx κ l D code RL wsL_law 16 ret tys room_1 nm) (CX : CxX κ b n xs) {aA aH P Q : Nat} {g hel0 : Nat → Int32} {σ0 : Nat → Nat → Int32} (hQ0 : 0 < Q) (hJ0 : LJ P Q g 0 hel0 σ0) (kk : ∀ (σ : Nat → Nat → Int32) (N : Nat) (hel : Nat → Int32), LJ P Q g N hel σ → V κ 120 3080 (SW cI h σ ++ [(aA, .inl (cI, Q, .inl g)), (aH, .inl (cI, Q, .inl hel))]) 797 [some (.ref b), some (.ref (h 0)), some (.int (nI Q)), some (.ref aA), some (.int (nI P)), some (.ref aH), some (.int (nI 70)), none, none, none, none, none, none, none, none, none] []) : V κ 50 1400 (SW cI h σ0 ++ [(aA, .inl (cI, Q, .inl g)), (aH, .inl (cI, Q, .inl hel0))]) 342 [some (.ref b), some (.ref (h 0)), some (.int (nI Q)), some (.ref aA), some (.int (nI P)), some (.ref aH), some (.int (nI 0)), none, none, none, none, none, none, none, none, none] [] := by
  refine V.loopS (S := (Nat → Nat → Int32) × Nat × (Nat → Int32)) 70 (fun _ s => LJ P Q g s.2.1 s.2.2 s.1) (fun k s => V κ (50 + k) (1400 + 24 * k) (SW cI h s.1 ++ [(aA, .inl (cI, Q, .inl g)), (aH, .inl (cI, Q, .inl s.2.2))]) 342 [some (.ref b), some (.ref (h 0)), some (.int (nI Q)), some (.ref aA), some (.int (nI P)), some (.ref aH), some (.int (nI k)), none, none, none, none, none, none, none, none, none] []) (fun k hk s hJ ht => ?_) (fun s hJ => ?_) (σ0, 0, hel0) hJ0
  · obtain ⟨σ, N, hel⟩ := s
    have hJ : LJ P Q g N hel σ := hJ
    try dsimp only
    have K : ∀ (τ : Nat → Nat → Int32) (N1 : Nat) (hel1 : Nat → Int32), LJ P Q g N1 hel1 τ → V κ (50 + k) (1400 + 24 * k) (SW cI h τ ++ [(aA, .inl (cI, Q, .inl g)), (aH, .inl (cI, Q, .inl hel1))]) 737 [some (.ref b), some (.ref (h 0)), some (.int (nI Q)), some (.ref aA), some (.int (nI P)), some (.ref aH), some (.int (nI k)), none, none, none, none, none, none, none, none, none] [] := fun τ N1 hel1 h1 => law_post hT hn C CX (by omega) (by omega) h1 (V.widen (k := 50 + (k + 1)) (n := 1400 + 24 * (k + 1)) (by omega) (by omega) (ht (τ, N1, hel1) h1))
    obtain ⟨x, hx9⟩ : ∃ x, x = lx xs n k := ⟨_, rfl⟩
    have hd0 := jBel_lt x (n := 10) (by decide)
    obtain ⟨d, hd9⟩ : ∃ d, d = jBel x 10 := ⟨_, rfl⟩
    rw [← hd9] at hd0
    refine V.iload C dL_law_342 rfl ?_
    refine V.bipush C (v := nI 70) dL_law_344 (by decide) ?_
    refine V.icmp_ge C (tgt := 797) dL_law_346 (by decide) (fun c_1 => ?_) (fun c_1 => ?_)
    · exfalso
      exact c_1 (nI_lt hk (by decide))
    · refine V.aload_n C dL_law_349 rfl ?_
      refine V.iload C dL_law_350 rfl ?_
      refine V.bipush C (v := nI 16) dL_law_352 (by decide) ?_
      refine V.irem C dL_law_354 (by decide) ?_
      refine V.topi (y := nI (k % 16)) (nI_mod (by omega) (by decide) (by decide)) ?_
      refine V.callSc C CX (ct_L_cell (k := (k % 16)) (by omega) (by omega)) gL_law_L_cell (n := 2) ⟨by decide, by decide, by decide +kernel⟩ rfl rfl ⟨Nat.le_of_ble_eq_true rfl, Nat.le_of_ble_eq_true rfl⟩ ⟨rfl, rfl, by first | exact Nat.le_of_ble_eq_true rfl | (show _ ≤ 600104; omega), by first | exact Nat.le_of_ble_eq_true rfl | (show _ ≤ 7301314; omega)⟩ (Nat.le_of_ble_eq_true rfl) rfl dL_law_355 ?_
      refine V.iload C dL_law_358 rfl ?_
      refine V.bipush C (v := nI 16) dL_law_360 (by decide) ?_
      refine V.idiv C dL_law_362 (by decide) ?_
      refine V.topi (y := nI (k / 16)) (nI_div (by omega) (by decide) (by decide)) ?_
      refine V.iconst C (v := nI 2) dL_law_363 (by decide) ?_
      refine V.imul C dL_law_364 ?_
      refine V.topi (y := nI (k / 16 * 2)) (nI_mul _ _) ?_
      refine V.ishr C dL_law_365 ?_
      refine V.bipush C (v := nI 7) dL_law_366 (by decide) ?_
      refine V.iload C dL_law_368 rfl ?_
      refine V.imul C dL_law_370 ?_
      refine V.topi (y := nI (7 * k)) (nI_mul _ _) ?_
      refine V.iadd C dL_law_371 ?_
      refine V.topi (y := x) (hx9.symm) ?_
      refine V.istore C dL_law_372 (by decide) rfl ?_
      dsimp only [List.set]
      refine V.aload_n C dL_law_374 rfl ?_
      refine V.callSXi C (X := _) (ct_L_running hT hJ.1) rfl gL_law_L_running (n := 1) ⟨by decide, by decide, by decide +kernel⟩ rfl rfl ⟨Nat.le_of_ble_eq_true rfl, Nat.le_of_ble_eq_true rfl⟩ ⟨rfl, rfl, by first | exact Nat.le_of_ble_eq_true rfl | (show _ ≤ 600104; omega), by first | exact Nat.le_of_ble_eq_true rfl | (show _ ≤ 7301314; omega)⟩ (Nat.le_of_ble_eq_true rfl) rfl dL_law_375 ?_
      refine V.istore C dL_law_378 (by decide) rfl ?_
      dsimp only [List.set]
      refine V.iload C dL_law_380 rfl ?_
      refine V.bipush C (v := nI 10) dL_law_382 (by decide) ?_
      refine V.callSXi C (X := _) (ct_L_below (n := 10) (by decide) (by decide)) rfl gL_law_L_below (n := 2) ⟨by decide, by decide, by decide +kernel⟩ rfl rfl ⟨Nat.le_of_ble_eq_true rfl, Nat.le_of_ble_eq_true rfl⟩ ⟨rfl, rfl, by first | exact Nat.le_of_ble_eq_true rfl | (show _ ≤ 600104; omega), by first | exact Nat.le_of_ble_eq_true rfl | (show _ ≤ 7301314; omega)⟩ (Nat.le_of_ble_eq_true rfl) rfl dL_law_384 ?_
      refine V.topi (y := nI d) (congrArg nI hd9.symm) ?_
      rcases (show d = 0 ∨ d = 1 ∨ d = 2 ∨ d = 3 ∨ d = 4 ∨ d = 5 ∨ d = 6 ∨ d = 7 ∨ d = 8 ∨ d = 9 by omega) with rfl | rfl | rfl | rfl | rfl | rfl | rfl | rfl | rfl | rfl
      · refine V.tableIn C (off := 33) (tgt := 420) dL_law_387 (by decide +kernel) (by decide +kernel) (by decide +kernel) (by decide) ?_
        exact law_c0 hT hn C CX (by omega) (by omega) hQ0 hJ K
      · refine V.tableIn C (off := 48) (tgt := 435) dL_law_387 (by decide +kernel) (by decide +kernel) (by decide +kernel) (by decide) ?_
        exact law_c1 hT hn C CX (by omega) (by omega) hQ0 hJ K
      · refine V.tableIn C (off := 134) (tgt := 521) dL_law_387 (by decide +kernel) (by decide +kernel) (by decide +kernel) (by decide) ?_
        exact law_c2 hT hn C CX (by omega) (by omega) hQ0 hJ K
      · refine V.tableIn C (off := 183) (tgt := 570) dL_law_387 (by decide +kernel) (by decide +kernel) (by decide +kernel) (by decide) ?_
        exact law_c3 hT hn C CX (by omega) (by omega) hQ0 hJ K
      · refine V.tableIn C (off := 183) (tgt := 570) dL_law_387 (by decide +kernel) (by decide +kernel) (by decide +kernel) (by decide) ?_
        exact law_c3 hT hn C CX (by omega) (by omega) hQ0 hJ K
      · refine V.tableOut C (tgt := 631) dL_law_387 (by decide +kernel) (by decide) ?_
        exact law_c5 hT hn C CX (by omega) (by omega) hQ0 hJ K
      · refine V.tableOut C (tgt := 631) dL_law_387 (by decide +kernel) (by decide) ?_
        exact law_c5 hT hn C CX (by omega) (by omega) hQ0 hJ K
      · refine V.tableOut C (tgt := 631) dL_law_387 (by decide +kernel) (by decide) ?_
        exact law_c5 hT hn C CX (by omega) (by omega) hQ0 hJ K
      · refine V.tableOut C (tgt := 631) dL_law_387 (by decide +kernel) (by decide) ?_
        exact law_c5 hT hn C CX (by omega) (by omega) hQ0 hJ K
      · refine V.tableOut C (tgt := 631) dL_law_387 (by decide +kernel) (by decide) ?_
        exact law_c5 hT hn C CX (by omega) (by omega) hQ0 hJ K
  · obtain ⟨σ, N, hel⟩ := s
    try dsimp only
    refine V.iload C dL_law_342 rfl ?_
    refine V.bipush C (v := nI 70) dL_law_344 (by decide) ?_
    refine V.icmp_ge C (tgt := 797) dL_law_346 (by decide) (fun c_1 => ?_) (fun c_1 => ?_)
    · exact kk σ N hel hJ
    · exfalso
      exact absurd c_1 (nI_nlt (Nat.le_refl _) (by decide))
set_option maxRecDepth 100000 in
set_option maxHeartbeats 8000000 in
theorem law_end {κ : VK} {l : Launch} {D : va_G} {tys : List (ClassId × FieldType)} {nm : String} {cI : ClassId} {h : Nat → Nat} (hT : tys[0]? = some (cI, .int)) {b n : Nat} {xs : Nat → Int32} (hn : n ≤ 260) (C : Cx κ l D code RL wsL_law 16 ret tys room_1 nm) (CX : CxX κ b n xs) {aA aH P Q N : Nat} {g hel : Nat → Int32} {σ : Nat → Nat → Int32} (hJ : LJ P Q g N hel σ) (kk : ∀ w L, V κ 120 3080 w 842 L [.int (nI 1)]) : V κ 120 3080 (SW cI h σ ++ [(aA, .inl (cI, Q, .inl g)), (aH, .inl (cI, Q, .inl hel))]) 797 [some (.ref b), some (.ref (h 0)), some (.int (nI Q)), some (.ref aA), some (.int (nI P)), some (.ref aH), some (.int (nI 70)), none, none, none, none, none, none, none, none, none] [] := by
  have hV := hJ.1
  obtain ⟨⟨hN, hN40, hP, hP24, hQz, hQ10, hn0, hn9⟩, -⟩ := id hV
  have hpc := Inv_hpc hV.2.2.2.1
  have hce := Inv_hce hV.2.2.2.2.1 hV.2.2.2.1 hP24
  have hpe := Inv_hpe hV.2.2.2.2.1 hP24
  have hA := Inv_hA hV.2.1
  obtain ⟨τ, hτ⟩ : ∃ τ, τ = jStQ σ Q Q := ⟨_, rfl⟩
  obtain ⟨υ, hυ⟩ : ∃ υ, υ = jWeigh τ 25 N 3 := ⟨_, rfl⟩
  have hk2 : ∀ k, k ≠ 10 → k ≠ 25 → τ k = σ k := fun k a b => by rw [hτ]; exact jStQ_ne σ Q a Q
  have hk3 : ∀ k, k ≠ 10 → k ≠ 25 → υ k = σ k := fun k a b => by rw [hυ, jWeigh_ne τ N 3 b]; exact hk2 k a b
  have hV2 : Inv τ N P Q 3 := Inv_dep (fun k _ a b _ => hk2 k a b) hV
  have hV3 : Inv υ N P Q 3 := Inv_dep (fun k _ a b _ => hk3 k a b) hV
  obtain ⟨⟨hN2, hN402, hP2, hP242, hQz2, hQ102, hn02, hn92⟩, -⟩ := id hV2
  obtain ⟨⟨hN3, hN403, hP3, hP243, hQz3, hQ103, hn03, hn93⟩, -⟩ := id hV3
  have hoff : jFar (jWeigh τ 25 N 3) 25 N 5 = jFar σ 24 N 5 := (jFar_with hV2.2.2.2.2.2).trans (far_dep hk2 N)
  have hoff2 : jFar υ 24 N 5 = jFar σ 24 N 5 := far_dep hk3 N
  have hdg : jDigest υ N P Q = jDigest σ N P Q := digest_dep hV.2.1 hQ10 hk3
  refine V.aload_n C dL_law_797 rfl ?_
  refine V.callVXi C (X := _) (ct_X6_digest hT hN hN40 hce hP hP24 hpc hQz hQ10 hA (Inv_hW hV.2.1 hQ10)) rfl gL_law_X6_digest (n := 0) ⟨rfl, by decide, by decide, by decide +kernel⟩ rfl (q0 := 0) rfl rfl rfl ⟨Nat.le_of_ble_eq_true rfl, Nat.le_of_ble_eq_true rfl⟩ ⟨rfl, rfl, by first | exact Nat.le_of_ble_eq_true rfl | (show _ ≤ 600104; omega), by first | exact Nat.le_of_ble_eq_true rfl | (show _ ≤ 7301314; omega)⟩ (Nat.le_of_ble_eq_true rfl) rfl dL_law_798 ?_
  refine V.world (w' := SW cI h τ ++ [(aA, .inl (cI, Q, .inl g)), (aH, .inl (cI, Q, .inl hel))]) (by rw [hτ]) ?_
  refine V.lstore C dL_law_801 (by decide) rfl ?_
  dsimp only [List.set]
  refine V.aload_n C dL_law_803 rfl ?_
  refine V.iconst C (v := nI 0) dL_law_804 (by decide) ?_
  refine V.callVXi C (X := _) (ct_X6_nextIn (σ := τ) (d := 0) hT hN2 hN402 hP2 hP242 (Inv_hpc hV2.2.2.2.1) (by decide)) rfl gL_law_X6_nextIn (n := 1) ⟨rfl, by decide, by decide, by decide +kernel⟩ rfl (q0 := 0) rfl rfl rfl ⟨Nat.le_of_ble_eq_true rfl, Nat.le_of_ble_eq_true rfl⟩ ⟨rfl, rfl, by first | exact Nat.le_of_ble_eq_true rfl | (show _ ≤ 600104; omega), by first | exact Nat.le_of_ble_eq_true rfl | (show _ ≤ 7301314; omega)⟩ (Nat.le_of_ble_eq_true rfl) rfl dL_law_805 ?_
  refine V.aload_n C dL_law_808 rfl ?_
  refine V.callVXi C (X := _) (ct_X6_next (σ := τ) hT hN2 hN402 hP2 hP242 (Inv_hpc hV2.2.2.2.1)) rfl gL_law_X6_next (n := 0) ⟨rfl, by decide, by decide, by decide +kernel⟩ rfl (q0 := 0) rfl rfl rfl ⟨Nat.le_of_ble_eq_true rfl, Nat.le_of_ble_eq_true rfl⟩ ⟨rfl, rfl, by first | exact Nat.le_of_ble_eq_true rfl | (show _ ≤ 600104; omega), by first | exact Nat.le_of_ble_eq_true rfl | (show _ ≤ 7301314; omega)⟩ (Nat.le_of_ble_eq_true rfl) rfl dL_law_809 ?_
  refine V.icmp_ne C (tgt := 841) dL_law_812 (by decide) (fun c_1 => ?_) (fun c_1 => ?_)
  · exfalso
    exact c_1 rfl
  · refine V.aload_n C dL_law_815 rfl ?_
    refine V.iconst C (v := nI 3) dL_law_816 (by decide) ?_
    refine V.callVXi C (X := _) (ct_X6_offWith (σ := τ) (n := 3) hT hN2 hN402 (Inv_hce hV2.2.2.2.2.1 hV2.2.2.2.1 hP24) (by decide)) rfl gL_law_X6_offWith (n := 1) ⟨rfl, by decide, by decide, by decide +kernel⟩ rfl (q0 := 0) rfl rfl rfl ⟨Nat.le_of_ble_eq_true rfl, Nat.le_of_ble_eq_true rfl⟩ ⟨rfl, rfl, by first | exact Nat.le_of_ble_eq_true rfl | (show _ ≤ 600104; omega), by first | exact Nat.le_of_ble_eq_true rfl | (show _ ≤ 7301314; omega)⟩ (Nat.le_of_ble_eq_true rfl) rfl dL_law_817 ?_
    refine V.topi (y := jFar σ 24 N 5) (hoff) ?_
    refine V.world (w' := SW cI h υ ++ [(aA, .inl (cI, Q, .inl g)), (aH, .inl (cI, Q, .inl hel))]) (by rw [hυ]) ?_
    refine V.aload_n C dL_law_820 rfl ?_
    refine V.callVXi C (X := _) (ct_X6_off (σ := υ) hT hN3 hN403 (Inv_hce hV3.2.2.2.2.1 hV3.2.2.2.1 hP24)) rfl gL_law_X6_off (n := 0) ⟨rfl, by decide, by decide, by decide +kernel⟩ rfl (q0 := 0) rfl rfl rfl ⟨Nat.le_of_ble_eq_true rfl, Nat.le_of_ble_eq_true rfl⟩ ⟨rfl, rfl, by first | exact Nat.le_of_ble_eq_true rfl | (show _ ≤ 600104; omega), by first | exact Nat.le_of_ble_eq_true rfl | (show _ ≤ 7301314; omega)⟩ (Nat.le_of_ble_eq_true rfl) rfl dL_law_821 ?_
    refine V.topi (y := jFar σ 24 N 5) (hoff2) ?_
    refine V.icmp_ne C (tgt := 841) dL_law_824 (by decide) (fun c_2 => ?_) (fun c_2 => ?_)
    · exfalso
      exact c_2 rfl
    · refine V.aload_n C dL_law_827 rfl ?_
      refine V.callVXi C (X := _) (ct_X6_digest (σ := υ) hT hN3 hN403 (Inv_hce hV3.2.2.2.2.1 hV3.2.2.2.1 hP24) hP3 hP243 (Inv_hpc hV3.2.2.2.1) hQz3 hQ103 (Inv_hA hV3.2.1) (Inv_hW hV3.2.1 hQ10)) rfl gL_law_X6_digest (n := 0) ⟨rfl, by decide, by decide, by decide +kernel⟩ rfl (q0 := 0) rfl rfl rfl ⟨Nat.le_of_ble_eq_true rfl, Nat.le_of_ble_eq_true rfl⟩ ⟨rfl, rfl, by first | exact Nat.le_of_ble_eq_true rfl | (show _ ≤ 600104; omega), by first | exact Nat.le_of_ble_eq_true rfl | (show _ ≤ 7301314; omega)⟩ (Nat.le_of_ble_eq_true rfl) rfl dL_law_828 ?_
      refine V.topl (y := jDigest σ N P Q) (hdg) ?_
      refine V.lload C dL_law_831 rfl ?_
      refine V.lcmp C dL_law_833 ?_
      refine V.if_ne C (tgt := 841) dL_law_834 (by decide) (fun c_3 => ?_) (fun c_3 => ?_)
      · exfalso
        exact c_3 rfl
      · refine V.iconst C (v := nI 1) dL_law_837 (by decide) ?_
        refine V.goto C (tgt := 842) dL_law_838 (by decide) ?_
        exact kk _ _
