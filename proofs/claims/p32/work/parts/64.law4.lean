set_option maxRecDepth 100000 in
set_option maxHeartbeats 8000000 in
theorem law_all {κ : VK} {l : Launch} {D : va_G} {tys : List (ClassId × FieldType)} {nm : String} {cI : ClassId} (hT : tys[0]? = some (cI, .int)) {b n : Nat} {xs : Nat → Int32} (hn : n ≤ 260) (C : Cx κ l D code RL wsL_law 16 ret tys room_1 nm) (CX : CxX κ b n xs) (kk : ∀ w L, V κ 120 3080 w 842 L [.int (nI 1)]) : V κ 0 0 [] 0 [some (.ref b), none, none, none, none, none, none, none, none, none, none, none, none, none, none, none] [] := by
  have iX6 : ∀ z ∈ u_ws RX6 TX6 8, z ∈ wsL_law := by decide +kernel
  obtain ⟨Q, hQd⟩ : ∃ Q, Q = 2 + jBel (jCell xs n 0) 7 := ⟨_, rfl⟩
  have hQ9 := jBel_lt (jCell xs n 0) (n := 7) (by decide)
  have hQ2 : 2 ≤ Q := by omega
  have hQ8 : Q ≤ 8 := by omega
  have hP9 := jBel_lt (jCell xs n 1) (n := 15) (by decide)
  have hs9 := jBel_lt (jCell xs n 6) (n := 4) (by decide)
  refine V.new C (ci := 6) (fs := [.null, .null, .null, .null, .null, .null, .null, .int 0]) iX6 tyX6 tyX6_ok (by decide +kernel) (by decide +kernel) (by decide +kernel) rfl (fun j hj => by rcases (show j = 0 ∨ j = 1 ∨ j = 2 ∨ j = 3 ∨ j = 4 ∨ j = 5 ∨ j = 6 ∨ j = 7 by omega) with rfl | rfl | rfl | rfl | rfl | rfl | rfl | rfl <;> rfl) (Nat.le_of_ble_eq_true rfl) (Nat.le_of_ble_eq_true rfl) dL_law_0 (fun q0 => ?_)
  refine V.dup C dL_law_3 rfl ?_
  refine V.callI (w0 := [(q0, .inr (6, [.null, .null, .null, .null, .null, .null, .null, .int 0]))]) (X := []) C (ct_X6_init hT) rfl gL_law_X6_init (by decide +kernel) (by decide +kernel) (by decide +kernel) rfl (n := 0) ⟨by decide, by decide, by decide +kernel⟩ rfl rfl ⟨Nat.le_of_ble_eq_true rfl, Nat.le_of_ble_eq_true rfl⟩ ⟨Nat.le_of_ble_eq_true rfl, Nat.le_of_ble_eq_true rfl⟩ (Nat.le_of_ble_eq_true rfl) rfl dL_law_4 (fun rv w1 hp => ?_)
  obtain ⟨rfl, h, rfl, rfl⟩ := hp
  refine V.world (w' := SW cI h jInit ++ []) rfl ?_
  refine V.stack (st1 := [.ref (h 0)]) rfl ?_
  refine V.astore_n C dL_law_7 (by decide) rfl ?_
  dsimp only [List.set, Fin.val]
  refine V.iconst C (v := nI 2) dL_law_8 (by decide) ?_
  refine V.aload_n C dL_law_9 rfl ?_
  refine V.iconst C (v := nI 0) dL_law_10 (by decide) ?_
  refine V.callSc C CX (ct_L_cell (k := 0) (by omega) (by omega)) gL_law_L_cell (n := 2) ⟨by decide, by decide, by decide +kernel⟩ rfl rfl ⟨Nat.le_of_ble_eq_true rfl, Nat.le_of_ble_eq_true rfl⟩ ⟨rfl, rfl, by first | exact Nat.le_of_ble_eq_true rfl | (show _ ≤ 600104; omega), by first | exact Nat.le_of_ble_eq_true rfl | (show _ ≤ 7301314; omega)⟩ (Nat.le_of_ble_eq_true rfl) rfl dL_law_11 ?_
  refine V.bipush C (v := nI 7) dL_law_14 (by decide) ?_
  refine V.callSXi C (X := _) (ct_L_below (n := 7) (by decide) (by decide)) rfl gL_law_L_below (n := 2) ⟨by decide, by decide, by decide +kernel⟩ rfl rfl ⟨Nat.le_of_ble_eq_true rfl, Nat.le_of_ble_eq_true rfl⟩ ⟨rfl, rfl, by first | exact Nat.le_of_ble_eq_true rfl | (show _ ≤ 600104; omega), by first | exact Nat.le_of_ble_eq_true rfl | (show _ ≤ 7301314; omega)⟩ (Nat.le_of_ble_eq_true rfl) rfl dL_law_16 ?_
  refine V.iadd C dL_law_19 ?_
  refine V.topi (y := nI Q) ((nI_add _ _).trans (congrArg nI hQd.symm)) ?_
  refine V.istore_n C dL_law_20 (by decide) rfl ?_
  dsimp only [List.set, Fin.val]
  refine V.iload_n C dL_law_21 rfl ?_
  refine V.newarrayI C (N := Q) hT (rfl) (by omega) (by decide +kernel) (Nat.le_of_ble_eq_true rfl) (by show _ ≤ 7301314; omega) dL_law_22 (fun aA => ?_)
  refine V.widen (k := 40) (n := 1300) (by show _ ≤ 40; omega) (by show _ ≤ 1300; omega) ?_
  refine V.astore_n C dL_law_24 (by decide) rfl ?_
  dsimp only [List.set, Fin.val]
  refine V.iconst C (v := nI 0) dL_law_25 (by decide) ?_
  refine V.istore C dL_law_26 (by decide) rfl ?_
  dsimp only [List.set]
  refine V.sub (M := [some (.ref b), some (.ref (h 0)), some (.int (nI Q)), some (.ref aA), some (.int (nI 0)), none, none, none, none, none, none, none, none, none, none, none]) (lsub_s rfl (lsub_s rfl (lsub_s rfl (lsub_s rfl (lsub_s rfl (lsub_n (lsub_n (lsub_n (lsub_n (lsub_n (lsub_n (lsub_n (lsub_n (lsub_n (lsub_n (lsub_n (lsub_e))))))))))))))))) ?_
  refine law_q hT hn C CX hQ8 (fun σ g hJ => ?_)
  refine V.iconst C (v := nI 0) dL_law_73 (by decide) ?_
  refine V.istore C dL_law_74 (by decide) rfl ?_
  dsimp only [List.set]
  refine V.sub (M := [some (.ref b), some (.ref (h 0)), some (.int (nI Q)), some (.ref aA), some (.int (nI 0)), none, none, none, none, none, none, none, none, none, none, none]) (lsub_s rfl (lsub_s rfl (lsub_s rfl (lsub_s rfl (lsub_s rfl (lsub_n (lsub_n (lsub_n (lsub_n (lsub_n (lsub_n (lsub_n (lsub_n (lsub_n (lsub_n (lsub_n (lsub_e))))))))))))))))) ?_
  refine law_r hT hn C CX hQ2 hQ8 (σ0 := σ) ⟨⟨hJ.1, hJ.2.1, fun c _ => hJ.2.2.2.1 c, hJ.2.2.2.2⟩, hJ.2.2.1⟩ (fun σ1 hJ1 => ?_)
  refine law_p0 hT hn C CX hQ2 hJ1 (fun σ2 hJ2 => ?_)
  refine law_p hT hn C CX (P := 6 + jBel (jCell xs n 1) 15) (by omega) hJ2 (fun σ3 hJ3 => ?_)
  obtain ⟨P, hPd⟩ : ∃ P, P = 6 + jBel (jCell xs n 1) 15 := ⟨_, rfl⟩
  rw [← hPd] at hJ3 ⊢
  refine V.iconst C (v := nI 0) dL_law_255 (by decide) ?_
  refine V.istore C dL_law_256 (by decide) rfl ?_
  dsimp only [List.set]
  refine V.sub (M := [some (.ref b), some (.ref (h 0)), some (.int (nI Q)), some (.ref aA), some (.int (nI P)), some (.int (nI 0)), none, none, none, none, none, none, none, none, none, none]) (lsub_s rfl (lsub_s rfl (lsub_s rfl (lsub_s rfl (lsub_s rfl (lsub_s rfl (lsub_n (lsub_n (lsub_n (lsub_n (lsub_n (lsub_n (lsub_n (lsub_n (lsub_n (lsub_n (lsub_e))))))))))))))))) ?_
  refine law_t hT hn C CX hJ3 (fun σ4 hJ4 => ?_)
  refine V.aload_n C dL_law_315 rfl ?_
  refine V.aload_n C dL_law_316 rfl ?_
  refine V.bipush C (v := nI 6) dL_law_317 (by decide) ?_
  refine V.callSc C CX (ct_L_cell (k := 6) (by omega) (by omega)) gL_law_L_cell (n := 2) ⟨by decide, by decide, by decide +kernel⟩ rfl rfl ⟨Nat.le_of_ble_eq_true rfl, Nat.le_of_ble_eq_true rfl⟩ ⟨rfl, rfl, by first | exact Nat.le_of_ble_eq_true rfl | (show _ ≤ 600104; omega), by first | exact Nat.le_of_ble_eq_true rfl | (show _ ≤ 7301314; omega)⟩ (Nat.le_of_ble_eq_true rfl) rfl dL_law_319 ?_
  refine V.iconst C (v := nI 4) dL_law_322 (by decide) ?_
  refine V.callSXi C (X := _) (ct_L_below (n := 4) (by decide) (by decide)) rfl gL_law_L_below (n := 2) ⟨by decide, by decide, by decide +kernel⟩ rfl rfl ⟨Nat.le_of_ble_eq_true rfl, Nat.le_of_ble_eq_true rfl⟩ ⟨rfl, rfl, by first | exact Nat.le_of_ble_eq_true rfl | (show _ ≤ 600104; omega), by first | exact Nat.le_of_ble_eq_true rfl | (show _ ≤ 7301314; omega)⟩ (Nat.le_of_ble_eq_true rfl) rfl dL_law_323 ?_
  refine V.callVXi C (X := _) (ct_X6_soft (σ := σ4) (x := jBel (jCell xs n 6) 4) hT (by omega)) rfl gL_law_X6_soft (n := 1) ⟨rfl, by decide, by decide, by decide +kernel⟩ rfl (q0 := 0) rfl rfl rfl ⟨Nat.le_of_ble_eq_true rfl, Nat.le_of_ble_eq_true rfl⟩ ⟨rfl, rfl, by first | exact Nat.le_of_ble_eq_true rfl | (show _ ≤ 600104; omega), by first | exact Nat.le_of_ble_eq_true rfl | (show _ ≤ 7301314; omega)⟩ (Nat.le_of_ble_eq_true rfl) rfl dL_law_326 ?_
  refine V.topi (y := nI 0) (hJ4.2.2.2) ?_
  refine V.if_eq C (tgt := 334) dL_law_329 (by decide) (fun c_1 => ?_) (fun c_1 => ?_)
  · refine V.iload_n C dL_law_334 rfl ?_
    refine V.newarrayI C (N := Q) hT (rfl) (by omega) (by decide +kernel) (Nat.le_of_ble_eq_true rfl) (by show _ ≤ 7301314; omega) dL_law_335 (fun aH => ?_)
    refine V.world (w' := SW cI h (sW σ4 2 0 (nI (jBel (jCell xs n 6) 4))) ++ [(aA, .inl (cI, Q, .inl g)), (aH, .inl (cI, Q, .inl (fun _ => 0)))]) rfl ?_
    refine V.widen (k := 50) (n := 1400) (by show _ ≤ 50; omega) (by show _ ≤ 1400; omega) ?_
    refine V.astore C dL_law_337 (by decide) rfl ?_
    dsimp only [List.set]
    refine V.iconst C (v := nI 0) dL_law_339 (by decide) ?_
    refine V.istore C dL_law_340 (by decide) rfl ?_
    dsimp only [List.set]
    refine V.sub (M := [some (.ref b), some (.ref (h 0)), some (.int (nI Q)), some (.ref aA), some (.int (nI P)), some (.ref aH), some (.int (nI 0)), none, none, none, none, none, none, none, none, none]) (lsub_s rfl (lsub_s rfl (lsub_s rfl (lsub_s rfl (lsub_s rfl (lsub_s rfl (lsub_s rfl (lsub_n (lsub_n (lsub_n (lsub_n (lsub_n (lsub_n (lsub_n (lsub_n (lsub_n (lsub_e))))))))))))))))) ?_
    obtain ⟨r0, r1⟩ := set_s hJ4.1 (show jBel (jCell xs n 6) 4 ≤ 3 by omega) _ rfl
    refine law_loop hT hn C CX (P := P) (by omega) (hel0 := fun _ => 0) ⟨r0.inv, by rw [r1 8 (by decide)]; exact hJ4.2.1, Or.inl (by rw [r1 7 (by decide)]; exact hJ4.1.2.2.2.2.2.2.2.2.2)⟩ (fun σ5 N hel hJ5 => ?_)
    exact law_end hT hn C CX hJ5 kk
  · exfalso
    exact c_1 rfl
