def qa (xs : Nat → Int32) (n k : Nat) : Nat := 2 + jBel (jCell xs n k >>> (nI 4 &&& 31)) 4
theorem qa_le (xs : Nat → Int32) (n k : Nat) : 2 ≤ qa xs n k ∧ qa xs n k ≤ 5 := by
  have := jBel_lt (jCell xs n k >>> (nI 4 &&& 31)) (n := 4) (by decide)
  unfold qa
  omega
/-- behind k QUESTIONS -/
def J1 (k : Nat) (s : (Nat → Nat → Int32) × (Nat → Int32)) : Prop := Set0 s.1 0 k ∧ (∀ q, q < k → s.2 q = s.1 8 q) ∧ s.1 1 1 = nI 0 ∧ (∀ c, s.1 11 c = nI 0) ∧ s.1 2 0 = nI 0
theorem J1_s {k a : Nat} {σ : Nat → Nat → Int32} {g : Nat → Int32} (hJ : J1 k (σ, g)) (hk : k < 10) (ha : 2 ≤ a ∧ a ≤ 5) : J1 (k + 1) (sW (sW σ 8 k (nI a)) 1 0 (nI (k + 1)), upd g k (nI a)) := by
  obtain ⟨h0, h1, h2, h3, h4⟩ := hJ
  obtain ⟨r0, r1, r2, r3, r4⟩ := set_q h0 hk ha.1 ha.2 _ rfl
  refine ⟨r0, fun q hq => ?_, r2.trans h2, fun c => by rw [show (sW (sW σ 8 k (nI a)) 1 0 (nI (k + 1)), upd g k (nI a)).1 11 = σ 11 from r3]; exact h3 c, by rw [show (sW (sW σ 8 k (nI a)) 1 0 (nI (k + 1)), upd g k (nI a)).1 2 = σ 2 from r4]; exact h4⟩
  show upd g k (nI a) q = sW (sW σ 8 k (nI a)) 1 0 (nI (k + 1)) 8 q
  rw [r1]
  unfold upd
  by_cases e : q = k
  · rw [if_pos e, if_pos e]
  · rw [if_neg e, if_neg e]
    exact h1 q (by omega)
theorem Set0.sz {σ : Nat → Nat → Int32} {P Q : Nat} (h : Set0 σ P Q) : σ 4 0 = nI 0 ∧ σ 3 0 = nI P ∧ P ≤ 24 ∧ σ 1 0 = nI Q ∧ Q ≤ 10 ∧ σ 0 0 = nI 3 := ⟨h.1.1, h.1.2.2.1, h.1.2.2.2.1, h.1.2.2.2.2.1, h.1.2.2.2.2.2.1, h.1.2.2.2.2.2.2.1⟩
set_option maxRecDepth 100000 in
set_option maxHeartbeats 8000000 in
theorem law_q {κ : VK} {l : Launch} {D : va_G} {tys : List (ClassId × FieldType)} {nm : String} {cI : ClassId} {h : Nat → Nat} (hT : tys[0]? = some (cI, .int)) {b n : Nat} {xs : Nat → Int32} (hn : n ≤ 260) (C : Cx κ l D code RL wsL_law 16 ret tys room_1 nm) (CX : CxX κ b n xs) {aA Q : Nat} (hQ : Q ≤ 8) (kk : ∀ σ g, J1 Q (σ, g) → V κ 40 1300 (SW cI h σ ++ [(aA, .inl (cI, Q, .inl g))]) 73 [some (.ref b), some (.ref (h 0)), some (.int (nI Q)), some (.ref aA), some (.int (nI Q)), none, none, none, none, none, none, none, none, none, none, none] []) : V κ 40 1300 (SW cI h jInit ++ [(aA, .inl (cI, Q, .inl (fun _ => 0)))]) 28 [some (.ref b), some (.ref (h 0)), some (.int (nI Q)), some (.ref aA), some (.int (nI 0)), none, none, none, none, none, none, none, none, none, none, none] [] := by
  refine V.loopS (S := (Nat → Nat → Int32) × (Nat → Int32)) Q J1 (fun k s => V κ 40 1300 (SW cI h s.1 ++ [(aA, .inl (cI, Q, .inl s.2))]) 28 [some (.ref b), some (.ref (h 0)), some (.int (nI Q)), some (.ref aA), some (.int (nI k)), none, none, none, none, none, none, none, none, none, none, none] []) (fun k hk s hJ ht => ?_) (fun s hJ => ?_) (jInit, fun _ => 0) ⟨set_init, fun q hq => absurd hq (Nat.not_lt_zero q), rfl, fun c => rfl, rfl⟩
  · obtain ⟨σ, g⟩ := s
    have hz := hJ.1.sz
    have hz1 : σ 1 0 = nI k := hz.2.2.2.1
    try dsimp only
    refine V.iload C dL_law_28 rfl ?_
    refine V.iload_n C dL_law_30 rfl ?_
    refine V.icmp_ge C (tgt := 73) dL_law_31 (by decide) (fun c_1 => ?_) (fun c_1 => ?_)
    · exfalso
      exact c_1 (nI_lt hk (by omega))
    · refine V.aload_n C dL_law_34 rfl ?_
      refine V.iload C dL_law_35 rfl ?_
      refine V.iconst C (v := nI 2) dL_law_37 (by decide) ?_
      refine V.aload_n C dL_law_38 rfl ?_
      refine V.iload C dL_law_39 rfl ?_
      refine V.callSc C CX (ct_L_cell (k := k) (by omega) (by omega)) gL_law_L_cell (n := 2) ⟨by decide, by decide, by decide +kernel⟩ rfl rfl ⟨Nat.le_of_ble_eq_true rfl, Nat.le_of_ble_eq_true rfl⟩ ⟨rfl, rfl, by first | exact Nat.le_of_ble_eq_true rfl | (show _ ≤ 600104; omega), by first | exact Nat.le_of_ble_eq_true rfl | (show _ ≤ 7301314; omega)⟩ (Nat.le_of_ble_eq_true rfl) rfl dL_law_41 ?_
      refine V.iconst C (v := nI 4) dL_law_44 (by decide) ?_
      refine V.ishr C dL_law_45 ?_
      refine V.iconst C (v := nI 4) dL_law_46 (by decide) ?_
      refine V.callSXi C (X := _) (ct_L_below (n := 4) (by decide) (by decide)) rfl gL_law_L_below (n := 2) ⟨by decide, by decide, by decide +kernel⟩ rfl rfl ⟨Nat.le_of_ble_eq_true rfl, Nat.le_of_ble_eq_true rfl⟩ ⟨rfl, rfl, by first | exact Nat.le_of_ble_eq_true rfl | (show _ ≤ 600104; omega), by first | exact Nat.le_of_ble_eq_true rfl | (show _ ≤ 7301314; omega)⟩ (Nat.le_of_ble_eq_true rfl) rfl dL_law_47 ?_
      refine V.iadd C dL_law_50 ?_
      refine V.topi (y := nI (qa xs n k)) (nI_add _ _) ?_
      refine V.iast C (q0 := 27) (t0 := 0) (w' := SW cI h σ ++ [(aA, .inl (cI, Q, .inl (upd g k (nI (qa xs n k)))))]) rfl hT (rfl) (hk) (by omega) rfl dL_law_51 ?_
      refine V.aload_n C dL_law_52 rfl ?_
      refine V.aload_n C dL_law_53 rfl ?_
      refine V.iload C dL_law_54 rfl ?_
      refine V.iald C (q0 := 27) (t0 := 0) rfl hT (rfl) (hk) (by omega) dL_law_56 ?_
      refine V.topi (y := nI (qa xs n k)) (by simp [upd]) ?_
      refine V.callVXi C (X := _) (ct_X6_question (a := qa xs n k) (Q := k) hT hz.2.2.2.1 (by omega) hz.1 (qa_le xs n k).1 (qa_le xs n k).2) rfl gL_law_X6_question (n := 1) ⟨rfl, by decide, by decide, by decide +kernel⟩ rfl (q0 := 0) rfl rfl rfl ⟨Nat.le_of_ble_eq_true rfl, Nat.le_of_ble_eq_true rfl⟩ ⟨rfl, rfl, by first | exact Nat.le_of_ble_eq_true rfl | (show _ ≤ 600104; omega), by first | exact Nat.le_of_ble_eq_true rfl | (show _ ≤ 7301314; omega)⟩ (Nat.le_of_ble_eq_true rfl) rfl dL_law_57 ?_
      refine V.iload C dL_law_60 rfl ?_
      refine V.icmp_eq C (tgt := 67) dL_law_62 (by decide) (fun c_2 => ?_) (fun c_2 => ?_)
      · refine V.iinc C (v := nI (k + 1)) dL_law_67 rfl (nI_inc k) (by decide) rfl ?_
        dsimp only [List.set]
        refine V.goto C (tgt := 28) dL_law_70 (by decide) ?_
        refine V.sub (M := [some (.ref b), some (.ref (h 0)), some (.int (nI Q)), some (.ref aA), some (.int (nI (k + 1))), none, none, none, none, none, none, none, none, none, none, none]) (lsub_s rfl (lsub_s rfl (lsub_s rfl (lsub_s rfl (lsub_s rfl (lsub_n (lsub_n (lsub_n (lsub_n (lsub_n (lsub_n (lsub_n (lsub_n (lsub_n (lsub_n (lsub_n (lsub_e))))))))))))))))) ?_
        exact ht (_, _) (J1_s hJ (by omega) (qa_le xs n k))
      · exfalso
        exact c_2 rfl
  · obtain ⟨σ, g⟩ := s
    try dsimp only
    refine V.iload C dL_law_28 rfl ?_
    refine V.iload_n C dL_law_30 rfl ?_
    refine V.icmp_ge C (tgt := 73) dL_law_31 (by decide) (fun c_1 => ?_) (fun c_1 => ?_)
    · exact kk σ g hJ
    · exfalso
      exact absurd c_1 (nI_nlt (Nat.le_refl _) (by omega))
/-- a set-up house with P PERSONS; the answers' row; TARGETS from m on, SOFT EDGE not yet given -/
def J2 (Q : Nat) (g : Nat → Int32) (P m : Nat) (σ : Nat → Nat → Int32) : Prop := Set0 σ P Q ∧ (∀ q, q < Q → g q = σ 8 q) ∧ (∀ c, m ≤ c → σ 11 c = nI 0) ∧ σ 2 0 = nI 0
theorem J2_r {Q q a P m : Nat} {g : Nat → Int32} {t : Int32} {σ : Nat → Nat → Int32} (hJ : J2 Q g P m σ ∧ σ 1 1 = nI 0) (hq : q < Q) (ha : a < 5) (ht : t = -1 ∨ ∃ j, t = nI j ∧ q < j ∧ j < Q) : J2 Q g P m (sW σ 9 (q * 5 + a) t) ∧ sW σ 9 (q * 5 + a) t 1 1 = nI 0 := by
  obtain ⟨⟨h0, h1, h3, h4⟩, h5⟩ := hJ
  obtain ⟨r0, r1⟩ := set_r h0 hq ha ht _ rfl
  exact ⟨⟨r0, by rw [r1 8 (by decide)]; exact h1, by rw [r1 11 (by decide)]; exact h3, by rw [r1 2 (by decide)]; exact h4⟩, by rw [r1 1 (by decide)]; exact h5⟩
theorem J2_rot {Q r P m : Nat} {g : Nat → Int32} {σ : Nat → Nat → Int32} (hJ : J2 Q g P m σ) (hr : r ≤ 3) (hrQ : r ≤ Q) : J2 Q g P m (sW σ 1 1 (nI r)) := by
  obtain ⟨h0, h1, h3, h4⟩ := hJ
  obtain ⟨r0, r1⟩ := set_rot h0 hr hrQ _ rfl
  exact ⟨r0, by rw [r1 8 (by decide)]; exact h1, by rw [r1 11 (by decide)]; exact h3, by rw [r1 2 (by decide)]; exact h4⟩
theorem J2_p {Q P m c : Nat} {g : Nat → Int32} {σ : Nat → Nat → Int32} (hJ : J2 Q g P m σ) (hP : P < 24) (hc : c < 6) : J2 Q g (P + 1) m (sW (sW (sW σ 13 P (nI c)) 16 P (-1)) 3 0 (nI (P + 1))) := by
  obtain ⟨h0, h1, h3, h4⟩ := hJ
  obtain ⟨r0, r1⟩ := set_p h0 hP hc _ rfl
  exact ⟨r0, by rw [r1 8 (by decide) (by decide) (by decide)]; exact h1, by rw [r1 11 (by decide) (by decide) (by decide)]; exact h3, by rw [r1 2 (by decide) (by decide) (by decide)]; exact h4⟩
theorem J2_t {Q P c t : Nat} {g : Nat → Int32} {σ : Nat → Nat → Int32} (hJ : J2 Q g P c σ) (hc : c < 6) (ht : t ≤ 9) : J2 Q g P (c + 1) (jWeigh (sW σ 11 c (nI t)) 24 0 3) := by
  obtain ⟨h0, h1, h3, h4⟩ := hJ
  obtain ⟨r0, r1, r2⟩ := set_t h0 hc ht _ rfl
  exact ⟨r0, by rw [r1 8 (by decide) (by decide)]; exact h1, fun d hd => by rw [r2, if_neg (by omega)]; exact h3 d (by omega), by rw [r1 2 (by decide) (by decide)]; exact h4⟩
theorem J2_A {Q P m q : Nat} {g : Nat → Int32} {σ : Nat → Nat → Int32} (hJ : J2 Q g P m σ) (hq : q < Q) : g q = nI (jA σ q) ∧ 0 < jA σ q ∧ jA σ q ≤ 5 := by
  have h1 := Inv_jA hJ.1.2.1 hq
  exact ⟨(hJ.2.1 q hq).trans h1.2.2.2, by omega, by omega⟩
set_option maxRecDepth 100000 in
set_option maxHeartbeats 8000000 in
theorem law_r {κ : VK} {l : Launch} {D : va_G} {tys : List (ClassId × FieldType)} {nm : String} {cI : ClassId} {h : Nat → Nat} (hT : tys[0]? = some (cI, .int)) {b n : Nat} {xs : Nat → Int32} (hn : n ≤ 260) (C : Cx κ l D code RL wsL_law 16 ret tys room_1 nm) (CX : CxX κ b n xs) {aA Q : Nat} {g : Nat → Int32} {σ0 : Nat → Nat → Int32} (hQ2 : 2 ≤ Q) (hQ : Q ≤ 8) (hJ0 : J2 Q g 0 0 σ0 ∧ σ0 1 1 = nI 0) (kk : ∀ σ, J2 Q g 0 0 σ ∧ σ 1 1 = nI 0 → V κ 40 1300 (SW cI h σ ++ [(aA, .inl (cI, Q, .inl g))]) 155 [some (.ref b), some (.ref (h 0)), some (.int (nI Q)), some (.ref aA), some (.int (nI 5)), none, none, none, none, none, none, none, none, none, none, none] []) : V κ 40 1300 (SW cI h σ0 ++ [(aA, .inl (cI, Q, .inl g))]) 76 [some (.ref b), some (.ref (h 0)), some (.int (nI Q)), some (.ref aA), some (.int (nI 0)), none, none, none, none, none, none, none, none, none, none, none] [] := by
  refine V.loopS (S := Nat → Nat → Int32) 5 (fun _ σ => J2 Q g 0 0 σ ∧ σ 1 1 = nI 0) (fun k σ => V κ 40 1300 (SW cI h σ ++ [(aA, .inl (cI, Q, .inl g))]) 76 [some (.ref b), some (.ref (h 0)), some (.int (nI Q)), some (.ref aA), some (.int (nI k)), none, none, none, none, none, none, none, none, none, none, none] []) (fun k hk σ hJ ht => ?_) (fun σ hJ => ?_) σ0 hJ0
  · have hz := hJ.1.1.sz
    have hq := jBel_lt (jCell xs n (k + 2)) (n := Q) (by omega)
    have hq2 := J2_A hJ.1 hq
    have h3 := jBel_lt (jCell xs n (k + 3)) (n := 3) (by decide)
    try dsimp only
    refine V.iload C dL_law_76 rfl ?_
    refine V.iconst C (v := nI 5) dL_law_78 (by decide) ?_
    refine V.icmp_ge C (tgt := 155) dL_law_79 (by decide) (fun c_1 => ?_) (fun c_1 => ?_)
    · exfalso
      exact c_1 (nI_lt hk (by decide))
    · refine V.aload_n C dL_law_82 rfl ?_
      refine V.iload C dL_law_83 rfl ?_
      refine V.iconst C (v := nI 2) dL_law_85 (by decide) ?_
      refine V.iadd C dL_law_86 ?_
      refine V.topi (y := nI (k + 2)) (nI_add _ _) ?_
      refine V.callSc C CX (ct_L_cell (k := (k + 2)) (by omega) (by omega)) gL_law_L_cell (n := 2) ⟨by decide, by decide, by decide +kernel⟩ rfl rfl ⟨Nat.le_of_ble_eq_true rfl, Nat.le_of_ble_eq_true rfl⟩ ⟨rfl, rfl, by first | exact Nat.le_of_ble_eq_true rfl | (show _ ≤ 600104; omega), by first | exact Nat.le_of_ble_eq_true rfl | (show _ ≤ 7301314; omega)⟩ (Nat.le_of_ble_eq_true rfl) rfl dL_law_87 ?_
      refine V.iload_n C dL_law_90 rfl ?_
      refine V.callSXi C (X := _) (ct_L_below (n := Q) (by omega) (by omega)) rfl gL_law_L_below (n := 2) ⟨by decide, by decide, by decide +kernel⟩ rfl rfl ⟨Nat.le_of_ble_eq_true rfl, Nat.le_of_ble_eq_true rfl⟩ ⟨rfl, rfl, by first | exact Nat.le_of_ble_eq_true rfl | (show _ ≤ 600104; omega), by first | exact Nat.le_of_ble_eq_true rfl | (show _ ≤ 7301314; omega)⟩ (Nat.le_of_ble_eq_true rfl) rfl dL_law_91 ?_
      refine V.istore C dL_law_94 (by decide) rfl ?_
      dsimp only [List.set]
      refine V.iload C dL_law_96 rfl ?_
      refine V.iconst C (v := nI 1) dL_law_98 (by decide) ?_
      refine V.iadd C dL_law_99 ?_
      refine V.topi (y := nI (jBel (jCell xs n (k + 2)) Q + 1)) (nI_add _ _) ?_
      refine V.aload_n C dL_law_100 rfl ?_
      refine V.iload C dL_law_101 rfl ?_
      refine V.iconst C (v := nI 3) dL_law_103 (by decide) ?_
      refine V.iadd C dL_law_104 ?_
      refine V.topi (y := nI (k + 3)) (nI_add _ _) ?_
      refine V.callSc C CX (ct_L_cell (k := (k + 3)) (by omega) (by omega)) gL_law_L_cell (n := 2) ⟨by decide, by decide, by decide +kernel⟩ rfl rfl ⟨Nat.le_of_ble_eq_true rfl, Nat.le_of_ble_eq_true rfl⟩ ⟨rfl, rfl, by first | exact Nat.le_of_ble_eq_true rfl | (show _ ≤ 600104; omega), by first | exact Nat.le_of_ble_eq_true rfl | (show _ ≤ 7301314; omega)⟩ (Nat.le_of_ble_eq_true rfl) rfl dL_law_105 ?_
      refine V.iconst C (v := nI 3) dL_law_108 (by decide) ?_
      refine V.callSXi C (X := _) (ct_L_below (n := 3) (by decide) (by decide)) rfl gL_law_L_below (n := 2) ⟨by decide, by decide, by decide +kernel⟩ rfl rfl ⟨Nat.le_of_ble_eq_true rfl, Nat.le_of_ble_eq_true rfl⟩ ⟨rfl, rfl, by first | exact Nat.le_of_ble_eq_true rfl | (show _ ≤ 600104; omega), by first | exact Nat.le_of_ble_eq_true rfl | (show _ ≤ 7301314; omega)⟩ (Nat.le_of_ble_eq_true rfl) rfl dL_law_109 ?_
      refine V.iadd C dL_law_112 ?_
      refine V.topi (y := nI (jBel (jCell xs n (k + 2)) Q + 1 + jBel (jCell xs n (k + 3)) 3)) (nI_add _ _) ?_
      refine V.istore C dL_law_113 (by decide) rfl ?_
      dsimp only [List.set]
      refine V.aload_n C dL_law_115 rfl ?_
      refine V.iload C dL_law_116 rfl ?_
      refine V.aload_n C dL_law_118 rfl ?_
      refine V.iload C dL_law_119 rfl ?_
      refine V.iconst C (v := nI 4) dL_law_121 (by decide) ?_
      refine V.iadd C dL_law_122 ?_
      refine V.topi (y := nI (k + 4)) (nI_add _ _) ?_
      refine V.callSc C CX (ct_L_cell (k := (k + 4)) (by omega) (by omega)) gL_law_L_cell (n := 2) ⟨by decide, by decide, by decide +kernel⟩ rfl rfl ⟨Nat.le_of_ble_eq_true rfl, Nat.le_of_ble_eq_true rfl⟩ ⟨rfl, rfl, by first | exact Nat.le_of_ble_eq_true rfl | (show _ ≤ 600104; omega), by first | exact Nat.le_of_ble_eq_true rfl | (show _ ≤ 7301314; omega)⟩ (Nat.le_of_ble_eq_true rfl) rfl dL_law_123 ?_
      refine V.aload_n C dL_law_126 rfl ?_
      refine V.iload C dL_law_127 rfl ?_
      refine V.iald C (q0 := 27) (t0 := 0) rfl hT (rfl) (hq) (by omega) dL_law_129 ?_
      refine V.topi (y := nI (jA σ (jBel (jCell xs n (k + 2)) Q))) (hq2.1) ?_
      refine V.callSXi C (X := _) (ct_L_below (n := jA σ (jBel (jCell xs n (k + 2)) Q)) hq2.2.1 (by omega)) rfl gL_law_L_below (n := 2) ⟨by decide, by decide, by decide +kernel⟩ rfl rfl ⟨Nat.le_of_ble_eq_true rfl, Nat.le_of_ble_eq_true rfl⟩ ⟨rfl, rfl, by first | exact Nat.le_of_ble_eq_true rfl | (show _ ≤ 600104; omega), by first | exact Nat.le_of_ble_eq_true rfl | (show _ ≤ 7301314; omega)⟩ (Nat.le_of_ble_eq_true rfl) rfl dL_law_130 ?_
      refine V.iload C dL_law_133 rfl ?_
      refine V.iload_n C dL_law_135 rfl ?_
      refine V.icmp_ge C (tgt := 144) dL_law_136 (by decide) (fun c_2 => ?_) (fun c_2 => ?_)
      · refine V.iconst C (v := (-1)) dL_law_144 (by decide) ?_
        refine V.callVXi C (X := _) (ct_X6_route (q := jBel (jCell xs n (k + 2)) Q) (a := jBel (jCell xs n (k + 4)) (jA σ (jBel (jCell xs n (k + 2)) Q))) hT hz.2.2.2.1 hz.2.2.2.2.1 (Inv_hA hJ.1.1.2.1) hz.1 hq (jBel_lt _ hq2.2.1) (by first | exact Or.inl rfl | exact Or.inr ⟨_, rfl, by omega, (nI_ltI (by omega) (by omega)).mp (by assumption)⟩)) rfl gL_law_X6_route (n := 3) ⟨rfl, by decide, by decide, by decide +kernel⟩ rfl (q0 := 0) rfl rfl rfl ⟨Nat.le_of_ble_eq_true rfl, Nat.le_of_ble_eq_true rfl⟩ ⟨rfl, rfl, by first | exact Nat.le_of_ble_eq_true rfl | (show _ ≤ 600104; omega), by first | exact Nat.le_of_ble_eq_true rfl | (show _ ≤ 7301314; omega)⟩ (Nat.le_of_ble_eq_true rfl) rfl dL_law_145 ?_
        refine V.pop C dL_law_148 rfl ?_
        refine V.iinc C (v := nI (k + 1)) dL_law_149 rfl (nI_inc k) (by decide) rfl ?_
        dsimp only [List.set]
        refine V.goto C (tgt := 76) dL_law_152 (by decide) ?_
        refine V.sub (M := [some (.ref b), some (.ref (h 0)), some (.int (nI Q)), some (.ref aA), some (.int (nI (k + 1))), none, none, none, none, none, none, none, none, none, none, none]) (lsub_s rfl (lsub_s rfl (lsub_s rfl (lsub_s rfl (lsub_s rfl (lsub_n (lsub_n (lsub_n (lsub_n (lsub_n (lsub_n (lsub_n (lsub_n (lsub_n (lsub_n (lsub_n (lsub_e))))))))))))))))) ?_
        exact ht _ (J2_r hJ hq (by have := jBel_lt (jCell xs n (k + 4)) hq2.2.1; omega) (by first | exact Or.inl rfl | exact Or.inr ⟨_, rfl, by omega, (nI_ltI (by omega) (by omega)).mp (by assumption)⟩))
      · refine V.iload C dL_law_139 rfl ?_
        refine V.goto C (tgt := 145) dL_law_141 (by decide) ?_
        refine V.callVXi C (X := _) (ct_X6_route (q := jBel (jCell xs n (k + 2)) Q) (a := jBel (jCell xs n (k + 4)) (jA σ (jBel (jCell xs n (k + 2)) Q))) hT hz.2.2.2.1 hz.2.2.2.2.1 (Inv_hA hJ.1.1.2.1) hz.1 hq (jBel_lt _ hq2.2.1) (by first | exact Or.inl rfl | exact Or.inr ⟨_, rfl, by omega, (nI_ltI (by omega) (by omega)).mp (by assumption)⟩)) rfl gL_law_X6_route (n := 3) ⟨rfl, by decide, by decide, by decide +kernel⟩ rfl (q0 := 0) rfl rfl rfl ⟨Nat.le_of_ble_eq_true rfl, Nat.le_of_ble_eq_true rfl⟩ ⟨rfl, rfl, by first | exact Nat.le_of_ble_eq_true rfl | (show _ ≤ 600104; omega), by first | exact Nat.le_of_ble_eq_true rfl | (show _ ≤ 7301314; omega)⟩ (Nat.le_of_ble_eq_true rfl) rfl dL_law_145 ?_
        refine V.pop C dL_law_148 rfl ?_
        refine V.iinc C (v := nI (k + 1)) dL_law_149 rfl (nI_inc k) (by decide) rfl ?_
        dsimp only [List.set]
        refine V.goto C (tgt := 76) dL_law_152 (by decide) ?_
        refine V.sub (M := [some (.ref b), some (.ref (h 0)), some (.int (nI Q)), some (.ref aA), some (.int (nI (k + 1))), none, none, none, none, none, none, none, none, none, none, none]) (lsub_s rfl (lsub_s rfl (lsub_s rfl (lsub_s rfl (lsub_s rfl (lsub_n (lsub_n (lsub_n (lsub_n (lsub_n (lsub_n (lsub_n (lsub_n (lsub_n (lsub_n (lsub_n (lsub_e))))))))))))))))) ?_
        exact ht _ (J2_r hJ hq (by have := jBel_lt (jCell xs n (k + 4)) hq2.2.1; omega) (by first | exact Or.inl rfl | exact Or.inr ⟨_, rfl, by omega, (nI_ltI (by omega) (by omega)).mp (by assumption)⟩))
  · try dsimp only
    refine V.iload C dL_law_76 rfl ?_
    refine V.iconst C (v := nI 5) dL_law_78 (by decide) ?_
    refine V.icmp_ge C (tgt := 155) dL_law_79 (by decide) (fun c_1 => ?_) (fun c_1 => ?_)
    · exact kk σ hJ
    · exfalso
      exact absurd c_1 (nI_nlt (Nat.le_refl _) (by decide))
set_option maxRecDepth 100000 in
set_option maxHeartbeats 8000000 in
theorem law_p0 {κ : VK} {l : Launch} {D : va_G} {tys : List (ClassId × FieldType)} {nm : String} {cI : ClassId} {h : Nat → Nat} (hT : tys[0]? = some (cI, .int)) {b n : Nat} {xs : Nat → Int32} (hn : n ≤ 260) (C : Cx κ l D code RL wsL_law 16 ret tys room_1 nm) (CX : CxX κ b n xs) {aA Q : Nat} {g : Nat → Int32} {σ : Nat → Nat → Int32} (hQ2 : 2 ≤ Q) (hJ : J2 Q g 0 0 σ ∧ σ 1 1 = nI 0) (kk : ∀ τ, J2 Q g 0 0 τ → V κ 40 1300 (SW cI h τ ++ [(aA, .inl (cI, Q, .inl g))]) 192 [some (.ref b), some (.ref (h 0)), some (.int (nI Q)), some (.ref aA), some (.int (nI (6 + jBel (jCell xs n 1) 15))), some (.int (nI 0)), none, none, none, none, none, none, none, none, none, none] []) : V κ 40 1300 (SW cI h σ ++ [(aA, .inl (cI, Q, .inl g))]) 155 [some (.ref b), some (.ref (h 0)), some (.int (nI Q)), some (.ref aA), some (.int (nI 5)), none, none, none, none, none, none, none, none, none, none, none] [] := by
  have hz := hJ.1.1.sz
  have h3 := jBel_lt (jCell xs n 9) (n := 3) (by decide)
  refine V.aload_n C dL_law_155 rfl ?_
  refine V.aload_n C dL_law_156 rfl ?_
  refine V.bipush C (v := nI 9) dL_law_157 (by decide) ?_
  refine V.callSc C CX (ct_L_cell (k := 9) (by omega) (by omega)) gL_law_L_cell (n := 2) ⟨by decide, by decide, by decide +kernel⟩ rfl rfl ⟨Nat.le_of_ble_eq_true rfl, Nat.le_of_ble_eq_true rfl⟩ ⟨rfl, rfl, by first | exact Nat.le_of_ble_eq_true rfl | (show _ ≤ 600104; omega), by first | exact Nat.le_of_ble_eq_true rfl | (show _ ≤ 7301314; omega)⟩ (Nat.le_of_ble_eq_true rfl) rfl dL_law_159 ?_
  refine V.iconst C (v := nI 3) dL_law_162 (by decide) ?_
  refine V.callSXi C (X := _) (ct_L_below (n := 3) (by decide) (by decide)) rfl gL_law_L_below (n := 2) ⟨by decide, by decide, by decide +kernel⟩ rfl rfl ⟨Nat.le_of_ble_eq_true rfl, Nat.le_of_ble_eq_true rfl⟩ ⟨rfl, rfl, by first | exact Nat.le_of_ble_eq_true rfl | (show _ ≤ 600104; omega), by first | exact Nat.le_of_ble_eq_true rfl | (show _ ≤ 7301314; omega)⟩ (Nat.le_of_ble_eq_true rfl) rfl dL_law_163 ?_
  refine V.callVXi C (X := _) (ct_X6_rotate (r := jBel (jCell xs n 9) 3) hT hz.2.2.2.1 hz.2.2.2.2.1 hz.1 (by omega) (by omega)) rfl gL_law_X6_rotate (n := 1) ⟨rfl, by decide, by decide, by decide +kernel⟩ rfl (q0 := 0) rfl rfl rfl ⟨Nat.le_of_ble_eq_true rfl, Nat.le_of_ble_eq_true rfl⟩ ⟨rfl, rfl, by first | exact Nat.le_of_ble_eq_true rfl | (show _ ≤ 600104; omega), by first | exact Nat.le_of_ble_eq_true rfl | (show _ ≤ 7301314; omega)⟩ (Nat.le_of_ble_eq_true rfl) rfl dL_law_166 ?_
  refine V.topi (y := nI 0) (hJ.2) ?_
  refine V.if_eq C (tgt := 174) dL_law_169 (by decide) (fun c_1 => ?_) (fun c_1 => ?_)
  · refine V.bipush C (v := nI 6) dL_law_174 (by decide) ?_
    refine V.aload_n C dL_law_176 rfl ?_
    refine V.iconst C (v := nI 1) dL_law_177 (by decide) ?_
    refine V.callSc C CX (ct_L_cell (k := 1) (by omega) (by omega)) gL_law_L_cell (n := 2) ⟨by decide, by decide, by decide +kernel⟩ rfl rfl ⟨Nat.le_of_ble_eq_true rfl, Nat.le_of_ble_eq_true rfl⟩ ⟨rfl, rfl, by first | exact Nat.le_of_ble_eq_true rfl | (show _ ≤ 600104; omega), by first | exact Nat.le_of_ble_eq_true rfl | (show _ ≤ 7301314; omega)⟩ (Nat.le_of_ble_eq_true rfl) rfl dL_law_178 ?_
    refine V.bipush C (v := nI 15) dL_law_181 (by decide) ?_
    refine V.callSXi C (X := _) (ct_L_below (n := 15) (by decide) (by decide)) rfl gL_law_L_below (n := 2) ⟨by decide, by decide, by decide +kernel⟩ rfl rfl ⟨Nat.le_of_ble_eq_true rfl, Nat.le_of_ble_eq_true rfl⟩ ⟨rfl, rfl, by first | exact Nat.le_of_ble_eq_true rfl | (show _ ≤ 600104; omega), by first | exact Nat.le_of_ble_eq_true rfl | (show _ ≤ 7301314; omega)⟩ (Nat.le_of_ble_eq_true rfl) rfl dL_law_183 ?_
    refine V.iadd C dL_law_186 ?_
    refine V.topi (y := nI (6 + jBel (jCell xs n 1) 15)) (nI_add _ _) ?_
    refine V.istore C dL_law_187 (by decide) rfl ?_
    dsimp only [List.set]
    refine V.iconst C (v := nI 0) dL_law_189 (by decide) ?_
    refine V.istore C dL_law_190 (by decide) rfl ?_
    dsimp only [List.set]
    refine V.sub (M := [some (.ref b), some (.ref (h 0)), some (.int (nI Q)), some (.ref aA), some (.int (nI (6 + jBel (jCell xs n 1) 15))), some (.int (nI 0)), none, none, none, none, none, none, none, none, none, none]) (lsub_s rfl (lsub_s rfl (lsub_s rfl (lsub_s rfl (lsub_s rfl (lsub_s rfl (lsub_n (lsub_n (lsub_n (lsub_n (lsub_n (lsub_n (lsub_n (lsub_n (lsub_n (lsub_n (lsub_e))))))))))))))))) ?_
    exact kk _ (J2_rot hJ.1 (by omega) (by omega))
  · exfalso
    exact c_1 rfl
set_option maxRecDepth 100000 in
set_option maxHeartbeats 8000000 in
theorem law_p {κ : VK} {l : Launch} {D : va_G} {tys : List (ClassId × FieldType)} {nm : String} {cI : ClassId} {h : Nat → Nat} (hT : tys[0]? = some (cI, .int)) {b n : Nat} {xs : Nat → Int32} (hn : n ≤ 260) (C : Cx κ l D code RL wsL_law 16 ret tys room_1 nm) (CX : CxX κ b n xs) {aA Q P : Nat} {g : Nat → Int32} {σ0 : Nat → Nat → Int32} (hP : P ≤ 20) (hJ0 : J2 Q g 0 0 σ0) (kk : ∀ σ, J2 Q g P 0 σ → V κ 40 1300 (SW cI h σ ++ [(aA, .inl (cI, Q, .inl g))]) 255 [some (.ref b), some (.ref (h 0)), some (.int (nI Q)), some (.ref aA), some (.int (nI (P))), some (.int (nI P)), none, none, none, none, none, none, none, none, none, none] []) : V κ 40 1300 (SW cI h σ0 ++ [(aA, .inl (cI, Q, .inl g))]) 192 [some (.ref b), some (.ref (h 0)), some (.int (nI Q)), some (.ref aA), some (.int (nI (P))), some (.int (nI 0)), none, none, none, none, none, none, none, none, none, none] [] := by
  refine V.loopS (S := Nat → Nat → Int32) P (fun k σ => J2 Q g k 0 σ) (fun k σ => V κ 40 1300 (SW cI h σ ++ [(aA, .inl (cI, Q, .inl g))]) 192 [some (.ref b), some (.ref (h 0)), some (.int (nI Q)), some (.ref aA), some (.int (nI (P))), some (.int (nI k)), none, none, none, none, none, none, none, none, none, none] []) (fun k hk σ hJ ht => ?_) (fun σ hJ => ?_) σ0 hJ0
  · have hz := hJ.1.sz
    have ha := jBel_lt (jCell xs n (k % 16) >>> (nI (k % 5) &&& 31)) (n := 3) (by decide)
    have hb := jBel_lt (jCell xs n (k % 16) >>> (nI (3 + k % 7) &&& 31)) (n := 2) (by decide)
    try dsimp only
    refine V.iload C dL_law_192 rfl ?_
    refine V.iload C dL_law_194 rfl ?_
    refine V.icmp_ge C (tgt := 255) dL_law_196 (by decide) (fun c_1 => ?_) (fun c_1 => ?_)
    · exfalso
      exact c_1 (nI_lt hk (by omega))
    · refine V.aload_n C dL_law_199 rfl ?_
      refine V.aload_n C dL_law_200 rfl ?_
      refine V.iload C dL_law_201 rfl ?_
      refine V.bipush C (v := nI 16) dL_law_203 (by decide) ?_
      refine V.irem C dL_law_205 (by decide) ?_
      refine V.topi (y := nI (k % 16)) (nI_mod (by omega) (by decide) (by decide)) ?_
      refine V.callSc C CX (ct_L_cell (k := (k % 16)) (by omega) (by omega)) gL_law_L_cell (n := 2) ⟨by decide, by decide, by decide +kernel⟩ rfl rfl ⟨Nat.le_of_ble_eq_true rfl, Nat.le_of_ble_eq_true rfl⟩ ⟨rfl, rfl, by first | exact Nat.le_of_ble_eq_true rfl | (show _ ≤ 600104; omega), by first | exact Nat.le_of_ble_eq_true rfl | (show _ ≤ 7301314; omega)⟩ (Nat.le_of_ble_eq_true rfl) rfl dL_law_206 ?_
      refine V.iload C dL_law_209 rfl ?_
      refine V.iconst C (v := nI 5) dL_law_211 (by decide) ?_
      refine V.irem C dL_law_212 (by decide) ?_
      refine V.topi (y := nI (k % 5)) (nI_mod (by omega) (by decide) (by decide)) ?_
      refine V.ishr C dL_law_213 ?_
      refine V.iconst C (v := nI 3) dL_law_214 (by decide) ?_
      refine V.callSXi C (X := _) (ct_L_below (n := 3) (by decide) (by decide)) rfl gL_law_L_below (n := 2) ⟨by decide, by decide, by decide +kernel⟩ rfl rfl ⟨Nat.le_of_ble_eq_true rfl, Nat.le_of_ble_eq_true rfl⟩ ⟨rfl, rfl, by first | exact Nat.le_of_ble_eq_true rfl | (show _ ≤ 600104; omega), by first | exact Nat.le_of_ble_eq_true rfl | (show _ ≤ 7301314; omega)⟩ (Nat.le_of_ble_eq_true rfl) rfl dL_law_215 ?_
      refine V.aload_n C dL_law_218 rfl ?_
      refine V.iload C dL_law_219 rfl ?_
      refine V.bipush C (v := nI 16) dL_law_221 (by decide) ?_
      refine V.irem C dL_law_223 (by decide) ?_
      refine V.topi (y := nI (k % 16)) (nI_mod (by omega) (by decide) (by decide)) ?_
      refine V.callSc C CX (ct_L_cell (k := (k % 16)) (by omega) (by omega)) gL_law_L_cell (n := 2) ⟨by decide, by decide, by decide +kernel⟩ rfl rfl ⟨Nat.le_of_ble_eq_true rfl, Nat.le_of_ble_eq_true rfl⟩ ⟨rfl, rfl, by first | exact Nat.le_of_ble_eq_true rfl | (show _ ≤ 600104; omega), by first | exact Nat.le_of_ble_eq_true rfl | (show _ ≤ 7301314; omega)⟩ (Nat.le_of_ble_eq_true rfl) rfl dL_law_224 ?_
      refine V.iconst C (v := nI 3) dL_law_227 (by decide) ?_
      refine V.iload C dL_law_228 rfl ?_
      refine V.bipush C (v := nI 7) dL_law_230 (by decide) ?_
      refine V.irem C dL_law_232 (by decide) ?_
      refine V.topi (y := nI (k % 7)) (nI_mod (by omega) (by decide) (by decide)) ?_
      refine V.iadd C dL_law_233 ?_
      refine V.topi (y := nI (3 + k % 7)) (nI_add _ _) ?_
      refine V.ishr C dL_law_234 ?_
      refine V.iconst C (v := nI 2) dL_law_235 (by decide) ?_
      refine V.callSXi C (X := _) (ct_L_below (n := 2) (by decide) (by decide)) rfl gL_law_L_below (n := 2) ⟨by decide, by decide, by decide +kernel⟩ rfl rfl ⟨Nat.le_of_ble_eq_true rfl, Nat.le_of_ble_eq_true rfl⟩ ⟨rfl, rfl, by first | exact Nat.le_of_ble_eq_true rfl | (show _ ≤ 600104; omega), by first | exact Nat.le_of_ble_eq_true rfl | (show _ ≤ 7301314; omega)⟩ (Nat.le_of_ble_eq_true rfl) rfl dL_law_236 ?_
      refine V.callVXi C (X := _) (ct_X6_person (a := jBel (jCell xs n (k % 16) >>> (nI (k % 5) &&& 31)) 3) (b := jBel (jCell xs n (k % 16) >>> (nI (3 + k % 7) &&& 31)) 2) (P := k) hT hz.2.1 (by omega) ha hb) rfl gL_law_X6_person (n := 2) ⟨rfl, by decide, by decide, by decide +kernel⟩ rfl (q0 := 0) rfl rfl rfl ⟨Nat.le_of_ble_eq_true rfl, Nat.le_of_ble_eq_true rfl⟩ ⟨rfl, rfl, by first | exact Nat.le_of_ble_eq_true rfl | (show _ ≤ 600104; omega), by first | exact Nat.le_of_ble_eq_true rfl | (show _ ≤ 7301314; omega)⟩ (Nat.le_of_ble_eq_true rfl) rfl dL_law_239 ?_
      refine V.iload C dL_law_242 rfl ?_
      refine V.icmp_eq C (tgt := 249) dL_law_244 (by decide) (fun c_2 => ?_) (fun c_2 => ?_)
      · refine V.iinc C (v := nI (k + 1)) dL_law_249 rfl (nI_inc k) (by decide) rfl ?_
        dsimp only [List.set]
        refine V.goto C (tgt := 192) dL_law_252 (by decide) ?_
        refine V.sub (M := [some (.ref b), some (.ref (h 0)), some (.int (nI Q)), some (.ref aA), some (.int (nI (P))), some (.int (nI (k + 1))), none, none, none, none, none, none, none, none, none, none]) (lsub_s rfl (lsub_s rfl (lsub_s rfl (lsub_s rfl (lsub_s rfl (lsub_s rfl (lsub_n (lsub_n (lsub_n (lsub_n (lsub_n (lsub_n (lsub_n (lsub_n (lsub_n (lsub_n (lsub_e))))))))))))))))) ?_
        exact ht _ (J2_p hJ (by omega) (by omega))
      · exfalso
        exact c_2 rfl
  · try dsimp only
    refine V.iload C dL_law_192 rfl ?_
    refine V.iload C dL_law_194 rfl ?_
    refine V.icmp_ge C (tgt := 255) dL_law_196 (by decide) (fun c_1 => ?_) (fun c_1 => ?_)
    · exact kk σ hJ
    · exfalso
      exact absurd c_1 (nI_nlt (Nat.le_refl _) (by omega))

set_option maxRecDepth 100000 in
set_option maxHeartbeats 8000000 in
theorem law_t2 {κ : VK} {l : Launch} {D : va_G} {tys : List (ClassId × FieldType)} {nm : String} {cI : ClassId} {h : Nat → Nat} (hT : tys[0]? = some (cI, .int)) {b n : Nat} {xs : Nat → Int32} (hn : n ≤ 260) (C : Cx κ l D code RL wsL_law 16 ret tys room_1 nm) (CX : CxX κ b n xs) {aA Q P a : Nat} {g : Nat → Int32} {σ0 : Nat → Nat → Int32} (ha : a < 3) (hJ0 : J2 Q g P (a * 2) σ0) (kk : ∀ σ, J2 Q g P (a * 2 + 2) σ → V κ 40 1300 (SW cI h σ ++ [(aA, .inl (cI, Q, .inl g))]) 309 [some (.ref b), some (.ref (h 0)), some (.int (nI Q)), some (.ref aA), some (.int (nI P)), some (.int (nI a)), some (.int (nI 2)), none, none, none, none, none, none, none, none, none] []) : V κ 40 1300 (SW cI h σ0 ++ [(aA, .inl (cI, Q, .inl g))]) 267 [some (.ref b), some (.ref (h 0)), some (.int (nI Q)), some (.ref aA), some (.int (nI P)), some (.int (nI a)), some (.int (nI 0)), none, none, none, none, none, none, none, none, none] [] := by
  refine V.loopS (S := Nat → Nat → Int32) 2 (fun c σ => J2 Q g P (a * 2 + c) σ) (fun c σ => V κ 40 1300 (SW cI h σ ++ [(aA, .inl (cI, Q, .inl g))]) 267 [some (.ref b), some (.ref (h 0)), some (.int (nI Q)), some (.ref aA), some (.int (nI P)), some (.int (nI a)), some (.int (nI c)), none, none, none, none, none, none, none, none, none] []) (fun c hc σ hJ ht => ?_) (fun σ hJ => ?_) σ0 hJ0
  · have hz := hJ.1.sz
    have h5 := jBel_lt (jCell xs n (3 * c + a) >>> (nI 2 &&& 31)) (n := 5) (by decide)
    try dsimp only
    refine V.iload C dL_law_267 rfl ?_
    refine V.iconst C (v := nI 2) dL_law_269 (by decide) ?_
    refine V.icmp_ge C (tgt := 309) dL_law_270 (by decide) (fun c_1 => ?_) (fun c_1 => ?_)
    · exfalso
      exact c_1 (nI_lt hc (by decide))
    · refine V.aload_n C dL_law_273 rfl ?_
      refine V.iload C dL_law_274 rfl ?_
      refine V.iload C dL_law_276 rfl ?_
      refine V.aload_n C dL_law_278 rfl ?_
      refine V.iconst C (v := nI 3) dL_law_279 (by decide) ?_
      refine V.iload C dL_law_280 rfl ?_
      refine V.imul C dL_law_282 ?_
      refine V.topi (y := nI (3 * c)) (nI_mul _ _) ?_
      refine V.iload C dL_law_283 rfl ?_
      refine V.iadd C dL_law_285 ?_
      refine V.topi (y := nI (3 * c + a)) (nI_add _ _) ?_
      refine V.callSc C CX (ct_L_cell (k := (3 * c + a)) (by omega) (by omega)) gL_law_L_cell (n := 2) ⟨by decide, by decide, by decide +kernel⟩ rfl rfl ⟨Nat.le_of_ble_eq_true rfl, Nat.le_of_ble_eq_true rfl⟩ ⟨rfl, rfl, by first | exact Nat.le_of_ble_eq_true rfl | (show _ ≤ 600104; omega), by first | exact Nat.le_of_ble_eq_true rfl | (show _ ≤ 7301314; omega)⟩ (Nat.le_of_ble_eq_true rfl) rfl dL_law_286 ?_
      refine V.iconst C (v := nI 2) dL_law_289 (by decide) ?_
      refine V.ishr C dL_law_290 ?_
      refine V.iconst C (v := nI 5) dL_law_291 (by decide) ?_
      refine V.callSXi C (X := _) (ct_L_below (n := 5) (by decide) (by decide)) rfl gL_law_L_below (n := 2) ⟨by decide, by decide, by decide +kernel⟩ rfl rfl ⟨Nat.le_of_ble_eq_true rfl, Nat.le_of_ble_eq_true rfl⟩ ⟨rfl, rfl, by first | exact Nat.le_of_ble_eq_true rfl | (show _ ≤ 600104; omega), by first | exact Nat.le_of_ble_eq_true rfl | (show _ ≤ 7301314; omega)⟩ (Nat.le_of_ble_eq_true rfl) rfl dL_law_292 ?_
      refine V.callVXi C (X := _) (ct_X6_target (a := a) (b := c) (t := jBel (jCell xs n (3 * c + a) >>> (nI 2 &&& 31)) 5) (N := 0) (n := 3) hT hz.1 (by omega) (fun i hi => absurd hi (Nat.not_lt_zero i)) hz.2.2.2.2.2 (by omega) (by omega) (by omega) (by omega)) rfl gL_law_X6_target (n := 3) ⟨rfl, by decide, by decide, by decide +kernel⟩ rfl (q0 := 0) rfl rfl rfl ⟨Nat.le_of_ble_eq_true rfl, Nat.le_of_ble_eq_true rfl⟩ ⟨rfl, rfl, by first | exact Nat.le_of_ble_eq_true rfl | (show _ ≤ 600104; omega), by first | exact Nat.le_of_ble_eq_true rfl | (show _ ≤ 7301314; omega)⟩ (Nat.le_of_ble_eq_true rfl) rfl dL_law_295 ?_
      refine V.topi (y := nI 0) (hJ.2.2.1 _ (Nat.le_refl _)) ?_
      refine V.if_eq C (tgt := 303) dL_law_298 (by decide) (fun c_2 => ?_) (fun c_2 => ?_)
      · refine V.iinc C (v := nI (c + 1)) dL_law_303 rfl (nI_inc c) (by decide) rfl ?_
        dsimp only [List.set]
        refine V.goto C (tgt := 267) dL_law_306 (by decide) ?_
        refine V.sub (M := [some (.ref b), some (.ref (h 0)), some (.int (nI Q)), some (.ref aA), some (.int (nI P)), some (.int (nI a)), some (.int (nI (c + 1))), none, none, none, none, none, none, none, none, none]) (lsub_s rfl (lsub_s rfl (lsub_s rfl (lsub_s rfl (lsub_s rfl (lsub_s rfl (lsub_s rfl (lsub_n (lsub_n (lsub_n (lsub_n (lsub_n (lsub_n (lsub_n (lsub_n (lsub_n (lsub_e))))))))))))))))) ?_
        exact ht _ (J2_t (c := a * 2 + c) hJ (by omega) (by omega))
      · exfalso
        exact c_2 rfl
  · try dsimp only
    refine V.iload C dL_law_267 rfl ?_
    refine V.iconst C (v := nI 2) dL_law_269 (by decide) ?_
    refine V.icmp_ge C (tgt := 309) dL_law_270 (by decide) (fun c_1 => ?_) (fun c_1 => ?_)
    · exact kk σ hJ
    · exfalso
      exact absurd c_1 (nI_nlt (Nat.le_refl _) (by decide))
set_option maxRecDepth 100000 in
set_option maxHeartbeats 8000000 in
theorem law_t {κ : VK} {l : Launch} {D : va_G} {tys : List (ClassId × FieldType)} {nm : String} {cI : ClassId} {h : Nat → Nat} (hT : tys[0]? = some (cI, .int)) {b n : Nat} {xs : Nat → Int32} (hn : n ≤ 260) (C : Cx κ l D code RL wsL_law 16 ret tys room_1 nm) (CX : CxX κ b n xs) {aA Q P : Nat} {g : Nat → Int32} {σ0 : Nat → Nat → Int32} (hJ0 : J2 Q g P 0 σ0) (kk : ∀ σ, J2 Q g P 6 σ → V κ 40 1300 (SW cI h σ ++ [(aA, .inl (cI, Q, .inl g))]) 315 [some (.ref b), some (.ref (h 0)), some (.int (nI Q)), some (.ref aA), some (.int (nI P)), some (.int (nI 3)), none, none, none, none, none, none, none, none, none, none] []) : V κ 40 1300 (SW cI h σ0 ++ [(aA, .inl (cI, Q, .inl g))]) 258 [some (.ref b), some (.ref (h 0)), some (.int (nI Q)), some (.ref aA), some (.int (nI P)), some (.int (nI 0)), none, none, none, none, none, none, none, none, none, none] [] := by
  refine V.loopS (S := Nat → Nat → Int32) 3 (fun a σ => J2 Q g P (a * 2) σ) (fun a σ => V κ 40 1300 (SW cI h σ ++ [(aA, .inl (cI, Q, .inl g))]) 258 [some (.ref b), some (.ref (h 0)), some (.int (nI Q)), some (.ref aA), some (.int (nI P)), some (.int (nI a)), none, none, none, none, none, none, none, none, none, none] []) (fun a ha σ hJ ht => ?_) (fun σ hJ => ?_) σ0 hJ0
  · try dsimp only
    refine V.iload C dL_law_258 rfl ?_
    refine V.iconst C (v := nI 3) dL_law_260 (by decide) ?_
    refine V.icmp_ge C (tgt := 315) dL_law_261 (by decide) (fun c_1 => ?_) (fun c_1 => ?_)
    · exfalso
      exact c_1 (nI_lt ha (by decide))
    · refine V.iconst C (v := nI 0) dL_law_264 (by decide) ?_
      refine V.istore C dL_law_265 (by decide) rfl ?_
      dsimp only [List.set]
      refine V.sub (M := [some (.ref b), some (.ref (h 0)), some (.int (nI Q)), some (.ref aA), some (.int (nI P)), some (.int (nI a)), some (.int (nI 0)), none, none, none, none, none, none, none, none, none]) (lsub_s rfl (lsub_s rfl (lsub_s rfl (lsub_s rfl (lsub_s rfl (lsub_s rfl (lsub_s rfl (lsub_n (lsub_n (lsub_n (lsub_n (lsub_n (lsub_n (lsub_n (lsub_n (lsub_n (lsub_e))))))))))))))))) ?_
      refine law_t2 hT hn C CX ha hJ (fun τ hJ2 => ?_)
      refine V.iinc C (v := nI (a + 1)) dL_law_309 rfl (nI_inc a) (by decide) rfl ?_
      dsimp only [List.set]
      refine V.goto C (tgt := 258) dL_law_312 (by decide) ?_
      refine V.sub (M := [some (.ref b), some (.ref (h 0)), some (.int (nI Q)), some (.ref aA), some (.int (nI P)), some (.int (nI (a + 1))), none, none, none, none, none, none, none, none, none, none]) (lsub_s rfl (lsub_s rfl (lsub_s rfl (lsub_s rfl (lsub_s rfl (lsub_s rfl (lsub_n (lsub_n (lsub_n (lsub_n (lsub_n (lsub_n (lsub_n (lsub_n (lsub_n (lsub_n (lsub_e))))))))))))))))) ?_
      exact ht τ (by rw [show (a + 1) * 2 = a * 2 + 2 by omega]; exact hJ2)
  · try dsimp only
    refine V.iload C dL_law_258 rfl ?_
    refine V.iconst C (v := nI 3) dL_law_260 (by decide) ?_
    refine V.icmp_ge C (tgt := 315) dL_law_261 (by decide) (fun c_1 => ?_) (fun c_1 => ?_)
    · exact kk σ hJ
    · exfalso
      exact absurd c_1 (nI_nlt (Nat.le_refl _) (by decide))
