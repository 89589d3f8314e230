section PU9
/-! an INTERVIEW begins -/
theorem jBegin_rows (σ : Nat → Nat → Int32) (N p : Nat) : (∀ k, k ≠ 4 → k ≠ 14 → k ≠ 16 → k ≠ 17 → k ≠ 18 → k ≠ 19 → k ≠ 20 → jBegin σ N p k = σ k) ∧
    jBegin σ N p 4 0 = nI (N + 1) ∧ (∀ j, jBegin σ N p 14 j = if j = p then (if σ 14 p + nI 2 < nI 9 then σ 14 p + nI 2 else nI 9) else σ 14 j) ∧ (∀ j, jBegin σ N p 16 j = if j = p then nI N else σ 16 j) ∧ (∀ j, jBegin σ N p 17 j = if j = N then nI p else σ 17 j) ∧ (∀ j, jBegin σ N p 18 j = if j = N then σ 13 p else σ 18 j) ∧ (∀ j, jBegin σ N p 19 j = if j = N then nI 0 else σ 19 j) ∧ (∀ j, jBegin σ N p 20 j = if j = N then jFirst σ (nI N) else σ 20 j) := by
  have hf : jFirst (jIAdd σ N (nI p) (σ 13 p)) (nI N) = jFirst σ (nI N) := rfl
  unfold jBegin
  rw [hf]
  unfold jAsk
  refine ⟨fun k h1 h2 h3 h4 h5 h6 h7 => ?_, rfl, fun j => ?_, fun j => ?_, fun j => ?_, fun j => ?_, fun j => ?_, fun j => ?_⟩
  · rw [sW_nk _ _ _ h3, sW_nk _ _ _ h2, sW_nk _ _ _ h7]
    unfold jIAdd
    rw [sW_nk _ _ _ h1, sW_nk _ _ _ h6, sW_nk _ _ _ h5, sW_nk _ _ _ h4]
  · rw [sW_nk _ _ _ (by decide)]
    by_cases e : j = p
    · subst e; rw [if_pos rfl, sW_at]; rfl
    · rw [if_neg e, sW_ni _ _ _ e]; rfl
  · by_cases e : j = p
    · subst e; rw [if_pos rfl, sW_at]
    · rw [if_neg e, sW_ni _ _ _ e]; rfl
  · rw [sW_nk _ _ _ (by decide), sW_nk _ _ _ (by decide), sW_nk _ _ _ (by decide)]
    unfold jIAdd
    rw [sW_nk _ _ _ (by decide), sW_nk _ _ _ (by decide), sW_nk _ _ _ (by decide)]
    by_cases e : j = N
    · subst e; rw [if_pos rfl, sW_at]
    · rw [if_neg e, sW_ni _ _ _ e]
  · rw [sW_nk _ _ _ (by decide), sW_nk _ _ _ (by decide), sW_nk _ _ _ (by decide)]
    unfold jIAdd
    rw [sW_nk _ _ _ (by decide), sW_nk _ _ _ (by decide)]
    by_cases e : j = N
    · subst e; rw [if_pos rfl, sW_at]
    · rw [if_neg e, sW_ni _ _ _ e]; rfl
  · rw [sW_nk _ _ _ (by decide), sW_nk _ _ _ (by decide), sW_nk _ _ _ (by decide)]
    unfold jIAdd
    rw [sW_nk _ _ _ (by decide)]
    by_cases e : j = N
    · subst e; rw [if_pos rfl, sW_at]
    · rw [if_neg e, sW_ni _ _ _ e]; rfl
  · rw [sW_nk _ _ _ (by decide), sW_nk _ _ _ (by decide)]
    by_cases e : j = N
    · subst e; rw [if_pos rfl, sW_at]
    · rw [if_neg e, sW_ni _ _ _ e]; rfl
theorem cN_ext {p q : Nat → Bool} {N : Nat} (h : ∀ i, i < N → p i = q i) (hN : p N = false) : cN p (N + 1) = cN q N := by
  rw [cN, hN, cN_congr N h]
  rfl
/-- whether a PERSON is in an INTERVIEW -/
theorem jTaken_iff {σ : Nat → Nat → Int32} {N P Q n p : Nat} (h : Inv σ N P Q n) (hp : p < P) : (jTaken σ (σ 16 p) = true ↔ ∃ i, i < N ∧ jP σ i = p ∧ (σ 19 i = nI 0 ∨ σ 19 i = nI 1)) ∧ ∀ i k, i < N → k < N → jP σ i = p → jP σ k = p → (σ 19 i = nI 0 ∨ σ 19 i = nI 1) → (σ 19 k = nI 0 ∨ σ 19 k = nI 1) → i = k := by
  obtain ⟨hS, hF, hC, hD, hE, hW⟩ := h
  have h4 := hS.1
  have hN40 := hS.2.1
  have ne23 : ∀ x, (x = nI 2 ∨ x = nI 3) → ¬ (x = nI 0 ∨ x = nI 1) := by
    rintro x (rfl | rfl) <;> decide
  rcases (hD p hp).2.2.2 with ⟨d1, d2⟩ | ⟨i, hi, d1, d2, d3⟩
  · refine ⟨⟨fun q => ?_, ?_⟩, fun i k hi _ hip _ _ _ => absurd hip (d2 i hi)⟩
    · rw [d1] at q
      unfold jTaken at q
      simp at q
    · rintro ⟨i, hi, hip, -⟩
      exact absurd hip (d2 i hi)
  · have ht : jTaken σ (σ 16 p) = true ↔ (σ 19 i = nI 0 ∨ σ 19 i = nI 1) := by
      unfold jTaken
      rw [d1, h4, nI_clamp (by omega), decide_eq_true (nI_lt hi (by omega)), decide_eq_false (nI_pos (show i < 2 ^ 31 by omega))]
      simp only [Bool.not_false, Bool.true_and, Bool.or_eq_true, decide_eq_true_eq]
      rfl
    have only : ∀ k, k < N → jP σ k = p → (σ 19 k = nI 0 ∨ σ 19 k = nI 1) → k = i := fun k hk hkp hks => by
      refine Classical.byContradiction fun hne => ?_
      exact ne23 _ (d3 k hk hkp hne) hks
    refine ⟨⟨fun q => ⟨i, hi, d2, ht.mp q⟩, ?_⟩, fun j k hj hk hjp hkp hjs hks => (only j hj hjp hjs).trans (only k hk hkp hks).symm⟩
    rintro ⟨k, hk, hkp, hks⟩
    rw [ht, ← only k hk hkp hks]
    exact hks
theorem jFirst_eq {σ : Nat → Nat → Int32} {N Q : Nat} (hF : InvF σ Q) (hN : N ≤ 40) : jFirst σ (nI N) = if 0 < (σ 1 1).toInt then nI (N % (σ 1 1).toNatClampNeg) else nI 0 := by
  have hr := hF.2.2
  have hcl := clamp_toInt hr.1
  have er : σ 1 1 = nI (σ 1 1).toNatClampNeg := nI_of_toInt hcl.symm
  unfold jFirst
  by_cases q : 0 < (σ 1 1).toInt
  · rw [if_pos q, if_pos (by rw [tI_lt, tI_0]; exact q)]
    generalize (σ 1 1).toNatClampNeg = r at hcl er ⊢
    rw [er, nI_mod (by omega) (by omega) (by omega)]
  · rw [if_neg q, if_neg (by rw [tI_lt, tI_0]; exact q)]
theorem begin_ok {σ : Nat → Nat → Int32} {N P Q n p : Nat} (h : Inv σ N P Q n) (hp : p < P) (hc : jCan σ p (nI 0) = true) (hN : N < 40) (hQ : 0 < Q) : Inv (jBegin σ N p) (N + 1) P Q n ∧ jTaken (jBegin σ N p) (jBegin σ N p 16 p) = true := by
  have htk := (jTaken_iff h hp).1
  obtain ⟨hS, hF, hC, hD, hE, hW⟩ := id h
  obtain ⟨s4, -, s3, hP24, s1, hQ10, s0, hn9⟩ := id hS
  obtain ⟨r0, r4, r14, r16, r17, r18, r19, r20⟩ := jBegin_rows σ N p
  generalize hτ : jBegin σ N p = τ at r0 r4 r14 r16 r17 r18 r19 r20
  have q : ∀ k, (decide (k ≠ 4) && decide (k ≠ 14) && decide (k ≠ 16) && decide (k ≠ 17) && decide (k ≠ 18) && decide (k ≠ 19) && decide (k ≠ 20)) = true → τ k = σ k := fun k hk => by
    simp only [Bool.and_eq_true, decide_eq_true_eq] at hk
    exact r0 k hk.1.1.1.1.1.1 hk.1.1.1.1.1.2 hk.1.1.1.1.2 hk.1.1.1.2 hk.1.1.2 hk.1.2 hk.2
  have hfree : ¬ ∃ i, i < N ∧ jP σ i = p ∧ (σ 19 i = nI 0 ∨ σ 19 i = nI 1) := by
    rw [← htk]
    unfold jCan at hc
    simp at hc
    simp [hc.1]
  have hPo : ∀ i, i < N → jP τ i = jP σ i := fun i hi => by unfold jP; rw [r17, if_neg (by omega)]
  have hPN : jP τ N = p := by unfold jP; rw [r17, if_pos rfl, nI_clamp (by omega)]
  have hCo : ∀ i, i < N → jC τ i = jC σ i := fun i hi => by unfold jC; rw [r18, if_neg (by omega)]
  have hSo : ∀ s i, i < N → isS τ s i = isS σ s i := fun s i hi => by unfold isS; rw [r19, if_neg (by omega)]
  have hSN : ∀ s, 0 < s → s < 4 → isS τ s N = false := fun s h0 h1 => isS_ne (s := 0) (by omega) h1 (by rw [r19, if_pos rfl]) (by omega)
  have hG : ∀ i x, jGiven τ i x = jGiven σ i x := fun i x => jGiven_dep (q 23 rfl) i x
  have hK : ∀ i, jK τ Q i = jK σ Q i := fun i => jK_dep (fun x _ => hG i x)
  have hS' : InvS τ (N + 1) P Q n := ⟨r4, by omega, by rw [q 3 rfl]; exact s3, hP24, by rw [q 1 rfl]; exact s1, hQ10, by rw [q 0 rfl]; exact s0, hn9⟩
  have hC' : InvC τ (N + 1) := by
    unfold InvC
    rw [q 11 rfl, q 2 rfl, q 12 rfl]
    refine ⟨hC.1, hC.2.1, hC.2.2.1, fun c hcc => ?_⟩
    rw [hC.2.2.2 c hcc, cN_ext (q := fun i => isS σ 1 i && decide (jC σ i = c)) (fun i hi => by rw [hSo 1 i hi, hCo i hi]) (by rw [hSN 1 (by omega) (by omega)]; rfl)]
  have hD' : InvD τ (N + 1) P := by
    intro x hx
    obtain ⟨a, b, c, d⟩ := hD x hx
    rw [q 13 rfl, q 15 rfl]
    refine ⟨a, ?_, ?_, ?_⟩
    · rw [r14]
      by_cases e : x = p
      · subst e
        rw [if_pos rfl]
        have h2 : (σ 14 x + nI 2).toInt = (σ 14 x).toInt + 2 := by rw [tI_add (by rw [tI_n (by omega)]; omega) (by rw [tI_n (by omega)]; omega), tI_n (by omega)]; rfl
        split
        · rename_i hlt
          rw [tI_lt, h2, tI_n (by omega)] at hlt
          omega
        · rw [tI_n (by omega)]
          omega
      · rw [if_neg e]
        exact b
    · rw [c, cN_ext (p := fun i => isS τ 1 i && decide (jP τ i = x)) (q := fun i => isS σ 1 i && decide (jP σ i = x)) (fun i hi => by rw [hSo 1 i hi, hPo i hi]) (by rw [hSN 1 (by omega) (by omega)]; rfl),
        cN_ext (p := fun i => isS τ 2 i && decide (jP τ i = x)) (q := fun i => isS σ 2 i && decide (jP σ i = x)) (fun i hi => by rw [hSo 2 i hi, hPo i hi]) (by rw [hSN 2 (by omega) (by omega)]; rfl)]
    · by_cases e : x = p
      · subst e
        right
        refine ⟨N, by omega, by rw [r16, if_pos rfl], hPN, fun j hj hjp hjN => ?_⟩
        have hjl : j < N := by omega
        rw [r19, if_neg hjN]
        rw [hPo j hjl] at hjp
        have h3 := (hE.1 j hjl).2.2.1
        have h4 : ¬ (σ 19 j = nI 0 ∨ σ 19 j = nI 1) := fun hh => hfree ⟨j, hjl, hjp, hh⟩
        rcases h3 with h3 | h3 | h3 | h3
        · exact absurd (Or.inl h3) h4
        · exact absurd (Or.inr h3) h4
        · exact Or.inl h3
        · exact Or.inr h3
      · rw [r16, if_neg e]
        rcases d with ⟨d1, d2⟩ | ⟨i, hi, d1, d2, d3⟩
        · refine Or.inl ⟨d1, fun i hi => ?_⟩
          by_cases e2 : i = N
          · subst e2
            rw [hPN]
            exact fun e3 => e e3.symm
          · rw [hPo i (by omega)]
            exact d2 i (by omega)
        · refine Or.inr ⟨i, by omega, d1, by rw [hPo i hi]; exact d2, fun j hj hjp hji => ?_⟩
          by_cases e2 : j = N
          · subst e2
            rw [hPN] at hjp
            exact absurd hjp.symm e
          · rw [r19, if_neg e2]
            rw [hPo j (by omega)] at hjp
            exact d3 j (by omega) hjp hji
  have hE' : InvE τ (N + 1) P Q := by
    refine ⟨fun i hi => ?_, fun i hi => ?_, fun i hi hi40 => ?_⟩
    · rw [q 21 rfl, q 22 rfl, q 13 rfl]
      by_cases e : i = N
      · subst e
        have hz : σ 21 i = nI (jK σ Q i) := (hE.2.1 i hN).1
        have hk0 : jK σ Q i = 0 := cN_0 Q (fun x hx => by
          have h5 := ((hE.2.1 i hN).2 x (by omega)).resolve_right (fun hh => absurd hh.1 (Nat.lt_irrefl _))
          simp [h5])
        have h22 := (hE.2.2 i (Nat.le_refl _) hN).1
        rw [r17, if_pos rfl, r18, if_pos rfl, hPN, r19, if_pos rfl, r20, if_pos rfl, hz, hk0, h22]
        refine ⟨⟨by rw [tI_n (by omega)]; omega, by rw [tI_n (by omega)]; omega⟩, rfl, Or.inl rfl, by decide, fun _ => ?_, fun hh => absurd rfl hh⟩
        have hr := hF.2.2
        have hcl := clamp_toInt hr.1
        have hf := jFirst_eq hF (show i ≤ 40 by omega)
        have none : ∀ x, x < Q → jGiven τ i x = -1 := fun x hx => by
          rw [hG]
          exact ((hE.2.1 i hN).2 x (by omega)).resolve_right (fun hh => absurd hh.1 (Nat.lt_irrefl _))
        by_cases q0 : 0 < (σ 1 1).toInt
        · have hm : i % (σ 1 1).toNatClampNeg < (σ 1 1).toNatClampNeg := Nat.mod_lt _ (by omega)
          refine ⟨i % (σ 1 1).toNatClampNeg, by omega, by rw [r20, if_pos rfl, hf, if_pos q0], ?_⟩
          rw [hK, hk0]
          unfold Pr
          rw [q 1 rfl]
          refine Or.inl ⟨by omega, fun x hx => ⟨fun hh => absurd (none x hx) hh, ?_⟩, by rw [Nat.add_zero]⟩
          rintro ⟨j, hj, -⟩
          omega
        · refine ⟨0, hQ, by rw [r20, if_pos rfl, hf, if_neg q0], ?_⟩
          rw [hK, hk0]
          unfold Pr
          rw [q 1 rfl]
          exact Or.inr ⟨by omega, fun x hx hh => absurd (none x hx) hh⟩
      · obtain ⟨a1, a2, a3, a4, a5, a6⟩ := hE.1 i (by omega)
        rw [r17, if_neg e, r18, if_neg e, hPo i (by omega), r19, if_neg e, r20, if_neg e]
        exact ⟨a1, a2, a3, a4, fun hh => Prog_dep' (by rw [q 1 rfl]) (by rw [r20, if_neg e]) (fun x _ => hG i x) (a5 hh), a6⟩
    · rw [q 21 rfl, hK, q 8 rfl]
      refine ⟨(hE.2.1 i hi).1, fun x hx => ?_⟩
      rw [hG]
      exact ((hE.2.1 i hi).2 x hx).imp id (fun hh => ⟨by omega, hh.2⟩)
    · rw [q 22 rfl, q 24 rfl]
      exact hE.2.2 i (by omega) hi40
  have hW' : InvW τ (N + 1) n := by
    intro i hi
    have h1 := wAll_ext (c := isS τ 1) (cell := jC τ) (M := jMargin τ) (N := N) (n := n) (hSN 1 (by omega) (by omega)) i hi
    rw [h1, q 24 rfl]
    split
    · rename_i hlt
      rw [hW i hlt]
      exact wAll_congr (fun j hj => (hSo 1 j hj).symm) (fun j hj => (hCo j hj).symm) (fun g _ => by rw [jMargin_dep' (q 11 rfl)]) i hlt
    · rw [show i = N by omega]
      exact (hE.2.2 N (Nat.le_refl _) hN).2
  refine ⟨⟨hS', InvF_dep (q 8 rfl) (q 9 rfl) (q 1 rfl) hF, hC', hD', hE', hW'⟩, ?_⟩
  exact (jTaken_iff (σ := τ) (N := N + 1) (P := P) (Q := Q) (n := n) ⟨hS', InvF_dep (q 8 rfl) (q 9 rfl) (q 1 rfl) hF, hC', hD', hE', hW'⟩ hp).1.mpr ⟨N, by omega, hPN, Or.inl (by rw [r19, if_pos rfl])⟩
end PU9
