section PU7
/-- the ANSWER noted, the INTERVIEW moved on: all words hold, where it goes on or ends -/
theorem note_ok {σ : Nat → Nat → Int32} {N P Q n i pl a s : Nat} (h : Inv σ N P Q n) (hi : i < N) (h19 : σ 19 i = nI 0) (h20 : σ 20 i = nI pl) (hpl : pl < Q) (ha : a < jA σ pl) (hs1 : 1 ≤ s) (hs99 : s ≤ 99) (τ : Nat → Nat → Int32) (hτ : τ = jAns1 σ i pl a (nI s)) :
    InvS τ N P Q n ∧ InvF τ Q ∧ InvC τ N ∧ InvD τ N P ∧ InvEx τ N P Q i ∧ InvW τ N n ∧ τ 19 i = nI 0 ∧ τ 20 i = jAnsT σ i pl a (nI s) ∧ (jAnsT σ i pl a (nI s) = -1 ∨ (Prog τ Q i ∧ 0 ≤ (jAnsT σ i pl a (nI s)).toInt)) := by
  obtain ⟨hS, hF, hC, hD, hE, hW⟩ := h
  obtain ⟨-, hN40, -, hP24, hQz, hQ10, -, -⟩ := id hS
  obtain ⟨r0, r20, r21, r22, r23⟩ := jAns1_rows σ i pl a (nI s)
  rw [← hτ] at r0 r20 r21 r22 r23
  have q : ∀ k, (decide (k ≠ 20) && decide (k ≠ 21) && decide (k ≠ 22) && decide (k ≠ 23)) = true → τ k = σ k := fun k hk => by
    simp only [Bool.and_eq_true, decide_eq_true_eq] at hk
    exact r0 k hk.1.1.1 hk.1.1.2 hk.1.2 hk.2
  obtain ⟨hA1, hA2, hA3, hA4⟩ := Inv_jA hF hpl
  have ha5 : a < 5 := by omega
  obtain ⟨pl2, b1, b2, b4⟩ := (hE.1 i hi).2.2.2.2.1 h19
  have hpl2 : pl2 = pl := by
    have := b2.symm.trans h20
    rwa [nI_eq (by omega) (by omega)] at this
  subst hpl2
  have hfr : jGiven σ i pl2 = -1 := Prog_fresh hF hpl b4
  have hcnt := (hE.2.1 i (by omega)).1
  have hcle : jK σ Q i ≤ Q := cN_le _ Q
  have hgi : ∀ q, q < 10 → jGiven τ i q = if q = pl2 then nI a else jGiven σ i q := fun q hq => by
    rw [r23 i q hq (by omega)]
    simp
  have hgo : ∀ j, j ≠ i → ∀ q, q < 10 → jGiven τ j q = jGiven σ j q := fun j hj q hq => by
    rw [r23 j q hq (by omega), if_neg (fun e => hj e.1)]
  have hna : ¬ nI a = -1 := by
    rw [tI_eq, tI_n (by omega), tI_m1]
    omega
  have hK : jK τ Q i = jK σ Q i + 1 := by
    have h1 := cN_set (p := fun q => decide (jGiven τ i q ≠ -1) && decide (q < 10)) (q := fun q => decide (jGiven σ i q ≠ -1) && decide (q < 10)) (k := pl2) Q hpl (fun q hq => by
      by_cases h10 : q < 10
      · rw [hgi q h10, if_neg hq]
      · simp [h10])
    have e1 : cN (fun q => decide (jGiven τ i q ≠ -1) && decide (q < 10)) Q = jK τ Q i := cN_congr Q (fun q hq => by simp [show q < 10 by omega])
    have e2 : cN (fun q => decide (jGiven σ i q ≠ -1) && decide (q < 10)) Q = jK σ Q i := cN_congr Q (fun q hq => by simp [show q < 10 by omega])
    rw [e1, e2, hgi pl2 (by omega), if_pos rfl, hfr] at h1
    simp [hna, show pl2 < 10 by omega] at h1
    omega
  have hKo : ∀ j, j ≠ i → jK τ Q j = jK σ Q j := fun j hj => jK_dep (fun q hq => hgo j hj q (by omega))
  have hT := jAnsT_eq (σ := σ) (N := N) (Q := Q) (i := i) (pl := pl2) (a := a) (c := jK σ Q i) (nI s) hN40 hQ10 hF hQz hi hpl ha5 hcnt (by omega)
  refine ⟨InvS_dep (congrFun (q 0 rfl) 0) (congrFun (q 1 rfl) 0) (congrFun (q 3 rfl) 0) (congrFun (q 4 rfl) 0) hS, InvF_dep (q 8 rfl) (q 9 rfl) (q 1 rfl) hF, InvC_dep (q 11 rfl) (q 2 rfl) (q 12 rfl) (q 19 rfl) (q 18 rfl) hC,
    InvD_dep (q 13 rfl) (fun p hp => by rw [q 14 rfl]; exact (hD p hp).2.1) (q 15 rfl) (q 16 rfl) (q 17 rfl) (q 19 rfl) hD, ⟨fun j hj => ?_, fun j hj => ?_, fun j hj hj40 => ?_⟩, InvW_dep (q 11 rfl) (q 18 rfl) (q 19 rfl) (q 24 rfl) hW, by rw [q 19 rfl]; exact h19, by rw [r20, if_pos rfl], ?_⟩
  · obtain ⟨a1, a2, a3, a4, a5, a6⟩ := hE.1 j hj
    rw [q 17 rfl, q 18 rfl, q 13 rfl, jP_dep (q 17 rfl), q 19 rfl, r21, r22]
    refine ⟨a1, a2, a3, ?_, fun hji => ⟨fun hr => ?_, fun hr => ?_⟩⟩
    · by_cases e : j = i
      · subst e
        rw [if_pos rfl, if_pos rfl]
        have e1 : (σ 21 j).toInt = jK σ Q j := by rw [hcnt, tI_n (by omega)]
        rw [tI_add (by rw [tI_n (by omega)]; omega) (by rw [tI_n (by omega)]; omega), tI_add (by rw [tI_n (by omega)]; omega) (by rw [tI_n (by omega)]; omega), tI_n (by omega), tI_n (by omega)]
        omega
      · rw [if_neg e, if_neg e]
        exact a4
    · exact Prog_dep' (congrFun (q 1 rfl) 1) (by rw [r20, if_neg hji]) (fun q hq => hgo j hji q (by omega)) (a5 hr)
    · rw [r20, if_neg hji]
      exact a6 hr
  · obtain ⟨c1, c2⟩ := hE.2.1 j hj
    refine ⟨?_, fun x hx => ?_⟩
    · rw [r21]
      by_cases e : j = i
      · subst e
        rw [if_pos rfl, hK, c1, nI_add]
      · rw [if_neg e, hKo j e, c1]
    · rw [q 8 rfl]
      by_cases e : j = i
      · subst e
        rw [hgi x hx]
        by_cases e2 : x = pl2
        · subst e2
          rw [if_pos rfl]
          refine Or.inr ⟨hi, hpl, ?_, ?_⟩
          · rw [tI_n (by omega)]; omega
          · rw [tI_n (by omega)]; omega
        · rw [if_neg e2]
          exact c2 x hx
      · rw [hgo j e x hx]
        exact c2 x hx
  · rw [r22, if_neg (by omega), q 24 rfl]
    exact hE.2.2 j hj hj40
  · have hr := hF.2.2
    have hcl := clamp_toInt hr.1
    rw [hT]
    by_cases q1 : ((jK σ Q i : Nat) : Int) + 1 < (σ 1 1).toInt
    · rw [if_pos q1]
      right
      have hm : (i + (jK σ Q i + 1)) % (σ 1 1).toNatClampNeg < (σ 1 1).toNatClampNeg := Nat.mod_lt _ (by omega)
      refine ⟨⟨(i + (jK σ Q i + 1)) % (σ 1 1).toNatClampNeg, by omega, ?_, ?_⟩, ?_⟩
      · rw [r20, if_pos rfl, hT, if_pos q1]
      · rw [hK]
        unfold Pr at b4 ⊢
        rw [q 1 rfl]
        rcases b4 with ⟨d1, d2, d3⟩ | ⟨d1, d2⟩
        · refine Or.inl ⟨by push_cast; omega, fun x hx => ?_, by congr 1⟩
          rw [hgi x (by omega)]
          by_cases e : x = pl2
          · rw [if_pos e]
            constructor
            · intro _
              exact ⟨jK σ Q i, by omega, by rw [e, d3]⟩
            · intro _
              exact hna
          · rw [if_neg e, d2 x hx]
            constructor
            · rintro ⟨j, hj, he⟩
              exact ⟨j, by omega, he⟩
            · rintro ⟨j, hj, he⟩
              by_cases e3 : j = jK σ Q i
              · exact absurd (he.trans (by rw [e3, ← d3])) e
              · exact ⟨j, by omega, he⟩
        · omega
      · rw [tI_n (by omega)]
        omega
    · rw [if_neg q1]
      have second : ∀ x : Nat, x < Q → (∀ y, y < Q → jGiven σ i y ≠ -1 → y < x) → pl2 < x → (σ 1 1).toInt ≤ ((jK σ Q i + 1 : Nat) : Int) → τ 20 i = nI x → Prog τ Q i := by
        intro x hx hy hp hr2 h20x
        refine ⟨x, hx, h20x, ?_⟩
        rw [hK]
        unfold Pr
        rw [q 1 rfl]
        refine Or.inr ⟨hr2, fun y hyQ hyg => ?_⟩
        rw [hgi y (by omega)] at hyg
        by_cases e : y = pl2
        · omega
        · rw [if_neg e] at hyg
          exact hy y hyQ hyg
      by_cases q2 : ((jK σ Q i : Nat) : Int) + 1 = (σ 1 1).toInt
      · rw [if_pos q2]
        by_cases q3 : (σ 1 1).toInt < Q
        · rw [if_pos q3]
          right
          have er : σ 1 1 = nI (σ 1 1).toNatClampNeg := nI_of_toInt hcl.symm
          refine ⟨second (σ 1 1).toNatClampNeg (by omega) (fun y hyQ hyg => ?_) ?_ (by push_cast; omega) ?_, hr.1⟩
          · rcases b4 with ⟨d1, d2, d3⟩ | ⟨d1, d2⟩
            · obtain ⟨j, -, he⟩ := (d2 y hyQ).mp hyg
              rw [he]
              exact Nat.mod_lt _ (by omega)
            · omega
          · rcases b4 with ⟨d1, d2, d3⟩ | ⟨d1, d2⟩
            · rw [d3]
              exact Nat.mod_lt _ (by omega)
            · omega
          · rw [r20, if_pos rfl, hT, if_neg q1, if_pos q2, if_pos q3]
            exact er
        · rw [if_neg q3]
          exact Or.inl rfl
      · rw [if_neg q2]
        rcases hF.2.1 pl2 a hpl ha5 with hw | ⟨hw1, hw2⟩
        · exact Or.inl hw
        · right
          have ew : jWay σ pl2 a = nI (jWay σ pl2 a).toInt.toNat := nI_of_toInt (by omega)
          have hrk : (σ 1 1).toInt ≤ (jK σ Q i : Nat) := by
            rcases b4 with ⟨d1, -, -⟩ | ⟨d1, -⟩
            · omega
            · exact d1
          refine ⟨second (jWay σ pl2 a).toInt.toNat (by omega) (fun y hyQ hyg => ?_) (by omega) (by push_cast; omega) ?_, by omega⟩
          · rcases b4 with ⟨d1, -, -⟩ | ⟨-, d2⟩
            · omega
            · have := d2 y hyQ hyg
              omega
          · rw [r20, if_pos rfl, hT, if_neg q1, if_neg q2]
            exact ew
end PU7
